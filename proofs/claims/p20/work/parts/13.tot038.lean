set_option maxHeartbeats 8000000 in
set_option maxRecDepth 200000 in
theorem ts_X10_undo_26 {post : Int32 → Int32 → Int32 → (Nat → Int32) → Prop} {SB : Int} {next : Int32 → Int32 → Int32 → (Nat → Int32) → Prop} {n26 : Int} (uL : Nat → Int32) (aAo : ∀ k : Nat, k % 21 = 17 → -1 ≤ Int32.toInt (uL k) ∧ Int32.toInt (uL k) ≤ SB) (aAp : ∀ k : Nat, k % 21 = 19 → 0 ≤ Int32.toInt (uL k) ∧ Int32.toInt (uL k) ≤ 9) (hc0 : -1 ≤ SB ∧ SB ≤ 7) (hpost : ∀ (r : Int32) (xG : Int32) (aBI : Int32) (aBf : Nat → Int32), (-1 ≤ Int32.toInt r ∧ Int32.toInt r ≤ 11) → (0 ≤ Int32.toInt xG ∧ Int32.toInt xG ≤ 0) → (0 ≤ Int32.toInt aBI ∧ Int32.toInt aBI ≤ 11) → (∀ k : Nat, k = 17 → -1 ≤ Int32.toInt (aBf k) ∧ Int32.toInt (aBf k) ≤ SB) → (∀ k : Nat, k = 19 → 0 ≤ Int32.toInt (aBf k) ∧ Int32.toInt (aBf k) ≤ 9) → post r xG aBI aBf) (hKn : ∀ (x1 : Int32) (bY : Int32) (bU : Int32) (qG : Nat → Int32), (0 ≤ Int32.toInt x1 ∧ Int32.toInt x1 ≤ 21) → (0 ≤ Int32.toInt bY ∧ Int32.toInt bY ≤ 0) → (0 ≤ Int32.toInt bU ∧ Int32.toInt bU ≤ 11) → (∀ k : Nat, k = 17 → -1 ≤ Int32.toInt (qG k) ∧ Int32.toInt (qG k) ≤ SB) → (∀ k : Nat, k = 19 → 0 ≤ Int32.toInt (qG k) ∧ Int32.toInt (qG k) ≤ 9) → (21 - Int32.toInt x1 < n26) → next x1 bY bU qG) (x1 bY bU : Int32) (qG : Nat → Int32) (aBK : 0 ≤ Int32.toInt x1 ∧ Int32.toInt x1 ≤ 21) (yG : 0 ≤ Int32.toInt bY ∧ Int32.toInt bY ≤ 0) (aAZ : 0 ≤ Int32.toInt bU ∧ Int32.toInt bU ≤ 11) (xU : ∀ k : Nat, k = 17 → -1 ≤ Int32.toInt (qG k) ∧ Int32.toInt (qG k) ≤ SB) (xV : ∀ k : Nat, k = 19 → 0 ≤ Int32.toInt (qG k) ∧ Int32.toInt (qG k) ≤ 9) (hn26 : 21 - Int32.toInt x1 ≤ n26) : ws_X10_undo_26 post next uL x1 bY bU qG := by
  have l0 := aEc
  have l1 := li_21
  refine And.intro (fun c1 => ?_) (fun c1 => ?_)
  · skip
    have c1 := (aAO _ _).mp c1
    exact hpost _ _ _ _ (by omega) yG aAZ xU xV
  · skip
    have c1 := mt (aAO _ _).mpr c1
    intro v2 ev2
    have f3 : Int32.toInt (21 * bU) = Int32.toInt bU * 21 := ta_cmul _ _ (by decide) (by omega)
    rw [← ev2] at f3
    intro v4 ev4
    have f5 : Int32.toInt (v2 + x1) = Int32.toInt v2 + Int32.toInt x1 := aAD _ _ (by omega)
    rw [← ev4] at f5
    refine And.intro (aBZ (by omega)) ?_
    have q6 := aAo v4.toNatClampNeg
    have q7 := aAp v4.toNatClampNeg
    have q8 : v4.toNatClampNeg = (Int32.toInt v4).toNat := rfl
    intro v9 ev9
    have hv9 := congrArg Int32.toInt ev9
    refine And.intro (aBZ (by omega)) ?_
    have f12 := aAT v9
    have e11 : ∀ k : Nat, k = 17 → -1 ≤ Int32.toInt ((upd qG x1.toNatClampNeg v9) k) ∧ Int32.toInt ((upd qG x1.toNatClampNeg v9) k) ≤ SB := aCJ (C := fun k => k = 17) xU (fun hk => by have e9 : x1.toNatClampNeg = (Int32.toInt x1).toNat := rfl; have hk : x1.toNatClampNeg = 17 := hk; omega)
    have e13 : ∀ k : Nat, k = 19 → 0 ≤ Int32.toInt ((upd qG x1.toNatClampNeg v9) k) ∧ Int32.toInt ((upd qG x1.toNatClampNeg v9) k) ≤ 9 := aCJ (C := fun k => k = 19) xV (fun hk => by have e9 : x1.toNatClampNeg = (Int32.toInt x1).toNat := rfl; have hk : x1.toNatClampNeg = 19 := hk; omega)
    intro v14 ev14
    have f15 : Int32.toInt (x1 + 1) = Int32.toInt x1 + Int32.toInt (1 : Int32) := aAD _ _ (by omega)
    rw [← ev14] at f15
    exact hKn v14 bY bU (upd qG x1.toNatClampNeg v9) (by omega) yG aAZ e11 e13 (by omega)
set_option maxHeartbeats 8000000 in
set_option maxRecDepth 200000 in
theorem tb_X10_undo_26 {post : Int32 → Int32 → Int32 → (Nat → Int32) → Prop} {SB : Int} (uL : Nat → Int32) (aAo : ∀ k : Nat, k % 21 = 17 → -1 ≤ Int32.toInt (uL k) ∧ Int32.toInt (uL k) ≤ SB) (aAp : ∀ k : Nat, k % 21 = 19 → 0 ≤ Int32.toInt (uL k) ∧ Int32.toInt (uL k) ≤ 9) (hc0 : -1 ≤ SB ∧ SB ≤ 7) (hpost : ∀ (r : Int32) (xG : Int32) (aBI : Int32) (aBf : Nat → Int32), (-1 ≤ Int32.toInt r ∧ Int32.toInt r ≤ 11) → (0 ≤ Int32.toInt xG ∧ Int32.toInt xG ≤ 0) → (0 ≤ Int32.toInt aBI ∧ Int32.toInt aBI ≤ 11) → (∀ k : Nat, k = 17 → -1 ≤ Int32.toInt (aBf k) ∧ Int32.toInt (aBf k) ≤ SB) → (∀ k : Nat, k = 19 → 0 ≤ Int32.toInt (aBf k) ∧ Int32.toInt (aBf k) ≤ 9) → post r xG aBI aBf) : ∀ (n : Nat) (x1 bY bU : Int32) (qG : Nat → Int32), (0 ≤ Int32.toInt x1 ∧ Int32.toInt x1 ≤ 21) → (0 ≤ Int32.toInt bY ∧ Int32.toInt bY ≤ 0) → (0 ≤ Int32.toInt bU ∧ Int32.toInt bU ≤ 11) → (∀ k : Nat, k = 17 → -1 ≤ Int32.toInt (qG k) ∧ Int32.toInt (qG k) ≤ SB) → (∀ k : Nat, k = 19 → 0 ≤ Int32.toInt (qG k) ∧ Int32.toInt (qG k) ≤ 9) → (21 - Int32.toInt x1 < (n : Int)) → wb_X10_undo_26 post uL n x1 bY bU qG := by
  intro n
  induction n with
  | zero =>
    intro x1 bY bU qG aBK yG aAZ xU xV hm
    exfalso; omega
  | succ n ih =>
    intro x1 bY bU qG aBK yG aAZ xU xV hm
    exact ts_X10_undo_26 uL aAo aAp hc0 hpost ih x1 bY bU qG aBK yG aAZ xU xV (by omega)
set_option maxHeartbeats 8000000 in
set_option maxRecDepth 200000 in
theorem t_X10_undo {post : Int32 → Int32 → Int32 → (Nat → Int32) → Prop} {SB : Int} {bY bU : Int32} {qG uL : Nat → Int32} (yG : 0 ≤ Int32.toInt bY ∧ Int32.toInt bY ≤ 1) (aAZ : 0 ≤ Int32.toInt bU ∧ Int32.toInt bU ≤ 12) (xU : ∀ k : Nat, k = 17 → -1 ≤ Int32.toInt (qG k) ∧ Int32.toInt (qG k) ≤ SB) (xV : ∀ k : Nat, k = 19 → 0 ≤ Int32.toInt (qG k) ∧ Int32.toInt (qG k) ≤ 9) (aAo : ∀ k : Nat, k % 21 = 17 → -1 ≤ Int32.toInt (uL k) ∧ Int32.toInt (uL k) ≤ SB) (aAp : ∀ k : Nat, k % 21 = 19 → 0 ≤ Int32.toInt (uL k) ∧ Int32.toInt (uL k) ≤ 9) (hc0 : -1 ≤ SB ∧ SB ≤ 7) (hpost : ∀ (r : Int32) (xG : Int32) (aBI : Int32) (aBf : Nat → Int32), (-1 ≤ Int32.toInt r ∧ Int32.toInt r ≤ 11) → (0 ≤ Int32.toInt xG ∧ Int32.toInt xG ≤ 0) → (0 ≤ Int32.toInt aBI ∧ Int32.toInt aBI ≤ 11) → (∀ k : Nat, k = 17 → -1 ≤ Int32.toInt (aBf k) ∧ Int32.toInt (aBf k) ≤ SB) → (∀ k : Nat, k = 19 → 0 ≤ Int32.toInt (aBf k) ∧ Int32.toInt (aBf k) ≤ 9) → post r xG aBI aBf) : wp_X10_undo post bY bU qG uL := by
  have l0 := aI2
  have l1 := aE0
  have l2 := aEc
  refine And.intro (fun c16 => ?_) (fun c16 => ?_)
  · skip
    have c16 := mt (zJ _ _).mpr c16
    intro v17 ev17
    have f18 : Int32.toInt (bU - 1) = Int32.toInt bU - Int32.toInt (1 : Int32) := aCA _ _ (by omega)
    rw [← ev17] at f18
    exact ⟨23, tb_X10_undo_26 uL aAo aAp hc0 hpost _ 0 0 v17 qG (by omega) (by omega) (by omega) xU xV (by omega)⟩
  · skip
    have c16 := (zJ _ _).mp c16
    exact hpost _ _ _ _ (by omega) (by omega) (by omega) xU xV
set_option maxHeartbeats 8000000 in
set_option maxRecDepth 200000 in
theorem t_X10_reached {post : Int32 → Int32 → Int32 → (Nat → Int32) → Prop} {p0 bT aG bL bY : Int32} {m_x gR nG oO pJ sW : Nat → Int32} (xJ : 0 ≤ Int32.toInt bT ∧ Int32.toInt bT ≤ 16) (vZ : 0 ≤ Int32.toInt aG ∧ Int32.toInt aG ≤ 8) (yJ : 0 ≤ Int32.toInt bL ∧ Int32.toInt bL ≤ 16) (yG : 0 ≤ Int32.toInt bY ∧ Int32.toInt bY ≤ 1) (aAW : ∀ k : Nat, 0 ≤ Int32.toInt (m_x k) ∧ Int32.toInt (m_x k) ≤ 99) (xK : ∀ k : Nat, 0 ≤ Int32.toInt (gR k) ∧ Int32.toInt (gR k) ≤ 99) (xT : ∀ k : Nat, 0 ≤ Int32.toInt (nG k) ∧ Int32.toInt (nG k) ≤ 99) (yF : ∀ k : Nat, 0 ≤ Int32.toInt (oO k) ∧ Int32.toInt (oO k) ≤ 99) (yD : ∀ k : Nat, k = 4 → 1 ≤ Int32.toInt (pJ k) ∧ Int32.toInt (pJ k) ≤ 30) (xZ : ∀ k : Nat, k = 3 → 0 ≤ Int32.toInt (pJ k) ∧ Int32.toInt (pJ k) ≤ 9) (hpost : ∀ (r : Int32) (xM : Int32) (xG : Int32) (aBX : Nat → Int32), (-1 ≤ Int32.toInt r ∧ Int32.toInt r ≤ 65535) → (0 ≤ Int32.toInt xM ∧ Int32.toInt xM ≤ 16) → (0 ≤ Int32.toInt xG ∧ Int32.toInt xG ≤ 0) → post r xM xG aBX) : wp_X10_reached post p0 bT aG bL bY m_x gR nG oO pJ sW := by
  have l0 := aI2
  have l1 := aE0
  have l2 := aEc
  intro v1 ev1
  have f2 : Int32.toInt (aG - 1) = Int32.toInt aG - Int32.toInt (1 : Int32) := aCA _ _ (by omega)
  rw [← ev1] at f2
  have f4 := aAT p0
  refine And.intro (fun c3 => ?_) (fun c3 => ?_)
  · skip
    have c3 := (aAd _ _).mp c3
    refine And.intro (aHE (by omega)) ?_
    refine And.intro (fun h9 => absurd h9 (by decide)) (fun _ => ?_)
    exact hpost _ _ _ _ (by omega) yJ (by omega)
  · skip
    have c3 := mt (aAd _ _).mpr c3
    refine And.intro (fun c5 => ?_) (fun c5 => ?_)
    · skip
      have c5 := (aAd _ _).mp c5
      refine And.intro (aHE (by omega)) ?_
      refine And.intro (fun h9 => absurd h9 (by decide)) (fun _ => ?_)
      exact hpost _ _ _ _ (by omega) yJ (by omega)
    · skip
      have c5 := mt (aAd _ _).mpr c5
      refine And.intro (aHE (by omega)) ?_
      refine And.intro (fun _ => ?_) (fun h9 => absurd h9 (by decide))
      refine aX7 (by omega) (by omega) xJ aAW xK xT yF yD xZ (fun r6 h_r6 => ?_)
      refine And.intro (aBZ (by omega)) ?_
      intro v7 ev7
      have f8 : Int32.toInt (0 + 1) = Int32.toInt (0 : Int32) + Int32.toInt (1 : Int32) := aAD _ _ (by omega)
      rw [← ev7] at f8
      refine aX7 (by omega) (by omega) xJ aAW xK xT yF yD xZ (fun r9 h_r9 => ?_)
      refine And.intro (aBZ (by omega)) ?_
      intro v10 ev10
      have f11 : Int32.toInt (v7 + 1) = Int32.toInt v7 + Int32.toInt (1 : Int32) := aAD _ _ (by omega)
      rw [← ev10] at f11
      refine aX7 (by omega) (by omega) xJ aAW xK xT yF yD xZ (fun r12 h_r12 => ?_)
      exact hpost _ _ _ _ (by omega) (by omega) (by omega)
set_option maxHeartbeats 8000000 in
set_option maxRecDepth 200000 in
theorem ts_X10_from_69 {post : Int32 → Int32 → Prop} {SB : Int} {K29 : Int32 → Int32 → Int32 → Int32 → Int32 → Prop} {n29 : Int} (bT aG : Int32) (qG m_x gR nG oO pJ : Nat → Int32) (xJ : 0 ≤ Int32.toInt bT ∧ Int32.toInt bT ≤ 16) (vZ : 0 ≤ Int32.toInt aG ∧ Int32.toInt aG ≤ 8) (xU : ∀ k : Nat, k = 17 → -1 ≤ Int32.toInt (qG k) ∧ Int32.toInt (qG k) ≤ SB) (xV : ∀ k : Nat, k = 19 → 0 ≤ Int32.toInt (qG k) ∧ Int32.toInt (qG k) ≤ 9) (aAW : ∀ k : Nat, 0 ≤ Int32.toInt (m_x k) ∧ Int32.toInt (m_x k) ≤ 99) (xK : ∀ k : Nat, 0 ≤ Int32.toInt (gR k) ∧ Int32.toInt (gR k) ≤ 99) (xT : ∀ k : Nat, 0 ≤ Int32.toInt (nG k) ∧ Int32.toInt (nG k) ≤ 99) (yF : ∀ k : Nat, 0 ≤ Int32.toInt (oO k) ∧ Int32.toInt (oO k) ≤ 99) (yD : ∀ k : Nat, k = 4 → 1 ≤ Int32.toInt (pJ k) ∧ Int32.toInt (pJ k) ≤ 30) (xZ : ∀ k : Nat, k = 3 → 0 ≤ Int32.toInt (pJ k) ∧ Int32.toInt (pJ k) ≤ 9) (hc0 : -1 ≤ SB ∧ SB ≤ 7) (hc1 : (Int32.toInt aG ≤ 0 ∧ SB = 0) ∨ (1 ≤ Int32.toInt aG ∧ SB = Int32.toInt aG - 1)) (hpost : ∀ (r : Int32) (xG : Int32), (-1 ≤ Int32.toInt r ∧ Int32.toInt r ≤ 255) → (0 ≤ Int32.toInt xG ∧ Int32.toInt xG ≤ 0) → post r xG) (hK29 : ∀ (x1 : Int32) (x2 : Int32) (x3 : Int32) (x4 : Int32) (bY : Int32), (0 ≤ Int32.toInt x1 ∧ Int32.toInt x1 ≤ 15) → (0 ≤ Int32.toInt x2 ∧ Int32.toInt x2 ≤ 1) → (0 ≤ Int32.toInt x3 ∧ Int32.toInt x3 ≤ 255) → (0 ≤ Int32.toInt x4 ∧ Int32.toInt x4 ≤ 8) → (0 ≤ Int32.toInt bY ∧ Int32.toInt bY ≤ 0) → (8 - Int32.toInt x4 < n29) → K29 x1 x2 x3 x4 bY) (x1 x2 x4 k0 k1 bY : Int32) (aBK : 0 ≤ Int32.toInt x1 ∧ Int32.toInt x1 ≤ 15) (aBN : 0 ≤ Int32.toInt x2 ∧ Int32.toInt x2 ≤ 1) (aDO : 0 ≤ Int32.toInt x4 ∧ Int32.toInt x4 ≤ 7) (h_k0 : 0 ≤ Int32.toInt k0 ∧ Int32.toInt k0 ≤ 255) (h_k1 : 0 ≤ Int32.toInt k1 ∧ Int32.toInt k1 ≤ 128) (yG : 0 ≤ Int32.toInt bY ∧ Int32.toInt bY ≤ 0) (hn29 : 8 - Int32.toInt x4 ≤ n29) : ws_X10_from_69 post K29 bT aG qG m_x gR nG oO pJ x1 x2 x4 k0 k1 bY := by
  have l0 := aEc
  intro v1 ev1
  have f2 := ti_or 8 256 k0 k1 (by decide) (by omega) (by omega)
  have hv1 := congrArg Int32.toInt ev1
  intro v3 ev3
  have f4 : Int32.toInt (x4 + 1) = Int32.toInt x4 + Int32.toInt (1 : Int32) := aAD _ _ (by omega)
  rw [← ev3] at f4
  exact hK29 x1 x2 v1 v3 bY aBK aBN (by omega) (by omega) yG (by omega)
set_option maxHeartbeats 8000000 in
set_option maxRecDepth 200000 in
theorem ts_X10_from_29 {post : Int32 → Int32 → Prop} {SB : Int} {next : Int32 → Int32 → Int32 → Int32 → Int32 → Prop} {n29 : Int} (bT aG : Int32) (qG m_x gR nG oO pJ : Nat → Int32) (xJ : 0 ≤ Int32.toInt bT ∧ Int32.toInt bT ≤ 16) (vZ : 0 ≤ Int32.toInt aG ∧ Int32.toInt aG ≤ 8) (xU : ∀ k : Nat, k = 17 → -1 ≤ Int32.toInt (qG k) ∧ Int32.toInt (qG k) ≤ SB) (xV : ∀ k : Nat, k = 19 → 0 ≤ Int32.toInt (qG k) ∧ Int32.toInt (qG k) ≤ 9) (aAW : ∀ k : Nat, 0 ≤ Int32.toInt (m_x k) ∧ Int32.toInt (m_x k) ≤ 99) (xK : ∀ k : Nat, 0 ≤ Int32.toInt (gR k) ∧ Int32.toInt (gR k) ≤ 99) (xT : ∀ k : Nat, 0 ≤ Int32.toInt (nG k) ∧ Int32.toInt (nG k) ≤ 99) (yF : ∀ k : Nat, 0 ≤ Int32.toInt (oO k) ∧ Int32.toInt (oO k) ≤ 99) (yD : ∀ k : Nat, k = 4 → 1 ≤ Int32.toInt (pJ k) ∧ Int32.toInt (pJ k) ≤ 30) (xZ : ∀ k : Nat, k = 3 → 0 ≤ Int32.toInt (pJ k) ∧ Int32.toInt (pJ k) ≤ 9) (hc0 : -1 ≤ SB ∧ SB ≤ 7) (hc1 : (Int32.toInt aG ≤ 0 ∧ SB = 0) ∨ (1 ≤ Int32.toInt aG ∧ SB = Int32.toInt aG - 1)) (hpost : ∀ (r : Int32) (xG : Int32), (-1 ≤ Int32.toInt r ∧ Int32.toInt r ≤ 255) → (0 ≤ Int32.toInt xG ∧ Int32.toInt xG ≤ 0) → post r xG) (hKn : ∀ (x1 : Int32) (x2 : Int32) (x3 : Int32) (x4 : Int32) (bY : Int32), (0 ≤ Int32.toInt x1 ∧ Int32.toInt x1 ≤ 15) → (0 ≤ Int32.toInt x2 ∧ Int32.toInt x2 ≤ 1) → (0 ≤ Int32.toInt x3 ∧ Int32.toInt x3 ≤ 255) → (0 ≤ Int32.toInt x4 ∧ Int32.toInt x4 ≤ 8) → (0 ≤ Int32.toInt bY ∧ Int32.toInt bY ≤ 0) → (8 - Int32.toInt x4 < n29) → next x1 x2 x3 x4 bY) (x1 x2 x3 x4 bY : Int32) (aBK : 0 ≤ Int32.toInt x1 ∧ Int32.toInt x1 ≤ 15) (aBN : 0 ≤ Int32.toInt x2 ∧ Int32.toInt x2 ≤ 1) (aCH : 0 ≤ Int32.toInt x3 ∧ Int32.toInt x3 ≤ 255) (aDO : 0 ≤ Int32.toInt x4 ∧ Int32.toInt x4 ≤ 8) (yG : 0 ≤ Int32.toInt bY ∧ Int32.toInt bY ≤ 0) (hn29 : 8 - Int32.toInt x4 ≤ n29) : ws_X10_from_29 post next bT aG qG m_x gR nG oO pJ x1 x2 x3 x4 bY := by
  have l0 := aE0
  have l1 := aEc
  have l2 := li_18
  have l3 := li_2
  refine And.intro (fun c5 => ?_) (fun c5 => ?_)
  · skip
    have c5 := (aAO _ _).mp c5
    exact hpost _ _ (by omega) yG
  · skip
    have c5 := mt (aAO _ _).mpr c5
    intro v6 ev6
    have hv6 := congrArg Int32.toInt ev6
    intro v8 ev8
    have hv8 := congrArg Int32.toInt ev8
    intro v10 ev10
    have hv10 := congrArg Int32.toInt ev10
    refine And.intro (aBZ (by omega)) ?_
    intro v12 ev12
    have f13 := aAW x1.toNatClampNeg
    have hv12 := congrArg Int32.toInt ev12
    refine And.intro (aBZ (by omega)) ?_
    intro v14 ev14
    have f16 := xT x4.toNatClampNeg
    have f15 : Int32.toInt (v12 - (nG x4.toNatClampNeg)) = Int32.toInt v12 - Int32.toInt (nG x4.toNatClampNeg) := aCA _ _ (by omega)
    rw [← ev14] at f15
    intro v17 ev17
    have f18 := ti_abs v14 (by omega)
    have hv17 := congrArg Int32.toInt ev17
    refine And.intro (aBZ (by omega)) ?_
    intro v19 ev19
    have hv19 := congrArg Int32.toInt ev19
    refine And.intro (aBZ (by omega)) ?_
    intro v20 ev20
    have f21 : Int32.toInt (v19 - (nG x4.toNatClampNeg)) = Int32.toInt v19 - Int32.toInt (nG x4.toNatClampNeg) := aCA _ _ (by omega)
    rw [← ev20] at f21
    intro v22 ev22
    have f23 := ti_abs v20 (by omega)
    have hv22 := congrArg Int32.toInt ev22
    intro v24 ev24
    have hv24 := congrArg Int32.toInt ev24
    refine And.intro (aBZ (by omega)) ?_
    intro v26 ev26
    have f27 := xK x1.toNatClampNeg
    have hv26 := congrArg Int32.toInt ev26
    refine And.intro (aBZ (by omega)) ?_
    intro v28 ev28
    have f30 := yF x4.toNatClampNeg
    have f29 : Int32.toInt (v26 - (oO x4.toNatClampNeg)) = Int32.toInt v26 - Int32.toInt (oO x4.toNatClampNeg) := aCA _ _ (by omega)
    rw [← ev28] at f29
    intro v31 ev31
    have f32 := ti_max (0 : Int32) v28
    have hv31 := congrArg Int32.toInt ev31
    refine And.intro (aBZ (by omega)) ?_
    intro v33 ev33
    have hv33 := congrArg Int32.toInt ev33
    refine And.intro (aBZ (by omega)) ?_
    intro v34 ev34
    have f35 : Int32.toInt (v33 - (oO x4.toNatClampNeg)) = Int32.toInt v33 - Int32.toInt (oO x4.toNatClampNeg) := aCA _ _ (by omega)
    rw [← ev34] at f35
    intro v36 ev36
    have f37 := ti_max (0 : Int32) v34
    have hv36 := congrArg Int32.toInt ev36
    intro v38 ev38
    have hv38 := congrArg Int32.toInt ev38
    have f41 := aAT v38
    refine And.intro (fun c40 => ?_) (fun c40 => ?_)
    · skip
      have c40 := (aAd _ _).mp c40
      refine And.intro (fun _ => ?_) (fun h9 => absurd h9 (by decide))
      exact ts_X10_from_69 bT aG qG m_x gR nG oO pJ xJ vZ xU xV aAW xK xT yF yD xZ hc0 hc1 hpost hKn x1 x2 x4 x3 0 bY aBK aBN (by omega) aCH (by omega) yG hn29
    · skip
      have c40 := mt (aAd _ _).mpr c40
      refine And.intro (fun h9 => absurd h9 (by decide)) (fun _ => ?_)
      intro v43 ev43
      have f44 := aDv 7 128 x4 (by decide) (by omega)
      have hv43 := congrArg Int32.toInt ev43
      exact ts_X10_from_69 bT aG qG m_x gR nG oO pJ xJ vZ xU xV aAW xK xT yF yD xZ hc0 hc1 hpost hKn x1 x2 x4 x3 v43 bY aBK aBN (by omega) aCH (by omega) yG hn29
set_option maxHeartbeats 8000000 in
set_option maxRecDepth 200000 in
theorem tb_X10_from_29 {post : Int32 → Int32 → Prop} {SB : Int} (bT aG : Int32) (qG m_x gR nG oO pJ : Nat → Int32) (xJ : 0 ≤ Int32.toInt bT ∧ Int32.toInt bT ≤ 16) (vZ : 0 ≤ Int32.toInt aG ∧ Int32.toInt aG ≤ 8) (xU : ∀ k : Nat, k = 17 → -1 ≤ Int32.toInt (qG k) ∧ Int32.toInt (qG k) ≤ SB) (xV : ∀ k : Nat, k = 19 → 0 ≤ Int32.toInt (qG k) ∧ Int32.toInt (qG k) ≤ 9) (aAW : ∀ k : Nat, 0 ≤ Int32.toInt (m_x k) ∧ Int32.toInt (m_x k) ≤ 99) (xK : ∀ k : Nat, 0 ≤ Int32.toInt (gR k) ∧ Int32.toInt (gR k) ≤ 99) (xT : ∀ k : Nat, 0 ≤ Int32.toInt (nG k) ∧ Int32.toInt (nG k) ≤ 99) (yF : ∀ k : Nat, 0 ≤ Int32.toInt (oO k) ∧ Int32.toInt (oO k) ≤ 99) (yD : ∀ k : Nat, k = 4 → 1 ≤ Int32.toInt (pJ k) ∧ Int32.toInt (pJ k) ≤ 30) (xZ : ∀ k : Nat, k = 3 → 0 ≤ Int32.toInt (pJ k) ∧ Int32.toInt (pJ k) ≤ 9) (hc0 : -1 ≤ SB ∧ SB ≤ 7) (hc1 : (Int32.toInt aG ≤ 0 ∧ SB = 0) ∨ (1 ≤ Int32.toInt aG ∧ SB = Int32.toInt aG - 1)) (hpost : ∀ (r : Int32) (xG : Int32), (-1 ≤ Int32.toInt r ∧ Int32.toInt r ≤ 255) → (0 ≤ Int32.toInt xG ∧ Int32.toInt xG ≤ 0) → post r xG) : ∀ (n : Nat) (x1 x2 x3 x4 bY : Int32), (0 ≤ Int32.toInt x1 ∧ Int32.toInt x1 ≤ 15) → (0 ≤ Int32.toInt x2 ∧ Int32.toInt x2 ≤ 1) → (0 ≤ Int32.toInt x3 ∧ Int32.toInt x3 ≤ 255) → (0 ≤ Int32.toInt x4 ∧ Int32.toInt x4 ≤ 8) → (0 ≤ Int32.toInt bY ∧ Int32.toInt bY ≤ 0) → (8 - Int32.toInt x4 < (n : Int)) → wb_X10_from_29 post bT aG qG m_x gR nG oO pJ n x1 x2 x3 x4 bY := by
  intro n
  induction n with
  | zero =>
    intro x1 x2 x3 x4 bY aBK aBN aCH aDO yG hm
    exfalso; omega
  | succ n ih =>
    intro x1 x2 x3 x4 bY aBK aBN aCH aDO yG hm
    exact ts_X10_from_29 bT aG qG m_x gR nG oO pJ xJ vZ xU xV aAW xK xT yF yD xZ hc0 hc1 hpost ih x1 x2 x3 x4 bY aBK aBN aCH aDO yG (by omega)
set_option maxHeartbeats 8000000 in
set_option maxRecDepth 200000 in
theorem t_X10_from {post : Int32 → Int32 → Prop} {SB : Int} {p0 p1 bT aG bY : Int32} {qG m_x gR nG oO pJ : Nat → Int32} (xJ : 0 ≤ Int32.toInt bT ∧ Int32.toInt bT ≤ 16) (vZ : 0 ≤ Int32.toInt aG ∧ Int32.toInt aG ≤ 8) (yG : 0 ≤ Int32.toInt bY ∧ Int32.toInt bY ≤ 1) (xU : ∀ k : Nat, k = 17 → -1 ≤ Int32.toInt (qG k) ∧ Int32.toInt (qG k) ≤ SB) (xV : ∀ k : Nat, k = 19 → 0 ≤ Int32.toInt (qG k) ∧ Int32.toInt (qG k) ≤ 9) (aAW : ∀ k : Nat, 0 ≤ Int32.toInt (m_x k) ∧ Int32.toInt (m_x k) ≤ 99) (xK : ∀ k : Nat, 0 ≤ Int32.toInt (gR k) ∧ Int32.toInt (gR k) ≤ 99) (xT : ∀ k : Nat, 0 ≤ Int32.toInt (nG k) ∧ Int32.toInt (nG k) ≤ 99) (yF : ∀ k : Nat, 0 ≤ Int32.toInt (oO k) ∧ Int32.toInt (oO k) ≤ 99) (yD : ∀ k : Nat, k = 4 → 1 ≤ Int32.toInt (pJ k) ∧ Int32.toInt (pJ k) ≤ 30) (xZ : ∀ k : Nat, k = 3 → 0 ≤ Int32.toInt (pJ k) ∧ Int32.toInt (pJ k) ≤ 9) (hc0 : -1 ≤ SB ∧ SB ≤ 7) (hc1 : (Int32.toInt aG ≤ 0 ∧ SB = 0) ∨ (1 ≤ Int32.toInt aG ∧ SB = Int32.toInt aG - 1)) (hpost : ∀ (r : Int32) (xG : Int32), (-1 ≤ Int32.toInt r ∧ Int32.toInt r ≤ 255) → (0 ≤ Int32.toInt xG ∧ Int32.toInt xG ≤ 0) → post r xG) : wp_X10_from post p0 p1 bT aG bY qG m_x gR nG oO pJ := by
  have l0 := aI2
  have l1 := aE0
  have l2 := aEc
  intro v45 ev45
  have f46 : Int32.toInt (bT - 1) = Int32.toInt bT - Int32.toInt (1 : Int32) := aCA _ _ (by omega)
  rw [← ev45] at f46
  have f48 := aAT p0
  refine And.intro (fun c47 => ?_) (fun c47 => ?_)
  · skip
    have c47 := (aAd _ _).mp c47
    refine And.intro (aHE (by omega)) ?_
    refine And.intro (fun _ => ?_) (fun h9 => absurd h9 (by decide))
    exact hpost _ _ (by omega) (by omega)
  · skip
    have c47 := mt (aAd _ _).mpr c47
    refine And.intro (fun c49 => ?_) (fun c49 => ?_)
    · skip
      have c49 := (aAd _ _).mp c49
      refine And.intro (aHE (by omega)) ?_
      refine And.intro (fun _ => ?_) (fun h9 => absurd h9 (by decide))
      exact hpost _ _ (by omega) (by omega)
    · skip
      have c49 := mt (aAd _ _).mpr c49
      refine And.intro (aHE (by omega)) ?_
      refine And.intro (fun h9 => absurd h9 (by decide)) (fun _ => ?_)
      have f51 := aAT p1
      refine And.intro (fun c50 => ?_) (fun c50 => ?_)
      · skip
        have c50 := (aAd _ _).mp c50
        refine And.intro (fun h9 => absurd h9 (by decide)) (fun _ => ?_)
        exact hpost _ _ (by omega) (by omega)
      · skip
        have c50 := mt (aAd _ _).mpr c50
        refine And.intro (fun c52 => ?_) (fun c52 => ?_)
        · skip
          have c52 := (aAd _ _).mp c52
          refine And.intro (fun h9 => absurd h9 (by decide)) (fun _ => ?_)
          exact hpost _ _ (by omega) (by omega)
        · skip
          have c52 := mt (aAd _ _).mpr c52
          refine And.intro (fun _ => ?_) (fun h9 => absurd h9 (by decide))
          exact ⟨10, tb_X10_from_29 bT aG qG m_x gR nG oO pJ xJ vZ xU xV aAW xK xT yF yD xZ hc0 hc1 hpost _ p0 p1 0 0 0 (by omega) (by omega) (by omega) (by omega) (by omega) (by omega)⟩
set_option maxHeartbeats 8000000 in
set_option maxRecDepth 200000 in
theorem ts_X10_worthOfAll_35 {post : Int32 → Prop} {K5 : Int32 → Int32 → Int32 → Int32 → Prop} {n5 : Int} (bT : Int32) (pW : Nat → Int32) (xJ : 0 ≤ Int32.toInt bT ∧ Int32.toInt bT ≤ 16) (yR : ∀ k : Nat, 0 ≤ Int32.toInt (pW k) ∧ Int32.toInt (pW k) ≤ 9) (hpost : ∀ (r : Int32) , post r) (hK5 : ∀ (x1 : Int32) (x2 : Int32) (x3 : Int32) (x4 : Int32), (0 ≤ Int32.toInt x1 ∧ Int32.toInt x1 ≤ 65535) → (0 ≤ Int32.toInt x4 ∧ Int32.toInt x4 ≤ 16) → (16 - Int32.toInt x4 < n5) → K5 x1 x2 x3 x4) (x1 x2 x4 k0 k1 : Int32) (aBK : 0 ≤ Int32.toInt x1 ∧ Int32.toInt x1 ≤ 65535) (aDO : 0 ≤ Int32.toInt x4 ∧ Int32.toInt x4 ≤ 15) (h_k1 : 0 ≤ Int32.toInt k1 ∧ Int32.toInt k1 ≤ 9) (hn5 : 16 - Int32.toInt x4 ≤ n5) : ws_X10_worthOfAll_35 post K5 bT pW x1 x2 x4 k0 k1 := by
  have l0 := aEc
  intro v1 ev1
  have hv1 := congrArg Int32.toInt ev1
  intro v3 ev3
  have f4 : Int32.toInt (x4 + 1) = Int32.toInt x4 + Int32.toInt (1 : Int32) := aAD _ _ (by omega)
  rw [← ev3] at f4
  have f5 := aAT x2
  have f6 := aAT v1
  exact hK5 x1 x2 v1 v3 aBK (by omega) (by omega)
set_option maxHeartbeats 8000000 in
set_option maxRecDepth 200000 in
theorem ts_X10_worthOfAll_5 {post : Int32 → Prop} {next : Int32 → Int32 → Int32 → Int32 → Prop} {n5 : Int} (bT : Int32) (pW : Nat → Int32) (xJ : 0 ≤ Int32.toInt bT ∧ Int32.toInt bT ≤ 16) (yR : ∀ k : Nat, 0 ≤ Int32.toInt (pW k) ∧ Int32.toInt (pW k) ≤ 9) (hpost : ∀ (r : Int32) , post r) (hKn : ∀ (x1 : Int32) (x2 : Int32) (x3 : Int32) (x4 : Int32), (0 ≤ Int32.toInt x1 ∧ Int32.toInt x1 ≤ 65535) → (0 ≤ Int32.toInt x4 ∧ Int32.toInt x4 ≤ 16) → (16 - Int32.toInt x4 < n5) → next x1 x2 x3 x4) (x1 x2 x3 x4 : Int32) (aBK : 0 ≤ Int32.toInt x1 ∧ Int32.toInt x1 ≤ 65535) (aDO : 0 ≤ Int32.toInt x4 ∧ Int32.toInt x4 ≤ 16) (hn5 : 16 - Int32.toInt x4 ≤ n5) : ws_X10_worthOfAll_5 post next bT pW x1 x2 x3 x4 := by
  have l0 := aE0
  have l1 := aEc
  have l2 := li_2
  refine And.intro (fun c7 => ?_) (fun c7 => ?_)
  · skip
    have c7 := (aAO _ _).mp c7
    exact hpost _ 
  · skip
    have c7 := mt (aAO _ _).mpr c7
    intro v8 ev8
    have f9 := aRJ x1 x4 (by omega)
    have hv8 := congrArg Int32.toInt ev8
    intro v10 ev10
    have f11 := aAQ v8 1 (by omega)
    have f12 := aBx v8 1 (by omega)
    have hv10 := congrArg Int32.toInt ev10
    refine And.intro (fun c13 => ?_) (fun c13 => ?_)
    · skip
      have c13 := mt (zJ _ _).mpr c13
      refine And.intro (fun _ => ?_) (fun h9 => absurd h9 (by decide))
      have f14 := aAT x2
      have f15 := aAT x3
      exact ts_X10_worthOfAll_35 bT pW xJ yR hpost hKn x1 x2 x4 x3 0 aBK (by omega) (by omega) hn5
    · skip
      have c13 := (zJ _ _).mp c13
      refine And.intro (fun h9 => absurd h9 (by decide)) (fun _ => ?_)
      intro v16 ev16
      intro v17 ev17
      have f18 := aAQ v16 1 (by omega)
      have hv17 := congrArg Int32.toInt ev17
      refine And.intro (fun c19 => ?_) (fun c19 => ?_)
      · skip
        have c19 := mt (zJ _ _).mpr c19
        refine And.intro (fun _ => ?_) (fun h9 => absurd h9 (by decide))
        refine And.intro (aBZ (by omega)) ?_
        have f20 := yR x4.toNatClampNeg
        have f21 := aAT x2
        have f22 := aAT x3
        exact ts_X10_worthOfAll_35 bT pW xJ yR hpost hKn x1 x2 x4 x3 (pW x4.toNatClampNeg) aBK (by omega) (by omega) hn5
      · skip
        have c19 := (zJ _ _).mp c19
        refine And.intro (fun h9 => absurd h9 (by decide)) (fun _ => ?_)
        refine And.intro (aBZ (by omega)) ?_
        intro v23 ev23
        have f24 := yR x4.toNatClampNeg
        have hv23 := congrArg Int32.toInt ev23
        intro v25 ev25
        have f26 : Int32.toInt (v23 / 2) = Int32.toInt v23 / 2 := ti_div _ _ (by decide) (by omega) (by decide)
        rw [← ev25] at f26
        have f27 := aAT x2
        have f28 := aAT x3
        exact ts_X10_worthOfAll_35 bT pW xJ yR hpost hKn x1 x2 x4 x3 v25 aBK (by omega) (by omega) hn5
set_option maxHeartbeats 8000000 in
set_option maxRecDepth 200000 in
theorem tb_X10_worthOfAll_5 {post : Int32 → Prop} (bT : Int32) (pW : Nat → Int32) (xJ : 0 ≤ Int32.toInt bT ∧ Int32.toInt bT ≤ 16) (yR : ∀ k : Nat, 0 ≤ Int32.toInt (pW k) ∧ Int32.toInt (pW k) ≤ 9) (hpost : ∀ (r : Int32) , post r) : ∀ (n : Nat) (x1 x2 x3 x4 : Int32), (0 ≤ Int32.toInt x1 ∧ Int32.toInt x1 ≤ 65535) → (0 ≤ Int32.toInt x4 ∧ Int32.toInt x4 ≤ 16) → (16 - Int32.toInt x4 < (n : Int)) → wb_X10_worthOfAll_5 post bT pW n x1 x2 x3 x4 := by
  intro n
  induction n with
  | zero =>
    intro x1 x2 x3 x4 aBK aDO hm
    exfalso; omega
  | succ n ih =>
    intro x1 x2 x3 x4 aBK aDO hm
    exact ts_X10_worthOfAll_5 bT pW xJ yR hpost ih x1 x2 x3 x4 aBK aDO (by omega)
set_option maxHeartbeats 8000000 in
set_option maxRecDepth 200000 in
theorem aNU {post : Int32 → Prop} {p0 p1 bT : Int32} {pW : Nat → Int32} (h_p0 : 0 ≤ Int32.toInt p0 ∧ Int32.toInt p0 ≤ 65535) (xJ : 0 ≤ Int32.toInt bT ∧ Int32.toInt bT ≤ 16) (yR : ∀ k : Nat, 0 ≤ Int32.toInt (pW k) ∧ Int32.toInt (pW k) ≤ 9) (hpost : ∀ (r : Int32) , post r) : aMp post p0 p1 bT pW := by
  have l0 := aE0
  have f29 := aAT p1
  exact ⟨18, tb_X10_worthOfAll_5 bT pW xJ yR hpost _ p0 p1 0 0 h_p0 (by omega) (by omega)⟩
