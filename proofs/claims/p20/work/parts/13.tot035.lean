set_option maxHeartbeats 8000000 in
set_option maxRecDepth 200000 in
theorem t_X10_down {post : Int32 → Int32 → Int32 → (Nat → Int32) → (Nat → Int32) → Prop} {SB : Int} {bT bY bU : Int32} {qG oO uL : Nat → Int32} (xJ : 0 ≤ Int32.toInt bT ∧ Int32.toInt bT ≤ 16) (yG : 0 ≤ Int32.toInt bY ∧ Int32.toInt bY ≤ 1) (aAZ : 0 ≤ Int32.toInt bU ∧ Int32.toInt bU ≤ 12) (xU : ∀ k : Nat, k = 17 → -1 ≤ Int32.toInt (qG k) ∧ Int32.toInt (qG k) ≤ SB) (xV : ∀ k : Nat, k = 19 → 0 ≤ Int32.toInt (qG k) ∧ Int32.toInt (qG k) ≤ 9) (yF : ∀ k : Nat, 0 ≤ Int32.toInt (oO k) ∧ Int32.toInt (oO k) ≤ 99) (aAo : ∀ k : Nat, k % 21 = 17 → -1 ≤ Int32.toInt (uL k) ∧ Int32.toInt (uL k) ≤ SB) (aAp : ∀ k : Nat, k % 21 = 19 → 0 ≤ Int32.toInt (uL k) ∧ Int32.toInt (uL k) ≤ 9) (hc0 : -1 ≤ SB ∧ SB ≤ 7) (hpost : ∀ (r : Int32) (xG : Int32) (aBI : Int32) (aBf : Nat → Int32) (aBl : Nat → Int32), (0 ≤ Int32.toInt xG ∧ Int32.toInt xG ≤ 0) → (0 ≤ Int32.toInt aBI ∧ Int32.toInt aBI ≤ 12) → (∀ k : Nat, k = 17 → -1 ≤ Int32.toInt (aBf k) ∧ Int32.toInt (aBf k) ≤ SB) → (∀ k : Nat, k = 19 → 0 ≤ Int32.toInt (aBf k) ∧ Int32.toInt (aBf k) ≤ 9) → (∀ k : Nat, k % 21 = 17 → -1 ≤ Int32.toInt (aBl k) ∧ Int32.toInt (aBl k) ≤ SB) → (∀ k : Nat, k % 21 = 19 → 0 ≤ Int32.toInt (aBl k) ∧ Int32.toInt (aBl k) ≤ 9) → post r xG aBI aBf aBl) : wp_X10_down post bT bY bU qG oO uL := by
  have l0 := aI2
  have l1 := aE0
  have l2 := aEc
  have l3 := li_17
  have l4 := li_20
  have l5 := li_9
  have l6 := li_9999
  have q1 := xU (17 : Int32).toNatClampNeg (by have e9 : (17 : Int32).toNatClampNeg = (Int32.toInt (17 : Int32)).toNat := rfl; omega)
  intro v2 ev2
  have hv2 := congrArg Int32.toInt ev2
  refine And.intro (fun c4 => ?_) (fun c4 => ?_)
  · skip
    have c4 := (zJ _ _).mp c4
    refine And.intro (fun h9 => absurd h9 (by decide)) (fun _ => ?_)
    exact hpost _ _ _ _ _ (by omega) aAZ xU xV aAo aAp
  · skip
    have c4 := mt (zJ _ _).mpr c4
    refine aKO (by omega) xJ xU xV (by omega) (fun r5 h_r5 ox6 => ?_)
    refine And.intro (fun c7 => ?_) (fun c7 => ?_)
    · skip
      have c7 := (zJ _ _).mp c7
      refine And.intro (fun h9 => absurd h9 (by decide)) (fun _ => ?_)
      exact hpost _ _ _ _ _ (by omega) aAZ xU xV aAo aAp
    · skip
      have c7 := mt (zJ _ _).mpr c7
      refine And.intro (fun _ => ?_) (fun h9 => absurd h9 (by decide))
      refine t_X10_remember aAZ xU xV aAo aAp (by omega) (fun m_undoMany_8 m_undos_9 h_m_undoMany_8 e0_m_undos_9 e1_m_undos_9 => ?_)
      have q10 := xU (17 : Int32).toNatClampNeg (by have e9 : (17 : Int32).toNatClampNeg = (Int32.toInt (17 : Int32)).toNat := rfl; omega)
      intro v11 ev11
      have hv11 := congrArg Int32.toInt ev11
      refine And.intro (aBZ (by omega)) ?_
      intro v12 ev12
      have f13 := yF v11.toNatClampNeg
      have hv12 := congrArg Int32.toInt ev12
      intro v14 ev14
      have f15 : Int32.toInt (v12 + 9) = Int32.toInt v12 + Int32.toInt (9 : Int32) := aAD _ _ (by omega)
      rw [← ev14] at f15
      intro v16 ev16
      have hv16 := congrArg Int32.toInt ev16
      intro v18 ev18
      have hv18 := congrArg Int32.toInt ev18
      intro v20 ev20
      have f21 := aAT (if v18 < 9999 then v18 else 9999)
      have f23 := aAT v18
      have f22 := ti_min (9999 : Int32) v18
      have hv20 := congrArg Int32.toInt ev20
      have f25 := aAT v20
      have e24 : ∀ k : Nat, k = 17 → -1 ≤ Int32.toInt ((upd qG (20 : Int32).toNatClampNeg v20) k) ∧ Int32.toInt ((upd qG (20 : Int32).toNatClampNeg v20) k) ≤ SB := aCJ (C := fun k => k = 17) xU (fun hk => by have e9 : (20 : Int32).toNatClampNeg = (Int32.toInt (20 : Int32)).toNat := rfl; have hk : (20 : Int32).toNatClampNeg = 17 := hk; omega)
      have e26 : ∀ k : Nat, k = 19 → 0 ≤ Int32.toInt ((upd qG (20 : Int32).toNatClampNeg v20) k) ∧ Int32.toInt ((upd qG (20 : Int32).toNatClampNeg v20) k) ≤ 9 := aCJ (C := fun k => k = 19) xV (fun hk => by have e9 : (20 : Int32).toNatClampNeg = (Int32.toInt (20 : Int32)).toNat := rfl; have hk : (20 : Int32).toNatClampNeg = 19 := hk; omega)
      refine t_X10_empty xJ e24 e26 (by omega) (fun r28 m_now_27 e0_m_now_27 e1_m_now_27 ox29 => ?_)
      exact hpost _ _ _ _ _ (by omega) (by omega) e0_m_now_27 e1_m_now_27 e0_m_undos_9 e1_m_undos_9
theorem aXh {post : Int32 → Prop} {p0 bT : Int32} {qR : Nat → Int32} (h_p0 : -1 ≤ Int32.toInt p0 ∧ Int32.toInt p0 ≤ 9) (xJ : 0 ≤ Int32.toInt bT ∧ Int32.toInt bT ≤ 16) (zM : ∀ k : Nat, 0 ≤ Int32.toInt (qR k) ∧ Int32.toInt (qR k) ≤ 9) (hpost : ∀ (r : Int32) , (0 ≤ Int32.toInt r ∧ Int32.toInt r ≤ 65535) → (r = bsf (Int32.toInt bT).toNat (fun k => decide (qR k ≤ p0))) → post r) : aLg post p0 bT qR := by
  refine f_ripeOnes xJ (hpost _ ?_ rfl)
  exact bsf_rng _ (by omega) _
set_option maxHeartbeats 8000000 in
set_option maxRecDepth 200000 in
theorem ts_X10_reachedFrom_41 {post : Int32 → Prop} {K6 : Int32 → Int32 → Int32 → Int32 → Int32 → Prop} {n6 : Int} (bT : Int32) (m_x gR nG oO pJ : Nat → Int32) (xJ : 0 ≤ Int32.toInt bT ∧ Int32.toInt bT ≤ 16) (aAW : ∀ k : Nat, 0 ≤ Int32.toInt (m_x k) ∧ Int32.toInt (m_x k) ≤ 99) (xK : ∀ k : Nat, 0 ≤ Int32.toInt (gR k) ∧ Int32.toInt (gR k) ≤ 99) (xT : ∀ k : Nat, 0 ≤ Int32.toInt (nG k) ∧ Int32.toInt (nG k) ≤ 99) (yF : ∀ k : Nat, 0 ≤ Int32.toInt (oO k) ∧ Int32.toInt (oO k) ≤ 99) (yD : ∀ k : Nat, k = 4 → 1 ≤ Int32.toInt (pJ k) ∧ Int32.toInt (pJ k) ≤ 30) (xZ : ∀ k : Nat, k = 3 → 0 ≤ Int32.toInt (pJ k) ∧ Int32.toInt (pJ k) ≤ 9) (hpost : ∀ (r : Int32) , (0 ≤ Int32.toInt r ∧ Int32.toInt r ≤ 65535) → post r) (hK6 : ∀ (x1 : Int32) (x2 : Int32) (x3 : Int32) (x4 : Int32) (x5 : Int32), (0 ≤ Int32.toInt x1 ∧ Int32.toInt x1 ≤ 7) → (0 ≤ Int32.toInt x3 ∧ Int32.toInt x3 ≤ 1) → (0 ≤ Int32.toInt x4 ∧ Int32.toInt x4 ≤ 65535) → (0 ≤ Int32.toInt x5 ∧ Int32.toInt x5 ≤ 16) → (16 - Int32.toInt x5 < n6) → K6 x1 x2 x3 x4 x5) (x1 x2 x3 x5 k0 k1 : Int32) (aBK : 0 ≤ Int32.toInt x1 ∧ Int32.toInt x1 ≤ 7) (aCH : 0 ≤ Int32.toInt x3 ∧ Int32.toInt x3 ≤ 1) (aF7 : 0 ≤ Int32.toInt x5 ∧ Int32.toInt x5 ≤ 15) (h_k0 : 0 ≤ Int32.toInt k0 ∧ Int32.toInt k0 ≤ 65535) (h_k1 : 0 ≤ Int32.toInt k1 ∧ Int32.toInt k1 ≤ 32768) (hn6 : 16 - Int32.toInt x5 ≤ n6) : bA5 post K6 bT m_x gR nG oO pJ x1 x2 x3 x5 k0 k1 := by
  have l0 := aEc
  intro v1 ev1
  have f2 := ti_or 16 65536 k0 k1 (by decide) (by omega) (by omega)
  have hv1 := congrArg Int32.toInt ev1
  intro v3 ev3
  have f4 : Int32.toInt (x5 + 1) = Int32.toInt x5 + Int32.toInt (1 : Int32) := aAD _ _ (by omega)
  rw [← ev3] at f4
  have f5 := aAT x2
  exact hK6 x1 x2 x3 v1 v3 aBK aCH (by omega) (by omega) (by omega)
set_option maxHeartbeats 8000000 in
set_option maxRecDepth 200000 in
theorem ts_X10_reachedFrom_6 {post : Int32 → Prop} {next : Int32 → Int32 → Int32 → Int32 → Int32 → Prop} {n6 : Int} (bT : Int32) (m_x gR nG oO pJ : Nat → Int32) (xJ : 0 ≤ Int32.toInt bT ∧ Int32.toInt bT ≤ 16) (aAW : ∀ k : Nat, 0 ≤ Int32.toInt (m_x k) ∧ Int32.toInt (m_x k) ≤ 99) (xK : ∀ k : Nat, 0 ≤ Int32.toInt (gR k) ∧ Int32.toInt (gR k) ≤ 99) (xT : ∀ k : Nat, 0 ≤ Int32.toInt (nG k) ∧ Int32.toInt (nG k) ≤ 99) (yF : ∀ k : Nat, 0 ≤ Int32.toInt (oO k) ∧ Int32.toInt (oO k) ≤ 99) (yD : ∀ k : Nat, k = 4 → 1 ≤ Int32.toInt (pJ k) ∧ Int32.toInt (pJ k) ≤ 30) (xZ : ∀ k : Nat, k = 3 → 0 ≤ Int32.toInt (pJ k) ∧ Int32.toInt (pJ k) ≤ 9) (hpost : ∀ (r : Int32) , (0 ≤ Int32.toInt r ∧ Int32.toInt r ≤ 65535) → post r) (hKn : ∀ (x1 : Int32) (x2 : Int32) (x3 : Int32) (x4 : Int32) (x5 : Int32), (0 ≤ Int32.toInt x1 ∧ Int32.toInt x1 ≤ 7) → (0 ≤ Int32.toInt x3 ∧ Int32.toInt x3 ≤ 1) → (0 ≤ Int32.toInt x4 ∧ Int32.toInt x4 ≤ 65535) → (0 ≤ Int32.toInt x5 ∧ Int32.toInt x5 ≤ 16) → (16 - Int32.toInt x5 < n6) → next x1 x2 x3 x4 x5) (x1 x2 x3 x4 x5 : Int32) (aBK : 0 ≤ Int32.toInt x1 ∧ Int32.toInt x1 ≤ 7) (aCH : 0 ≤ Int32.toInt x3 ∧ Int32.toInt x3 ≤ 1) (aDO : 0 ≤ Int32.toInt x4 ∧ Int32.toInt x4 ≤ 65535) (aF7 : 0 ≤ Int32.toInt x5 ∧ Int32.toInt x5 ≤ 16) (hn6 : 16 - Int32.toInt x5 ≤ n6) : ws_X10_reachedFrom_6 post next bT m_x gR nG oO pJ x1 x2 x3 x4 x5 := by
  have l0 := aE0
  have l1 := aEc
  have l2 := li_2
  refine And.intro (fun c6 => ?_) (fun c6 => ?_)
  · skip
    have c6 := (aAO _ _).mp c6
    exact hpost _ aDO
  · skip
    have c6 := mt (aAO _ _).mpr c6
    intro v7 ev7
    have hv7 := congrArg Int32.toInt ev7
    intro v9 ev9
    have hv9 := congrArg Int32.toInt ev9
    refine And.intro (aBZ (by omega)) ?_
    intro v11 ev11
    have f12 := aAW x5.toNatClampNeg
    have hv11 := congrArg Int32.toInt ev11
    refine And.intro (aBZ (by omega)) ?_
    intro v13 ev13
    have f15 := xT x1.toNatClampNeg
    have f14 : Int32.toInt (v11 - (nG x1.toNatClampNeg)) = Int32.toInt v11 - Int32.toInt (nG x1.toNatClampNeg) := aCA _ _ (by omega)
    rw [← ev13] at f14
    intro v16 ev16
    have f17 := ti_abs v13 (by omega)
    have hv16 := congrArg Int32.toInt ev16
    refine And.intro (aBZ (by omega)) ?_
    intro v18 ev18
    have hv18 := congrArg Int32.toInt ev18
    refine And.intro (aBZ (by omega)) ?_
    intro v19 ev19
    have f20 : Int32.toInt (v18 - (nG x1.toNatClampNeg)) = Int32.toInt v18 - Int32.toInt (nG x1.toNatClampNeg) := aCA _ _ (by omega)
    rw [← ev19] at f20
    intro v21 ev21
    have f22 := ti_abs v19 (by omega)
    have hv21 := congrArg Int32.toInt ev21
    intro v23 ev23
    have hv23 := congrArg Int32.toInt ev23
    refine And.intro (aBZ (by omega)) ?_
    intro v25 ev25
    have f26 := xK x5.toNatClampNeg
    have hv25 := congrArg Int32.toInt ev25
    refine And.intro (aBZ (by omega)) ?_
    intro v27 ev27
    have f29 := yF x1.toNatClampNeg
    have f28 : Int32.toInt (v25 - (oO x1.toNatClampNeg)) = Int32.toInt v25 - Int32.toInt (oO x1.toNatClampNeg) := aCA _ _ (by omega)
    rw [← ev27] at f28
    intro v30 ev30
    have f31 := ti_max (0 : Int32) v27
    have hv30 := congrArg Int32.toInt ev30
    refine And.intro (aBZ (by omega)) ?_
    intro v32 ev32
    have hv32 := congrArg Int32.toInt ev32
    refine And.intro (aBZ (by omega)) ?_
    intro v33 ev33
    have f34 : Int32.toInt (v32 - (oO x1.toNatClampNeg)) = Int32.toInt v32 - Int32.toInt (oO x1.toNatClampNeg) := aCA _ _ (by omega)
    rw [← ev33] at f34
    intro v35 ev35
    have f36 := ti_max (0 : Int32) v33
    have hv35 := congrArg Int32.toInt ev35
    intro v37 ev37
    have hv37 := congrArg Int32.toInt ev37
    have f40 := aAT v37
    refine And.intro (fun c39 => ?_) (fun c39 => ?_)
    · skip
      have c39 := (aAd _ _).mp c39
      refine And.intro (fun _ => ?_) (fun h9 => absurd h9 (by decide))
      have f42 := aAT x2
      exact ts_X10_reachedFrom_41 bT m_x gR nG oO pJ xJ aAW xK xT yF yD xZ hpost hKn x1 x2 x3 x5 x4 0 aBK aCH (by omega) aDO (by omega) hn6
    · skip
      have c39 := mt (aAd _ _).mpr c39
      refine And.intro (fun h9 => absurd h9 (by decide)) (fun _ => ?_)
      intro v43 ev43
      have f44 := aDv 15 32768 x5 (by decide) (by omega)
      have hv43 := congrArg Int32.toInt ev43
      have f45 := aAT x2
      exact ts_X10_reachedFrom_41 bT m_x gR nG oO pJ xJ aAW xK xT yF yD xZ hpost hKn x1 x2 x3 x5 x4 v43 aBK aCH (by omega) aDO (by omega) hn6
set_option maxHeartbeats 8000000 in
set_option maxRecDepth 200000 in
theorem tb_X10_reachedFrom_6 {post : Int32 → Prop} (bT : Int32) (m_x gR nG oO pJ : Nat → Int32) (xJ : 0 ≤ Int32.toInt bT ∧ Int32.toInt bT ≤ 16) (aAW : ∀ k : Nat, 0 ≤ Int32.toInt (m_x k) ∧ Int32.toInt (m_x k) ≤ 99) (xK : ∀ k : Nat, 0 ≤ Int32.toInt (gR k) ∧ Int32.toInt (gR k) ≤ 99) (xT : ∀ k : Nat, 0 ≤ Int32.toInt (nG k) ∧ Int32.toInt (nG k) ≤ 99) (yF : ∀ k : Nat, 0 ≤ Int32.toInt (oO k) ∧ Int32.toInt (oO k) ≤ 99) (yD : ∀ k : Nat, k = 4 → 1 ≤ Int32.toInt (pJ k) ∧ Int32.toInt (pJ k) ≤ 30) (xZ : ∀ k : Nat, k = 3 → 0 ≤ Int32.toInt (pJ k) ∧ Int32.toInt (pJ k) ≤ 9) (hpost : ∀ (r : Int32) , (0 ≤ Int32.toInt r ∧ Int32.toInt r ≤ 65535) → post r) : ∀ (n : Nat) (x1 x2 x3 x4 x5 : Int32), (0 ≤ Int32.toInt x1 ∧ Int32.toInt x1 ≤ 7) → (0 ≤ Int32.toInt x3 ∧ Int32.toInt x3 ≤ 1) → (0 ≤ Int32.toInt x4 ∧ Int32.toInt x4 ≤ 65535) → (0 ≤ Int32.toInt x5 ∧ Int32.toInt x5 ≤ 16) → (16 - Int32.toInt x5 < (n : Int)) → bBo post bT m_x gR nG oO pJ n x1 x2 x3 x4 x5 := by
  intro n
  induction n with
  | zero =>
    intro x1 x2 x3 x4 x5 aBK aCH aDO aF7 hm
    exfalso; omega
  | succ n ih =>
    intro x1 x2 x3 x4 x5 aBK aCH aDO aF7 hm
    exact ts_X10_reachedFrom_6 bT m_x gR nG oO pJ xJ aAW xK xT yF yD xZ hpost ih x1 x2 x3 x4 x5 aBK aCH aDO aF7 (by omega)
set_option maxHeartbeats 8000000 in
set_option maxRecDepth 200000 in
theorem aX7 {post : Int32 → Prop} {p0 p1 p2 bT : Int32} {m_x gR nG oO pJ : Nat → Int32} (h_p0 : 0 ≤ Int32.toInt p0 ∧ Int32.toInt p0 ≤ 7) (h_p2 : 0 ≤ Int32.toInt p2 ∧ Int32.toInt p2 ≤ 1) (xJ : 0 ≤ Int32.toInt bT ∧ Int32.toInt bT ≤ 16) (aAW : ∀ k : Nat, 0 ≤ Int32.toInt (m_x k) ∧ Int32.toInt (m_x k) ≤ 99) (xK : ∀ k : Nat, 0 ≤ Int32.toInt (gR k) ∧ Int32.toInt (gR k) ≤ 99) (xT : ∀ k : Nat, 0 ≤ Int32.toInt (nG k) ∧ Int32.toInt (nG k) ≤ 99) (yF : ∀ k : Nat, 0 ≤ Int32.toInt (oO k) ∧ Int32.toInt (oO k) ≤ 99) (yD : ∀ k : Nat, k = 4 → 1 ≤ Int32.toInt (pJ k) ∧ Int32.toInt (pJ k) ≤ 30) (xZ : ∀ k : Nat, k = 3 → 0 ≤ Int32.toInt (pJ k) ∧ Int32.toInt (pJ k) ≤ 9) (hpost : ∀ (r : Int32) , (0 ≤ Int32.toInt r ∧ Int32.toInt r ≤ 65535) → post r) : aJz post p0 p1 p2 bT m_x gR nG oO pJ := by
  have l0 := aE0
  have f46 := aAT p1
  exact ⟨18, tb_X10_reachedFrom_6 bT m_x gR nG oO pJ xJ aAW xK xT yF yD xZ hpost _ p0 p1 p2 0 0 h_p0 h_p2 (by omega) (by omega) (by omega)⟩
set_option maxHeartbeats 8000000 in
set_option maxRecDepth 200000 in
theorem ts_X10_goShake_96 {post : Int32 → (Nat → Int32) → Prop} {SB : Int} {K50 : Int32 → Int32 → Int32 → (Nat → Int32) → Prop} {n50 : Int} (bT : Int32) (m_x gR qR nG oO pJ : Nat → Int32) (xJ : 0 ≤ Int32.toInt bT ∧ Int32.toInt bT ≤ 16) (aAW : ∀ k : Nat, 0 ≤ Int32.toInt (m_x k) ∧ Int32.toInt (m_x k) ≤ 99) (xK : ∀ k : Nat, 0 ≤ Int32.toInt (gR k) ∧ Int32.toInt (gR k) ≤ 99) (zM : ∀ k : Nat, 0 ≤ Int32.toInt (qR k) ∧ Int32.toInt (qR k) ≤ 9) (xT : ∀ k : Nat, 0 ≤ Int32.toInt (nG k) ∧ Int32.toInt (nG k) ≤ 99) (yF : ∀ k : Nat, 0 ≤ Int32.toInt (oO k) ∧ Int32.toInt (oO k) ≤ 99) (yD : ∀ k : Nat, k = 4 → 1 ≤ Int32.toInt (pJ k) ∧ Int32.toInt (pJ k) ≤ 30) (xZ : ∀ k : Nat, k = 3 → 0 ≤ Int32.toInt (pJ k) ∧ Int32.toInt (pJ k) ≤ 9) (hc0 : -1 ≤ SB ∧ SB ≤ 7) (hpost : ∀ (r : Int32) (aBf : Nat → Int32), (0 ≤ Int32.toInt r ∧ Int32.toInt r ≤ 63) → (∀ k : Nat, k = 17 → -1 ≤ Int32.toInt (aBf k) ∧ Int32.toInt (aBf k) ≤ SB) → (∀ k : Nat, k = 19 → 0 ≤ Int32.toInt (aBf k) ∧ Int32.toInt (aBf k) ≤ 9) → post r aBf) (hK50 : ∀ (x1 : Int32) (x2 : Int32) (x3 : Int32) (qG : Nat → Int32), (0 ≤ Int32.toInt x1 ∧ Int32.toInt x1 ≤ 65535) → (0 ≤ Int32.toInt x2 ∧ Int32.toInt x2 ≤ 65535) → (0 ≤ Int32.toInt x3 ∧ Int32.toInt x3 ≤ 16) → (∀ k : Nat, k = 17 → -1 ≤ Int32.toInt (qG k) ∧ Int32.toInt (qG k) ≤ SB) → (∀ k : Nat, k = 19 → 0 ≤ Int32.toInt (qG k) ∧ Int32.toInt (qG k) ≤ 9) → (16 - Int32.toInt x3 < n50) → K50 x1 x2 x3 qG) (x1 x2 x3 : Int32) (qG : Nat → Int32) (aBK : 0 ≤ Int32.toInt x1 ∧ Int32.toInt x1 ≤ 65535) (aBN : 0 ≤ Int32.toInt x2 ∧ Int32.toInt x2 ≤ 65535) (aCH : 0 ≤ Int32.toInt x3 ∧ Int32.toInt x3 ≤ 15) (xU : ∀ k : Nat, k = 17 → -1 ≤ Int32.toInt (qG k) ∧ Int32.toInt (qG k) ≤ SB) (xV : ∀ k : Nat, k = 19 → 0 ≤ Int32.toInt (qG k) ∧ Int32.toInt (qG k) ≤ 9) (hn50 : 16 - Int32.toInt x3 ≤ n50) : ws_X10_goShake_96 post K50 bT m_x gR qR nG oO pJ x1 x2 x3 qG := by
  have l0 := aEc
  intro v1 ev1
  have f2 : Int32.toInt (x3 + 1) = Int32.toInt x3 + Int32.toInt (1 : Int32) := aAD _ _ (by omega)
  rw [← ev1] at f2
  exact hK50 x1 x2 v1 qG aBK aBN (by omega) xU xV (by omega)
set_option maxHeartbeats 8000000 in
set_option maxRecDepth 200000 in
theorem ts_X10_goShake_50 {post : Int32 → (Nat → Int32) → Prop} {SB : Int} {next : Int32 → Int32 → Int32 → (Nat → Int32) → Prop} {n50 : Int} (bT : Int32) (m_x gR qR nG oO pJ : Nat → Int32) (xJ : 0 ≤ Int32.toInt bT ∧ Int32.toInt bT ≤ 16) (aAW : ∀ k : Nat, 0 ≤ Int32.toInt (m_x k) ∧ Int32.toInt (m_x k) ≤ 99) (xK : ∀ k : Nat, 0 ≤ Int32.toInt (gR k) ∧ Int32.toInt (gR k) ≤ 99) (zM : ∀ k : Nat, 0 ≤ Int32.toInt (qR k) ∧ Int32.toInt (qR k) ≤ 9) (xT : ∀ k : Nat, 0 ≤ Int32.toInt (nG k) ∧ Int32.toInt (nG k) ≤ 99) (yF : ∀ k : Nat, 0 ≤ Int32.toInt (oO k) ∧ Int32.toInt (oO k) ≤ 99) (yD : ∀ k : Nat, k = 4 → 1 ≤ Int32.toInt (pJ k) ∧ Int32.toInt (pJ k) ≤ 30) (xZ : ∀ k : Nat, k = 3 → 0 ≤ Int32.toInt (pJ k) ∧ Int32.toInt (pJ k) ≤ 9) (hc0 : -1 ≤ SB ∧ SB ≤ 7) (hpost : ∀ (r : Int32) (aBf : Nat → Int32), (0 ≤ Int32.toInt r ∧ Int32.toInt r ≤ 63) → (∀ k : Nat, k = 17 → -1 ≤ Int32.toInt (aBf k) ∧ Int32.toInt (aBf k) ≤ SB) → (∀ k : Nat, k = 19 → 0 ≤ Int32.toInt (aBf k) ∧ Int32.toInt (aBf k) ≤ 9) → post r aBf) (hKn : ∀ (x1 : Int32) (x2 : Int32) (x3 : Int32) (qG : Nat → Int32), (0 ≤ Int32.toInt x1 ∧ Int32.toInt x1 ≤ 65535) → (0 ≤ Int32.toInt x2 ∧ Int32.toInt x2 ≤ 65535) → (0 ≤ Int32.toInt x3 ∧ Int32.toInt x3 ≤ 16) → (∀ k : Nat, k = 17 → -1 ≤ Int32.toInt (qG k) ∧ Int32.toInt (qG k) ≤ SB) → (∀ k : Nat, k = 19 → 0 ≤ Int32.toInt (qG k) ∧ Int32.toInt (qG k) ≤ 9) → (16 - Int32.toInt x3 < n50) → next x1 x2 x3 qG) (x1 x2 x3 : Int32) (qG : Nat → Int32) (aBK : 0 ≤ Int32.toInt x1 ∧ Int32.toInt x1 ≤ 65535) (aBN : 0 ≤ Int32.toInt x2 ∧ Int32.toInt x2 ≤ 65535) (aCH : 0 ≤ Int32.toInt x3 ∧ Int32.toInt x3 ≤ 16) (xU : ∀ k : Nat, k = 17 → -1 ≤ Int32.toInt (qG k) ∧ Int32.toInt (qG k) ≤ SB) (xV : ∀ k : Nat, k = 19 → 0 ≤ Int32.toInt (qG k) ∧ Int32.toInt (qG k) ≤ 9) (hn50 : 16 - Int32.toInt x3 ≤ n50) : ws_X10_goShake_50 post next bT m_x gR qR nG oO pJ x1 x2 x3 qG := by
  have l0 := aEc
  have l1 := aKH
  have l2 := li_16
  have l3 := li_20
  have l4 := aJ8
  have l5 := li_3
  have l6 := li_63
  have l7 := aJ9
  have l8 := li_9999
  refine And.intro (fun c3 => ?_) (fun c3 => ?_)
  · skip
    have c3 := (aAO _ _).mp c3
    intro v4 ev4
    have hv4 := congrArg Int32.toInt ev4
    intro v6 ev6
    have hv6 := congrArg Int32.toInt ev6
    intro v8 ev8
    have f9 := aAT (if v6 < 9999 then v6 else 9999)
    have f11 := aAT v6
    have f10 := ti_min (9999 : Int32) v6
    have hv8 := congrArg Int32.toInt ev8
    have f13 := aAT v8
    have e12 : ∀ k : Nat, k = 17 → -1 ≤ Int32.toInt ((upd qG (20 : Int32).toNatClampNeg v8) k) ∧ Int32.toInt ((upd qG (20 : Int32).toNatClampNeg v8) k) ≤ SB := aCJ (C := fun k => k = 17) xU (fun hk => by have e9 : (20 : Int32).toNatClampNeg = (Int32.toInt (20 : Int32)).toNat := rfl; have hk : (20 : Int32).toNatClampNeg = 17 := hk; omega)
    have e14 : ∀ k : Nat, k = 19 → 0 ≤ Int32.toInt ((upd qG (20 : Int32).toNatClampNeg v8) k) ∧ Int32.toInt ((upd qG (20 : Int32).toNatClampNeg v8) k) ≤ 9 := aCJ (C := fun k => k = 19) xV (fun hk => by have e9 : (20 : Int32).toNatClampNeg = (Int32.toInt (20 : Int32)).toNat := rfl; have hk : (20 : Int32).toNatClampNeg = 19 := hk; omega)
    intro v15 ev15
    intro v16 ev16
    have f18 := aAQ v15 1431655765 (by omega)
    have f17 : Int32.toInt (x1 - (v15 &&& 1431655765)) = Int32.toInt x1 - Int32.toInt (v15 &&& 1431655765) := aCA _ _ (by omega)
    rw [← ev16] at f17
    intro v19 ev19
    have f20 := aAQ v16 858993459 (by omega)
    have hv19 := congrArg Int32.toInt ev19
    intro v21 ev21
    intro v22 ev22
    have f24 := aAQ v21 858993459 (by omega)
    have f23 : Int32.toInt (v19 + (v21 &&& 858993459)) = Int32.toInt v19 + Int32.toInt (v21 &&& 858993459) := aAD _ _ (by omega)
    rw [← ev22] at f23
    intro v25 ev25
    have hv25 := congrArg Int32.toInt ev25
    intro v27 ev27
    have f28 := aAQ v25 252645135 (by omega)
    have hv27 := congrArg Int32.toInt ev27
    intro v29 ev29
    have hv29 := congrArg Int32.toInt ev29
    intro v31 ev31
    have hv31 := congrArg Int32.toInt ev31
    have f33 := aAQ v31 63 (by omega)
    exact hpost _ _ (by omega) e12 e14
  · skip
    have c3 := mt (aAO _ _).mpr c3
    intro v34 ev34
    have f35 := aRJ x1 x3 (by omega)
    have hv34 := congrArg Int32.toInt ev34
    intro v36 ev36
    have f37 := aAQ v34 1 (by omega)
    have f38 := aBx v34 1 (by omega)
    have hv36 := congrArg Int32.toInt ev36
    refine And.intro (fun c39 => ?_) (fun c39 => ?_)
    · skip
      have c39 := mt (zJ _ _).mpr c39
      refine And.intro (fun h9 => absurd h9 (by decide)) (fun _ => ?_)
      exact ts_X10_goShake_96 bT m_x gR qR nG oO pJ xJ aAW xK zM xT yF yD xZ hc0 hpost hKn x1 x2 x3 qG aBK aBN (by omega) xU xV hn50
    · skip
      have c39 := (zJ _ _).mp c39
      refine And.intro (fun _ => ?_) (fun h9 => absurd h9 (by decide))
      refine And.intro (aBZ (by omega)) ?_
      have e40 : ∀ k : Nat, k = 17 → -1 ≤ Int32.toInt ((upd qG x3.toNatClampNeg 3) k) ∧ Int32.toInt ((upd qG x3.toNatClampNeg 3) k) ≤ SB := aCJ (C := fun k => k = 17) xU (fun hk => by have e9 : x3.toNatClampNeg = (Int32.toInt x3).toNat := rfl; have hk : x3.toNatClampNeg = 17 := hk; omega)
      have e41 : ∀ k : Nat, k = 19 → 0 ≤ Int32.toInt ((upd qG x3.toNatClampNeg 3) k) ∧ Int32.toInt ((upd qG x3.toNatClampNeg 3) k) ≤ 9 := aCJ (C := fun k => k = 19) xV (fun hk => by have e9 : x3.toNatClampNeg = (Int32.toInt x3).toNat := rfl; have hk : x3.toNatClampNeg = 19 := hk; omega)
      intro v42 ev42
      have hv42 := congrArg Int32.toInt ev42
      intro v44 ev44
      have f45 := aDv 15 32768 x3 (by decide) (by omega)
      have hv44 := congrArg Int32.toInt ev44
      refine t_X10_below (by omega) aBN xJ aAW xK (fun r46 h_r46 => ?_)
      intro v47 ev47
      have f49 := aAT v47
      have e48 : ∀ k : Nat, k = 17 → -1 ≤ Int32.toInt ((upd (upd qG x3.toNatClampNeg 3) (16 : Int32).toNatClampNeg v47) k) ∧ Int32.toInt ((upd (upd qG x3.toNatClampNeg 3) (16 : Int32).toNatClampNeg v47) k) ≤ SB := aCJ (C := fun k => k = 17) e40 (fun hk => by have e9 : (16 : Int32).toNatClampNeg = (Int32.toInt (16 : Int32)).toNat := rfl; have hk : (16 : Int32).toNatClampNeg = 17 := hk; omega)
      have e50 : ∀ k : Nat, k = 19 → 0 ≤ Int32.toInt ((upd (upd qG x3.toNatClampNeg 3) (16 : Int32).toNatClampNeg v47) k) ∧ Int32.toInt ((upd (upd qG x3.toNatClampNeg 3) (16 : Int32).toNatClampNeg v47) k) ≤ 9 := aCJ (C := fun k => k = 19) e41 (fun hk => by have e9 : (16 : Int32).toNatClampNeg = (Int32.toInt (16 : Int32)).toNat := rfl; have hk : (16 : Int32).toNatClampNeg = 19 := hk; omega)
      exact ts_X10_goShake_96 bT m_x gR qR nG oO pJ xJ aAW xK zM xT yF yD xZ hc0 hpost hKn x1 x2 x3 (upd (upd qG x3.toNatClampNeg 3) (16 : Int32).toNatClampNeg v47) aBK aBN (by omega) e48 e50 hn50
set_option maxHeartbeats 8000000 in
set_option maxRecDepth 200000 in
theorem tb_X10_goShake_50 {post : Int32 → (Nat → Int32) → Prop} {SB : Int} (bT : Int32) (m_x gR qR nG oO pJ : Nat → Int32) (xJ : 0 ≤ Int32.toInt bT ∧ Int32.toInt bT ≤ 16) (aAW : ∀ k : Nat, 0 ≤ Int32.toInt (m_x k) ∧ Int32.toInt (m_x k) ≤ 99) (xK : ∀ k : Nat, 0 ≤ Int32.toInt (gR k) ∧ Int32.toInt (gR k) ≤ 99) (zM : ∀ k : Nat, 0 ≤ Int32.toInt (qR k) ∧ Int32.toInt (qR k) ≤ 9) (xT : ∀ k : Nat, 0 ≤ Int32.toInt (nG k) ∧ Int32.toInt (nG k) ≤ 99) (yF : ∀ k : Nat, 0 ≤ Int32.toInt (oO k) ∧ Int32.toInt (oO k) ≤ 99) (yD : ∀ k : Nat, k = 4 → 1 ≤ Int32.toInt (pJ k) ∧ Int32.toInt (pJ k) ≤ 30) (xZ : ∀ k : Nat, k = 3 → 0 ≤ Int32.toInt (pJ k) ∧ Int32.toInt (pJ k) ≤ 9) (hc0 : -1 ≤ SB ∧ SB ≤ 7) (hpost : ∀ (r : Int32) (aBf : Nat → Int32), (0 ≤ Int32.toInt r ∧ Int32.toInt r ≤ 63) → (∀ k : Nat, k = 17 → -1 ≤ Int32.toInt (aBf k) ∧ Int32.toInt (aBf k) ≤ SB) → (∀ k : Nat, k = 19 → 0 ≤ Int32.toInt (aBf k) ∧ Int32.toInt (aBf k) ≤ 9) → post r aBf) : ∀ (n : Nat) (x1 x2 x3 : Int32) (qG : Nat → Int32), (0 ≤ Int32.toInt x1 ∧ Int32.toInt x1 ≤ 65535) → (0 ≤ Int32.toInt x2 ∧ Int32.toInt x2 ≤ 65535) → (0 ≤ Int32.toInt x3 ∧ Int32.toInt x3 ≤ 16) → (∀ k : Nat, k = 17 → -1 ≤ Int32.toInt (qG k) ∧ Int32.toInt (qG k) ≤ SB) → (∀ k : Nat, k = 19 → 0 ≤ Int32.toInt (qG k) ∧ Int32.toInt (qG k) ≤ 9) → (16 - Int32.toInt x3 < (n : Int)) → wb_X10_goShake_50 post bT m_x gR qR nG oO pJ n x1 x2 x3 qG := by
  intro n
  induction n with
  | zero =>
    intro x1 x2 x3 qG aBK aBN aCH xU xV hm
    exfalso; omega
  | succ n ih =>
    intro x1 x2 x3 qG aBK aBN aCH xU xV hm
    exact ts_X10_goShake_50 bT m_x gR qR nG oO pJ xJ aAW xK zM xT yF yD xZ hc0 hpost ih x1 x2 x3 qG aBK aBN aCH xU xV (by omega)
set_option maxHeartbeats 8000000 in
set_option maxRecDepth 200000 in
theorem t_X10_goShake {post : Int32 → (Nat → Int32) → Prop} {SB : Int} {bT : Int32} {qG m_x gR qR nG oO pJ : Nat → Int32} (xJ : 0 ≤ Int32.toInt bT ∧ Int32.toInt bT ≤ 16) (xU : ∀ k : Nat, k = 17 → -1 ≤ Int32.toInt (qG k) ∧ Int32.toInt (qG k) ≤ SB) (xV : ∀ k : Nat, k = 19 → 0 ≤ Int32.toInt (qG k) ∧ Int32.toInt (qG k) ≤ 9) (aAW : ∀ k : Nat, 0 ≤ Int32.toInt (m_x k) ∧ Int32.toInt (m_x k) ≤ 99) (xK : ∀ k : Nat, 0 ≤ Int32.toInt (gR k) ∧ Int32.toInt (gR k) ≤ 99) (zM : ∀ k : Nat, 0 ≤ Int32.toInt (qR k) ∧ Int32.toInt (qR k) ≤ 9) (xT : ∀ k : Nat, 0 ≤ Int32.toInt (nG k) ∧ Int32.toInt (nG k) ≤ 99) (yF : ∀ k : Nat, 0 ≤ Int32.toInt (oO k) ∧ Int32.toInt (oO k) ≤ 99) (yD : ∀ k : Nat, k = 4 → 1 ≤ Int32.toInt (pJ k) ∧ Int32.toInt (pJ k) ≤ 30) (xZ : ∀ k : Nat, k = 3 → 0 ≤ Int32.toInt (pJ k) ∧ Int32.toInt (pJ k) ≤ 9) (hc0 : -1 ≤ SB ∧ SB ≤ 7) (hx0 : 0 ≤ Int32.toInt (qG (17 : Int32).toNatClampNeg)) (hpost : ∀ (r : Int32) (aBf : Nat → Int32), (0 ≤ Int32.toInt r ∧ Int32.toInt r ≤ 63) → (∀ k : Nat, k = 17 → -1 ≤ Int32.toInt (aBf k) ∧ Int32.toInt (aBf k) ≤ SB) → (∀ k : Nat, k = 19 → 0 ≤ Int32.toInt (aBf k) ∧ Int32.toInt (aBf k) ≤ 9) → post r aBf) : wp_X10_goShake post bT qG m_x gR qR nG oO pJ := by
  have l0 := aE0
  have l1 := li_17
  have l2 := li_18
  have l3 := li_19
  refine aKO (by omega) xJ xU xV (by omega) (fun r51 h_r51 ox52 => ?_)
  have q53 := xV (19 : Int32).toNatClampNeg (by have e9 : (19 : Int32).toNatClampNeg = (Int32.toInt (19 : Int32)).toNat := rfl; omega)
  intro v54 ev54
  have hv54 := congrArg Int32.toInt ev54
  refine aXh (by omega) xJ zM (fun r56 h_r56 ox57 => ?_)
  intro v58 ev58
  have f59 := aAQ r51 r56 (by omega)
  have f60 := aBx r51 r56 (by omega)
  have hv58 := congrArg Int32.toInt ev58
  have q61 := xU (17 : Int32).toNatClampNeg (by have e9 : (17 : Int32).toNatClampNeg = (Int32.toInt (17 : Int32)).toNat := rfl; omega)
  intro v62 ev62
  have hv62 := congrArg Int32.toInt ev62
  intro v64 ev64
  have hv64 := congrArg Int32.toInt ev64
  refine aX7 (by omega) (by omega) xJ aAW xK xT yF yD xZ (fun r66 h_r66 => ?_)
  intro v67 ev67
  have f68 := aAQ v58 r66 (by omega)
  have f69 := aBx v58 r66 (by omega)
  have hv67 := congrArg Int32.toInt ev67
  refine aKO (by omega) xJ xU xV (by omega) (fun r70 h_r70 ox71 => ?_)
  intro v72 ev72
  have f74 := aBx r70 (v67 ^^^ (-1)) (by omega)
  have hv72 := congrArg Int32.toInt ev72
  exact ⟨18, tb_X10_goShake_50 bT m_x gR qR nG oO pJ xJ aAW xK zM xT yF yD xZ hc0 hpost _ v67 v72 0 qG (by omega) (by omega) (by omega) xU xV (by omega)⟩
