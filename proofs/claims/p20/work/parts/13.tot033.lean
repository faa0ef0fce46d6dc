set_option maxHeartbeats 8000000 in
set_option maxRecDepth 200000 in
theorem ts_X10_lay_2 {post : (Nat → Int32) → Prop} {SB : Int} {next : Int32 → Int32 → (Nat → Int32) → Prop} {n2 : Int} (qG : Nat → Int32) (xU : ∀ k : Nat, k = 17 → -1 ≤ Int32.toInt (qG k) ∧ Int32.toInt (qG k) ≤ SB) (xV : ∀ k : Nat, k = 19 → 0 ≤ Int32.toInt (qG k) ∧ Int32.toInt (qG k) ≤ 9) (hc0 : -1 ≤ SB ∧ SB ≤ 7) (hpost : ∀ (aBl : Nat → Int32), (∀ k : Nat, k % 21 = 17 → -1 ≤ Int32.toInt (aBl k) ∧ Int32.toInt (aBl k) ≤ SB) → (∀ k : Nat, k % 21 = 19 → 0 ≤ Int32.toInt (aBl k) ∧ Int32.toInt (aBl k) ≤ 9) → post aBl) (hKn : ∀ (x2 : Int32) (x3 : Int32) (uL : Nat → Int32), (0 ≤ Int32.toInt x2 ∧ Int32.toInt x2 ≤ 231) → (0 ≤ Int32.toInt x3 ∧ Int32.toInt x3 ≤ 21) → (∀ k : Nat, k % 21 = 17 → -1 ≤ Int32.toInt (uL k) ∧ Int32.toInt (uL k) ≤ SB) → (∀ k : Nat, k % 21 = 19 → 0 ≤ Int32.toInt (uL k) ∧ Int32.toInt (uL k) ≤ 9) → (Int32.toInt x2 % 21 = 0) → (21 - Int32.toInt x3 < n2) → next x2 x3 uL) (x2 x3 : Int32) (uL : Nat → Int32) (aBN : 0 ≤ Int32.toInt x2 ∧ Int32.toInt x2 ≤ 231) (aCH : 0 ≤ Int32.toInt x3 ∧ Int32.toInt x3 ≤ 21) (aAo : ∀ k : Nat, k % 21 = 17 → -1 ≤ Int32.toInt (uL k) ∧ Int32.toInt (uL k) ≤ SB) (aAp : ∀ k : Nat, k % 21 = 19 → 0 ≤ Int32.toInt (uL k) ∧ Int32.toInt (uL k) ≤ 9) (hx0 : Int32.toInt x2 % 21 = 0) (hn2 : 21 - Int32.toInt x3 ≤ n2) : ws_X10_lay_2 post next qG x2 x3 uL := by
  have l0 := aEc
  have l1 := li_21
  refine And.intro (fun c1 => ?_) (fun c1 => ?_)
  · skip
    have c1 := (aAO _ _).mp c1
    exact hpost _ aAo aAp
  · skip
    have c1 := mt (aAO _ _).mpr c1
    intro v2 ev2
    have f3 : Int32.toInt (x2 + x3) = Int32.toInt x2 + Int32.toInt x3 := aAD _ _ (by omega)
    rw [← ev2] at f3
    refine And.intro (aBZ (by omega)) ?_
    have q4 := xU x3.toNatClampNeg
    have q5 := xV x3.toNatClampNeg
    have q6 : x3.toNatClampNeg = (Int32.toInt x3).toNat := rfl
    intro v7 ev7
    have hv7 := congrArg Int32.toInt ev7
    refine And.intro (aBZ (by omega)) ?_
    have f10 := aAT v7
    have e9 : ∀ k : Nat, k % 21 = 17 → -1 ≤ Int32.toInt ((upd uL v2.toNatClampNeg v7) k) ∧ Int32.toInt ((upd uL v2.toNatClampNeg v7) k) ≤ SB := aCJ (C := fun k => k % 21 = 17) aAo (fun hk => by have e9 : v2.toNatClampNeg = (Int32.toInt v2).toNat := rfl; have hk : v2.toNatClampNeg % 21 = 17 := hk; omega)
    have e11 : ∀ k : Nat, k % 21 = 19 → 0 ≤ Int32.toInt ((upd uL v2.toNatClampNeg v7) k) ∧ Int32.toInt ((upd uL v2.toNatClampNeg v7) k) ≤ 9 := aCJ (C := fun k => k % 21 = 19) aAp (fun hk => by have e9 : v2.toNatClampNeg = (Int32.toInt v2).toNat := rfl; have hk : v2.toNatClampNeg % 21 = 19 := hk; omega)
    intro v12 ev12
    have f13 : Int32.toInt (x3 + 1) = Int32.toInt x3 + Int32.toInt (1 : Int32) := aAD _ _ (by omega)
    rw [← ev12] at f13
    exact hKn x2 v12 (upd uL v2.toNatClampNeg v7) aBN (by omega) e9 e11 hx0 (by omega)
set_option maxHeartbeats 8000000 in
set_option maxRecDepth 200000 in
theorem tb_X10_lay_2 {post : (Nat → Int32) → Prop} {SB : Int} (qG : Nat → Int32) (xU : ∀ k : Nat, k = 17 → -1 ≤ Int32.toInt (qG k) ∧ Int32.toInt (qG k) ≤ SB) (xV : ∀ k : Nat, k = 19 → 0 ≤ Int32.toInt (qG k) ∧ Int32.toInt (qG k) ≤ 9) (hc0 : -1 ≤ SB ∧ SB ≤ 7) (hpost : ∀ (aBl : Nat → Int32), (∀ k : Nat, k % 21 = 17 → -1 ≤ Int32.toInt (aBl k) ∧ Int32.toInt (aBl k) ≤ SB) → (∀ k : Nat, k % 21 = 19 → 0 ≤ Int32.toInt (aBl k) ∧ Int32.toInt (aBl k) ≤ 9) → post aBl) : ∀ (n : Nat) (x2 x3 : Int32) (uL : Nat → Int32), (0 ≤ Int32.toInt x2 ∧ Int32.toInt x2 ≤ 231) → (0 ≤ Int32.toInt x3 ∧ Int32.toInt x3 ≤ 21) → (∀ k : Nat, k % 21 = 17 → -1 ≤ Int32.toInt (uL k) ∧ Int32.toInt (uL k) ≤ SB) → (∀ k : Nat, k % 21 = 19 → 0 ≤ Int32.toInt (uL k) ∧ Int32.toInt (uL k) ≤ 9) → (Int32.toInt x2 % 21 = 0) → (21 - Int32.toInt x3 < (n : Int)) → wb_X10_lay_2 post qG n x2 x3 uL := by
  intro n
  induction n with
  | zero =>
    intro x2 x3 uL aBN aCH aAo aAp hx0 hm
    exfalso; omega
  | succ n ih =>
    intro x2 x3 uL aBN aCH aAo aAp hx0 hm
    exact ts_X10_lay_2 qG xU xV hc0 hpost ih x2 x3 uL aBN aCH aAo aAp hx0 (by omega)
set_option maxHeartbeats 8000000 in
set_option maxRecDepth 200000 in
theorem t_X10_lay {post : (Nat → Int32) → Prop} {SB : Int} {p2 : Int32} {qG uL : Nat → Int32} (h_p2 : 0 ≤ Int32.toInt p2 ∧ Int32.toInt p2 ≤ 231) (xU : ∀ k : Nat, k = 17 → -1 ≤ Int32.toInt (qG k) ∧ Int32.toInt (qG k) ≤ SB) (xV : ∀ k : Nat, k = 19 → 0 ≤ Int32.toInt (qG k) ∧ Int32.toInt (qG k) ≤ 9) (aAo : ∀ k : Nat, k % 21 = 17 → -1 ≤ Int32.toInt (uL k) ∧ Int32.toInt (uL k) ≤ SB) (aAp : ∀ k : Nat, k % 21 = 19 → 0 ≤ Int32.toInt (uL k) ∧ Int32.toInt (uL k) ≤ 9) (hc0 : -1 ≤ SB ∧ SB ≤ 7) (hx0 : Int32.toInt p2 % 21 = 0) (hpost : ∀ (aBl : Nat → Int32), (∀ k : Nat, k % 21 = 17 → -1 ≤ Int32.toInt (aBl k) ∧ Int32.toInt (aBl k) ≤ SB) → (∀ k : Nat, k % 21 = 19 → 0 ≤ Int32.toInt (aBl k) ∧ Int32.toInt (aBl k) ≤ 9) → post aBl) : wp_X10_lay post p2 qG uL := by
  have l0 := aE0
  exact ⟨23, tb_X10_lay_2 qG xU xV hc0 hpost _ p2 0 uL h_p2 (by omega) aAo aAp (by omega) (by omega)⟩
set_option maxHeartbeats 8000000 in
set_option maxRecDepth 200000 in
theorem ts_X10_remember_49 {post : Int32 → (Nat → Int32) → Prop} {SB : Int} (qG : Nat → Int32) (xU : ∀ k : Nat, k = 17 → -1 ≤ Int32.toInt (qG k) ∧ Int32.toInt (qG k) ≤ SB) (xV : ∀ k : Nat, k = 19 → 0 ≤ Int32.toInt (qG k) ∧ Int32.toInt (qG k) ≤ 9) (hc0 : -1 ≤ SB ∧ SB ≤ 7) (hpost : ∀ (aBI : Int32) (aBl : Nat → Int32), (1 ≤ Int32.toInt aBI ∧ Int32.toInt aBI ≤ 12) → (∀ k : Nat, k % 21 = 17 → -1 ≤ Int32.toInt (aBl k) ∧ Int32.toInt (aBl k) ≤ SB) → (∀ k : Nat, k % 21 = 19 → 0 ≤ Int32.toInt (aBl k) ∧ Int32.toInt (aBl k) ≤ 9) → post aBI aBl) (bU : Int32) (uL : Nat → Int32) (aAZ : 0 ≤ Int32.toInt bU ∧ Int32.toInt bU ≤ 11) (aAo : ∀ k : Nat, k % 21 = 17 → -1 ≤ Int32.toInt (uL k) ∧ Int32.toInt (uL k) ≤ SB) (aAp : ∀ k : Nat, k % 21 = 19 → 0 ≤ Int32.toInt (uL k) ∧ Int32.toInt (uL k) ≤ 9) : bCd post qG bU uL := by
  have l0 := aEc
  have l1 := li_21
  intro v1 ev1
  have f2 : Int32.toInt (21 * bU) = Int32.toInt bU * 21 := ta_cmul _ _ (by decide) (by omega)
  rw [← ev1] at f2
  refine t_X10_lay (by omega) xU xV aAo aAp (by omega) (by omega) (fun aJk e0_m_undos_3 e1_m_undos_3 => ?_)
  intro v4 ev4
  have f5 : Int32.toInt (bU + 1) = Int32.toInt bU + Int32.toInt (1 : Int32) := aAD _ _ (by omega)
  rw [← ev4] at f5
  exact hpost _ _ (by omega) e0_m_undos_3 e1_m_undos_3
set_option maxHeartbeats 8000000 in
set_option maxRecDepth 200000 in
theorem ts_X10_remember_11 {post : Int32 → (Nat → Int32) → Prop} {SB : Int} {next : Int32 → Int32 → (Nat → Int32) → Prop} {n11 : Int} (qG : Nat → Int32) (xU : ∀ k : Nat, k = 17 → -1 ≤ Int32.toInt (qG k) ∧ Int32.toInt (qG k) ≤ SB) (xV : ∀ k : Nat, k = 19 → 0 ≤ Int32.toInt (qG k) ∧ Int32.toInt (qG k) ≤ 9) (hc0 : -1 ≤ SB ∧ SB ≤ 7) (hpost : ∀ (aBI : Int32) (aBl : Nat → Int32), (1 ≤ Int32.toInt aBI ∧ Int32.toInt aBI ≤ 12) → (∀ k : Nat, k % 21 = 17 → -1 ≤ Int32.toInt (aBl k) ∧ Int32.toInt (aBl k) ≤ SB) → (∀ k : Nat, k % 21 = 19 → 0 ≤ Int32.toInt (aBl k) ∧ Int32.toInt (aBl k) ≤ 9) → post aBI aBl) (hKn : ∀ (x2 : Int32) (bU : Int32) (uL : Nat → Int32), (0 ≤ Int32.toInt x2 ∧ Int32.toInt x2 ≤ 231) → (12 ≤ Int32.toInt bU ∧ Int32.toInt bU ≤ 12) → (∀ k : Nat, k % 21 = 17 → -1 ≤ Int32.toInt (uL k) ∧ Int32.toInt (uL k) ≤ SB) → (∀ k : Nat, k % 21 = 19 → 0 ≤ Int32.toInt (uL k) ∧ Int32.toInt (uL k) ≤ 9) → (231 - Int32.toInt x2 < n11) → next x2 bU uL) (x2 bU : Int32) (uL : Nat → Int32) (aBN : 0 ≤ Int32.toInt x2 ∧ Int32.toInt x2 ≤ 231) (aAZ : 12 ≤ Int32.toInt bU ∧ Int32.toInt bU ≤ 12) (aAo : ∀ k : Nat, k % 21 = 17 → -1 ≤ Int32.toInt (uL k) ∧ Int32.toInt (uL k) ≤ SB) (aAp : ∀ k : Nat, k % 21 = 19 → 0 ≤ Int32.toInt (uL k) ∧ Int32.toInt (uL k) ≤ 9) (hn11 : 231 - Int32.toInt x2 ≤ n11) : ws_X10_remember_11 post next qG x2 bU uL := by
  have l0 := aEc
  have l1 := li_21
  have l2 := li_231
  refine And.intro (fun c6 => ?_) (fun c6 => ?_)
  · skip
    have c6 := (aAO _ _).mp c6
    intro v7 ev7
    have f8 : Int32.toInt (bU - 1) = Int32.toInt bU - Int32.toInt (1 : Int32) := aCA _ _ (by omega)
    rw [← ev7] at f8
    exact ts_X10_remember_49 qG xU xV hc0 hpost v7 uL (by omega) aAo aAp
  · skip
    have c6 := mt (aAO _ _).mpr c6
    intro v9 ev9
    have f10 : Int32.toInt (x2 + 21) = Int32.toInt x2 + Int32.toInt (21 : Int32) := aAD _ _ (by omega)
    rw [← ev9] at f10
    refine And.intro (aBZ (by omega)) ?_
    have q11 := aAo v9.toNatClampNeg
    have q12 := aAp v9.toNatClampNeg
    have q13 : v9.toNatClampNeg = (Int32.toInt v9).toNat := rfl
    intro v14 ev14
    have hv14 := congrArg Int32.toInt ev14
    refine And.intro (aBZ (by omega)) ?_
    have f17 := aAT v14
    have e16 : ∀ k : Nat, k % 21 = 17 → -1 ≤ Int32.toInt ((upd uL x2.toNatClampNeg v14) k) ∧ Int32.toInt ((upd uL x2.toNatClampNeg v14) k) ≤ SB := aCJ (C := fun k => k % 21 = 17) aAo (fun hk => by have e9 : x2.toNatClampNeg = (Int32.toInt x2).toNat := rfl; have hk : x2.toNatClampNeg % 21 = 17 := hk; omega)
    have e18 : ∀ k : Nat, k % 21 = 19 → 0 ≤ Int32.toInt ((upd uL x2.toNatClampNeg v14) k) ∧ Int32.toInt ((upd uL x2.toNatClampNeg v14) k) ≤ 9 := aCJ (C := fun k => k % 21 = 19) aAp (fun hk => by have e9 : x2.toNatClampNeg = (Int32.toInt x2).toNat := rfl; have hk : x2.toNatClampNeg % 21 = 19 := hk; omega)
    intro v19 ev19
    have f20 : Int32.toInt (x2 + 1) = Int32.toInt x2 + Int32.toInt (1 : Int32) := aAD _ _ (by omega)
    rw [← ev19] at f20
    exact hKn v19 bU (upd uL x2.toNatClampNeg v14) (by omega) aAZ e16 e18 (by omega)
set_option maxHeartbeats 8000000 in
set_option maxRecDepth 200000 in
theorem tb_X10_remember_11 {post : Int32 → (Nat → Int32) → Prop} {SB : Int} (qG : Nat → Int32) (xU : ∀ k : Nat, k = 17 → -1 ≤ Int32.toInt (qG k) ∧ Int32.toInt (qG k) ≤ SB) (xV : ∀ k : Nat, k = 19 → 0 ≤ Int32.toInt (qG k) ∧ Int32.toInt (qG k) ≤ 9) (hc0 : -1 ≤ SB ∧ SB ≤ 7) (hpost : ∀ (aBI : Int32) (aBl : Nat → Int32), (1 ≤ Int32.toInt aBI ∧ Int32.toInt aBI ≤ 12) → (∀ k : Nat, k % 21 = 17 → -1 ≤ Int32.toInt (aBl k) ∧ Int32.toInt (aBl k) ≤ SB) → (∀ k : Nat, k % 21 = 19 → 0 ≤ Int32.toInt (aBl k) ∧ Int32.toInt (aBl k) ≤ 9) → post aBI aBl) : ∀ (n : Nat) (x2 bU : Int32) (uL : Nat → Int32), (0 ≤ Int32.toInt x2 ∧ Int32.toInt x2 ≤ 231) → (12 ≤ Int32.toInt bU ∧ Int32.toInt bU ≤ 12) → (∀ k : Nat, k % 21 = 17 → -1 ≤ Int32.toInt (uL k) ∧ Int32.toInt (uL k) ≤ SB) → (∀ k : Nat, k % 21 = 19 → 0 ≤ Int32.toInt (uL k) ∧ Int32.toInt (uL k) ≤ 9) → (231 - Int32.toInt x2 < (n : Int)) → wb_X10_remember_11 post qG n x2 bU uL := by
  intro n
  induction n with
  | zero =>
    intro x2 bU uL aBN aAZ aAo aAp hm
    exfalso; omega
  | succ n ih =>
    intro x2 bU uL aBN aAZ aAo aAp hm
    exact ts_X10_remember_11 qG xU xV hc0 hpost ih x2 bU uL aBN aAZ aAo aAp (by omega)
set_option maxHeartbeats 8000000 in
set_option maxRecDepth 200000 in
theorem t_X10_remember {post : Int32 → (Nat → Int32) → Prop} {SB : Int} {bU : Int32} {qG uL : Nat → Int32} (aAZ : 0 ≤ Int32.toInt bU ∧ Int32.toInt bU ≤ 12) (xU : ∀ k : Nat, k = 17 → -1 ≤ Int32.toInt (qG k) ∧ Int32.toInt (qG k) ≤ SB) (xV : ∀ k : Nat, k = 19 → 0 ≤ Int32.toInt (qG k) ∧ Int32.toInt (qG k) ≤ 9) (aAo : ∀ k : Nat, k % 21 = 17 → -1 ≤ Int32.toInt (uL k) ∧ Int32.toInt (uL k) ≤ SB) (aAp : ∀ k : Nat, k % 21 = 19 → 0 ≤ Int32.toInt (uL k) ∧ Int32.toInt (uL k) ≤ 9) (hc0 : -1 ≤ SB ∧ SB ≤ 7) (hpost : ∀ (aBI : Int32) (aBl : Nat → Int32), (1 ≤ Int32.toInt aBI ∧ Int32.toInt aBI ≤ 12) → (∀ k : Nat, k % 21 = 17 → -1 ≤ Int32.toInt (aBl k) ∧ Int32.toInt (aBl k) ≤ SB) → (∀ k : Nat, k % 21 = 19 → 0 ≤ Int32.toInt (aBl k) ∧ Int32.toInt (aBl k) ≤ 9) → post aBI aBl) : aUa post bU qG uL := by
  have l0 := aE0
  have l1 := li_12
  refine And.intro (fun c21 => ?_) (fun c21 => ?_)
  · skip
    have c21 := mt (zJ _ _).mpr c21
    exact ts_X10_remember_49 qG xU xV hc0 hpost bU uL (by omega) aAo aAp
  · skip
    have c21 := (zJ _ _).mp c21
    exact ⟨233, tb_X10_remember_11 qG xU xV hc0 hpost _ 0 bU uL (by omega) (by omega) aAo aAp (by omega)⟩
theorem t_X10_moveOf {post : Int32 → Prop} {p0 p1 : Int32} {nG pJ : Nat → Int32} (h_p0 : -1 ≤ Int32.toInt p0 ∧ Int32.toInt p0 ≤ 7) (h_p1 : 0 ≤ Int32.toInt p1 ∧ Int32.toInt p1 ≤ 7) (xT : ∀ k : Nat, 0 ≤ Int32.toInt (nG k) ∧ Int32.toInt (nG k) ≤ 99) (yD : ∀ k : Nat, k = 4 → 1 ≤ Int32.toInt (pJ k) ∧ Int32.toInt (pJ k) ≤ 30) (xZ : ∀ k : Nat, k = 3 → 0 ≤ Int32.toInt (pJ k) ∧ Int32.toInt (pJ k) ≤ 9) (hx0 : -1 ≤ Int32.toInt p0 ∧ Int32.toInt p0 ≤ 7) (hx1 : 0 ≤ Int32.toInt p1 ∧ Int32.toInt p1 ≤ 7) (hpost : ∀ (r : Int32) , (9 ≤ Int32.toInt r ∧ Int32.toInt r ≤ 900) → (r = mvo nG pJ p0 p1) → post r) : bCI post p0 p1 nG pJ := by
  exact f_moveOf hx0 hx1 (hpost _ (mvo_rng xT xZ _ _) rfl)
set_option maxHeartbeats 8000000 in
set_option maxRecDepth 200000 in
theorem ts_X10_empty_35 {post : Int32 → (Nat → Int32) → Prop} {SB : Int} {m_now0 : Nat → Int32} {K4 : Int32 → Int32 → (Nat → Int32) → Prop} {n4 : Int} (bT : Int32) (xJ : 0 ≤ Int32.toInt bT ∧ Int32.toInt bT ≤ 16) (hc0 : -1 ≤ SB ∧ SB ≤ 7) (hpost : ∀ (r : Int32) (aBf : Nat → Int32), (∀ k : Nat, k = 17 → -1 ≤ Int32.toInt (aBf k) ∧ Int32.toInt (aBf k) ≤ SB) → (∀ k : Nat, k = 19 → 0 ≤ Int32.toInt (aBf k) ∧ Int32.toInt (aBf k) ≤ 9) → (aBf 19 = m_now0 19) → post r aBf) (hK4 : ∀ (x1 : Int32) (x2 : Int32) (qG : Nat → Int32), (0 ≤ Int32.toInt x2 ∧ Int32.toInt x2 ≤ 16) → (∀ k : Nat, k = 17 → -1 ≤ Int32.toInt (qG k) ∧ Int32.toInt (qG k) ≤ SB) → (∀ k : Nat, k = 19 → 0 ≤ Int32.toInt (qG k) ∧ Int32.toInt (qG k) ≤ 9) → (qG 19 = m_now0 19) → (16 - Int32.toInt x2 < n4) → K4 x1 x2 qG) (x1 x2 : Int32) (qG : Nat → Int32) (aBN : 0 ≤ Int32.toInt x2 ∧ Int32.toInt x2 ≤ 15) (xU : ∀ k : Nat, k = 17 → -1 ≤ Int32.toInt (qG k) ∧ Int32.toInt (qG k) ≤ SB) (xV : ∀ k : Nat, k = 19 → 0 ≤ Int32.toInt (qG k) ∧ Int32.toInt (qG k) ≤ 9) (hx0 : qG 19 = m_now0 19) (hn4 : 16 - Int32.toInt x2 ≤ n4) : ws_X10_empty_35 post K4 bT x1 x2 qG := by
  have l0 := aEc
  intro v1 ev1
  have f2 : Int32.toInt (x2 + 1) = Int32.toInt x2 + Int32.toInt (1 : Int32) := aAD _ _ (by omega)
  rw [← ev1] at f2
  have f3 := aAT x1
  exact hK4 x1 v1 qG (by omega) xU xV (by first | assumption | exact rfl | exact t_upk (by assumption) (t_nk (by omega))) (by omega)
set_option maxHeartbeats 8000000 in
set_option maxRecDepth 200000 in
theorem ts_X10_empty_4 {post : Int32 → (Nat → Int32) → Prop} {SB : Int} {m_now0 : Nat → Int32} {next : Int32 → Int32 → (Nat → Int32) → Prop} {n4 : Int} (bT : Int32) (xJ : 0 ≤ Int32.toInt bT ∧ Int32.toInt bT ≤ 16) (hc0 : -1 ≤ SB ∧ SB ≤ 7) (hpost : ∀ (r : Int32) (aBf : Nat → Int32), (∀ k : Nat, k = 17 → -1 ≤ Int32.toInt (aBf k) ∧ Int32.toInt (aBf k) ≤ SB) → (∀ k : Nat, k = 19 → 0 ≤ Int32.toInt (aBf k) ∧ Int32.toInt (aBf k) ≤ 9) → (aBf 19 = m_now0 19) → post r aBf) (hKn : ∀ (x1 : Int32) (x2 : Int32) (qG : Nat → Int32), (0 ≤ Int32.toInt x2 ∧ Int32.toInt x2 ≤ 16) → (∀ k : Nat, k = 17 → -1 ≤ Int32.toInt (qG k) ∧ Int32.toInt (qG k) ≤ SB) → (∀ k : Nat, k = 19 → 0 ≤ Int32.toInt (qG k) ∧ Int32.toInt (qG k) ≤ 9) → (qG 19 = m_now0 19) → (16 - Int32.toInt x2 < n4) → next x1 x2 qG) (x1 x2 : Int32) (qG : Nat → Int32) (aBN : 0 ≤ Int32.toInt x2 ∧ Int32.toInt x2 ≤ 16) (xU : ∀ k : Nat, k = 17 → -1 ≤ Int32.toInt (qG k) ∧ Int32.toInt (qG k) ≤ SB) (xV : ∀ k : Nat, k = 19 → 0 ≤ Int32.toInt (qG k) ∧ Int32.toInt (qG k) ≤ 9) (hx0 : qG 19 = m_now0 19) (hn4 : 16 - Int32.toInt x2 ≤ n4) : ws_X10_empty_4 post next bT x1 x2 qG := by
  have l0 := aEc
  have l1 := li_2
  refine And.intro (fun c4 => ?_) (fun c4 => ?_)
  · skip
    have c4 := (aAO _ _).mp c4
    exact hpost _ _ xU xV (by first | assumption | exact rfl | exact t_upk (by assumption) (t_nk (by omega)))
  · skip
    have c4 := mt (aAO _ _).mpr c4
    refine And.intro (aBZ (by omega)) ?_
    intro v5 ev5
    have hv5 := congrArg Int32.toInt ev5
    have f8 := aAT v5
    refine And.intro (fun c7 => ?_) (fun c7 => ?_)
    · skip
      have c7 := (zJ _ _).mp c7
      refine And.intro (aBZ (by omega)) ?_
      have e9 : ∀ k : Nat, k = 17 → -1 ≤ Int32.toInt ((upd qG x2.toNatClampNeg 2) k) ∧ Int32.toInt ((upd qG x2.toNatClampNeg 2) k) ≤ SB := aCJ (C := fun k => k = 17) xU (fun hk => by have e9 : x2.toNatClampNeg = (Int32.toInt x2).toNat := rfl; have hk : x2.toNatClampNeg = 17 := hk; omega)
      have e10 : ∀ k : Nat, k = 19 → 0 ≤ Int32.toInt ((upd qG x2.toNatClampNeg 2) k) ∧ Int32.toInt ((upd qG x2.toNatClampNeg 2) k) ≤ 9 := aCJ (C := fun k => k = 19) xV (fun hk => by have e9 : x2.toNatClampNeg = (Int32.toInt x2).toNat := rfl; have hk : x2.toNatClampNeg = 19 := hk; omega)
      intro v11 ev11
      have hv11 := congrArg Int32.toInt ev11
      have f13 := aAT v11
      exact ts_X10_empty_35 bT xJ hc0 hpost hKn v11 x2 (upd qG x2.toNatClampNeg 2) (by omega) e9 e10 (by first | assumption | exact rfl | exact t_upk (by assumption) (t_nk (by omega))) hn4
    · skip
      have c7 := mt (zJ _ _).mpr c7
      have f14 := aAT x1
      exact ts_X10_empty_35 bT xJ hc0 hpost hKn x1 x2 qG (by omega) xU xV (by first | assumption | exact rfl | exact t_upk (by assumption) (t_nk (by omega))) hn4
set_option maxHeartbeats 8000000 in
set_option maxRecDepth 200000 in
theorem tb_X10_empty_4 {post : Int32 → (Nat → Int32) → Prop} {SB : Int} {m_now0 : Nat → Int32} (bT : Int32) (xJ : 0 ≤ Int32.toInt bT ∧ Int32.toInt bT ≤ 16) (hc0 : -1 ≤ SB ∧ SB ≤ 7) (hpost : ∀ (r : Int32) (aBf : Nat → Int32), (∀ k : Nat, k = 17 → -1 ≤ Int32.toInt (aBf k) ∧ Int32.toInt (aBf k) ≤ SB) → (∀ k : Nat, k = 19 → 0 ≤ Int32.toInt (aBf k) ∧ Int32.toInt (aBf k) ≤ 9) → (aBf 19 = m_now0 19) → post r aBf) : ∀ (n : Nat) (x1 x2 : Int32) (qG : Nat → Int32), (0 ≤ Int32.toInt x2 ∧ Int32.toInt x2 ≤ 16) → (∀ k : Nat, k = 17 → -1 ≤ Int32.toInt (qG k) ∧ Int32.toInt (qG k) ≤ SB) → (∀ k : Nat, k = 19 → 0 ≤ Int32.toInt (qG k) ∧ Int32.toInt (qG k) ≤ 9) → (qG 19 = m_now0 19) → (16 - Int32.toInt x2 < (n : Int)) → wb_X10_empty_4 post bT n x1 x2 qG := by
  intro n
  induction n with
  | zero =>
    intro x1 x2 qG aBN xU xV hx0 hm
    exfalso; omega
  | succ n ih =>
    intro x1 x2 qG aBN xU xV hx0 hm
    exact ts_X10_empty_4 bT xJ hc0 hpost ih x1 x2 qG aBN xU xV hx0 (by omega)
set_option maxHeartbeats 8000000 in
set_option maxRecDepth 200000 in
theorem t_X10_empty {post : Int32 → (Nat → Int32) → Prop} {SB : Int} {bT : Int32} {qG : Nat → Int32} (xJ : 0 ≤ Int32.toInt bT ∧ Int32.toInt bT ≤ 16) (xU : ∀ k : Nat, k = 17 → -1 ≤ Int32.toInt (qG k) ∧ Int32.toInt (qG k) ≤ SB) (xV : ∀ k : Nat, k = 19 → 0 ≤ Int32.toInt (qG k) ∧ Int32.toInt (qG k) ≤ 9) (hc0 : -1 ≤ SB ∧ SB ≤ 7) (hpost : ∀ (r : Int32) (aBf : Nat → Int32), (∀ k : Nat, k = 17 → -1 ≤ Int32.toInt (aBf k) ∧ Int32.toInt (aBf k) ≤ SB) → (∀ k : Nat, k = 19 → 0 ≤ Int32.toInt (aBf k) ∧ Int32.toInt (aBf k) ≤ 9) → (aBf 19 = qG 19) → post r aBf) : wp_X10_empty post bT qG := by
  have l0 := aE0
  exact ⟨18, tb_X10_empty_4 bT xJ hc0 hpost _ 0 0 qG (by omega) xU xV (by first | assumption | exact rfl | exact t_upk (by assumption) (t_nk (by omega))) (by omega)⟩
set_option maxHeartbeats 8000000 in
set_option maxRecDepth 200000 in
theorem ts_X10_goMove_50 {post : Int32 → (Nat → Int32) → Prop} {SB : Int} (bT : Int32) (nG oO pJ : Nat → Int32) (xJ : 0 ≤ Int32.toInt bT ∧ Int32.toInt bT ≤ 16) (xT : ∀ k : Nat, 0 ≤ Int32.toInt (nG k) ∧ Int32.toInt (nG k) ≤ 99) (yF : ∀ k : Nat, 0 ≤ Int32.toInt (oO k) ∧ Int32.toInt (oO k) ≤ 99) (yD : ∀ k : Nat, k = 4 → 1 ≤ Int32.toInt (pJ k) ∧ Int32.toInt (pJ k) ≤ 30) (xZ : ∀ k : Nat, k = 3 → 0 ≤ Int32.toInt (pJ k) ∧ Int32.toInt (pJ k) ≤ 9) (hc0 : -1 ≤ SB ∧ SB ≤ 7) (hpost : ∀ (r : Int32) (aBf : Nat → Int32), (9 ≤ Int32.toInt r ∧ Int32.toInt r ≤ 913) → (∀ k : Nat, k = 17 → -1 ≤ Int32.toInt (aBf k) ∧ Int32.toInt (aBf k) ≤ SB) → (∀ k : Nat, k = 19 → 0 ≤ Int32.toInt (aBf k) ∧ Int32.toInt (aBf k) ≤ 9) → post r aBf) (x1 x2 : Int32) (qG : Nat → Int32) (aBK : 0 ≤ Int32.toInt x1 ∧ Int32.toInt x1 ≤ 7) (aBN : 9 ≤ Int32.toInt x2 ∧ Int32.toInt x2 ≤ 913) (xU : ∀ k : Nat, k = 17 → -1 ≤ Int32.toInt (qG k) ∧ Int32.toInt (qG k) ≤ SB) (xV : ∀ k : Nat, k = 19 → 0 ≤ Int32.toInt (qG k) ∧ Int32.toInt (qG k) ≤ 9) (hx0 : Int32.toInt x1 ≤ SB) : ws_X10_goMove_50 post bT nG oO pJ x1 x2 qG := by
  have l0 := li_17
  have l1 := li_20
  have l2 := li_9999
  refine t_X10_empty xJ xU xV (by omega) (fun r2 m_now_1 e0_m_now_1 e1_m_now_1 ox3 => ?_)
  have e4 : ∀ k : Nat, k = 17 → -1 ≤ Int32.toInt ((upd m_now_1 (17 : Int32).toNatClampNeg x1) k) ∧ Int32.toInt ((upd m_now_1 (17 : Int32).toNatClampNeg x1) k) ≤ SB := aCJ (C := fun k => k = 17) e0_m_now_1 (fun hk => by have e9 : (17 : Int32).toNatClampNeg = (Int32.toInt (17 : Int32)).toNat := rfl; have hk : (17 : Int32).toNatClampNeg = 17 := hk; omega)
  have e5 : ∀ k : Nat, k = 19 → 0 ≤ Int32.toInt ((upd m_now_1 (17 : Int32).toNatClampNeg x1) k) ∧ Int32.toInt ((upd m_now_1 (17 : Int32).toNatClampNeg x1) k) ≤ 9 := aCJ (C := fun k => k = 19) e1_m_now_1 (fun hk => by have e9 : (17 : Int32).toNatClampNeg = (Int32.toInt (17 : Int32)).toNat := rfl; have hk : (17 : Int32).toNatClampNeg = 19 := hk; omega)
  intro v6 ev6
  have hv6 := congrArg Int32.toInt ev6
  intro v8 ev8
  have hv8 := congrArg Int32.toInt ev8
  intro v10 ev10
  have f11 := aAT (if v8 < 9999 then v8 else 9999)
  have f13 := aAT v8
  have f12 := ti_min (9999 : Int32) v8
  have hv10 := congrArg Int32.toInt ev10
  have f15 := aAT v10
  have e14 : ∀ k : Nat, k = 17 → -1 ≤ Int32.toInt ((upd (upd m_now_1 (17 : Int32).toNatClampNeg x1) (20 : Int32).toNatClampNeg v10) k) ∧ Int32.toInt ((upd (upd m_now_1 (17 : Int32).toNatClampNeg x1) (20 : Int32).toNatClampNeg v10) k) ≤ SB := aCJ (C := fun k => k = 17) e4 (fun hk => by have e9 : (20 : Int32).toNatClampNeg = (Int32.toInt (20 : Int32)).toNat := rfl; have hk : (20 : Int32).toNatClampNeg = 17 := hk; omega)
  have e16 : ∀ k : Nat, k = 19 → 0 ≤ Int32.toInt ((upd (upd m_now_1 (17 : Int32).toNatClampNeg x1) (20 : Int32).toNatClampNeg v10) k) ∧ Int32.toInt ((upd (upd m_now_1 (17 : Int32).toNatClampNeg x1) (20 : Int32).toNatClampNeg v10) k) ≤ 9 := aCJ (C := fun k => k = 19) e5 (fun hk => by have e9 : (20 : Int32).toNatClampNeg = (Int32.toInt (20 : Int32)).toNat := rfl; have hk : (20 : Int32).toNatClampNeg = 19 := hk; omega)
  exact hpost _ _ aBN e14 e16
set_option maxHeartbeats 8000000 in
set_option maxRecDepth 200000 in
theorem t_X10_goMove {post : Int32 → (Nat → Int32) → Prop} {SB : Int} {p0 bT : Int32} {qG nG oO pJ : Nat → Int32} (h_p0 : 0 ≤ Int32.toInt p0 ∧ Int32.toInt p0 ≤ 7) (xJ : 0 ≤ Int32.toInt bT ∧ Int32.toInt bT ≤ 16) (xU : ∀ k : Nat, k = 17 → -1 ≤ Int32.toInt (qG k) ∧ Int32.toInt (qG k) ≤ SB) (xV : ∀ k : Nat, k = 19 → 0 ≤ Int32.toInt (qG k) ∧ Int32.toInt (qG k) ≤ 9) (xT : ∀ k : Nat, 0 ≤ Int32.toInt (nG k) ∧ Int32.toInt (nG k) ≤ 99) (yF : ∀ k : Nat, 0 ≤ Int32.toInt (oO k) ∧ Int32.toInt (oO k) ≤ 99) (yD : ∀ k : Nat, k = 4 → 1 ≤ Int32.toInt (pJ k) ∧ Int32.toInt (pJ k) ≤ 30) (xZ : ∀ k : Nat, k = 3 → 0 ≤ Int32.toInt (pJ k) ∧ Int32.toInt (pJ k) ≤ 9) (hc0 : -1 ≤ SB ∧ SB ≤ 7) (hx0 : Int32.toInt p0 ≤ SB) (hpost : ∀ (r : Int32) (aBf : Nat → Int32), (9 ≤ Int32.toInt r ∧ Int32.toInt r ≤ 913) → (∀ k : Nat, k = 17 → -1 ≤ Int32.toInt (aBf k) ∧ Int32.toInt (aBf k) ≤ SB) → (∀ k : Nat, k = 19 → 0 ≤ Int32.toInt (aBf k) ∧ Int32.toInt (aBf k) ≤ 9) → post r aBf) : wp_X10_goMove post p0 bT qG nG oO pJ := by
  have l0 := aI2
  have l1 := aE0
  have l2 := aEc
  have l3 := li_10
  have l4 := li_17
  have l5 := li_3
  have l6 := li_9
  have q17 := xU (17 : Int32).toNatClampNeg (by have e9 : (17 : Int32).toNatClampNeg = (Int32.toInt (17 : Int32)).toNat := rfl; omega)
  intro v18 ev18
  have hv18 := congrArg Int32.toInt ev18
  refine t_X10_moveOf (by omega) h_p0 xT yD xZ (by omega) (by omega) (fun r20 h_r20 ox21 => ?_)
  refine aKO (by omega) xJ xU xV (by omega) (fun r22 h_r22 ox23 => ?_)
  refine And.intro (fun c24 => ?_) (fun c24 => ?_)
  · skip
    have c24 := (zJ _ _).mp c24
    exact ts_X10_goMove_50 bT nG oO pJ xJ xT yF yD xZ hc0 hpost p0 r20 qG h_p0 (by omega) xU xV (by omega)
  · skip
    have c24 := mt (zJ _ _).mpr c24
    have q25 := xU (17 : Int32).toNatClampNeg (by have e9 : (17 : Int32).toNatClampNeg = (Int32.toInt (17 : Int32)).toNat := rfl; omega)
    intro v26 ev26
    have hv26 := congrArg Int32.toInt ev26
    refine And.intro (fun c27 => ?_) (fun c27 => ?_)
    · skip
      have c27 := (zJ _ _).mp c27
      exact ts_X10_goMove_50 bT nG oO pJ xJ xT yF yD xZ hc0 hpost p0 r20 qG h_p0 (by omega) xU xV (by omega)
    · skip
      have c27 := mt (zJ _ _).mpr c27
      have q28 := xU (17 : Int32).toNatClampNeg (by have e9 : (17 : Int32).toNatClampNeg = (Int32.toInt (17 : Int32)).toNat := rfl; omega)
      intro v29 ev29
      have hv29 := congrArg Int32.toInt ev29
      refine And.intro (aBZ (by omega)) ?_
      intro v30 ev30
      have f31 := yF v29.toNatClampNeg
      have hv30 := congrArg Int32.toInt ev30
      intro v32 ev32
      have f33 : Int32.toInt (v30 + 9) = Int32.toInt v30 + Int32.toInt (9 : Int32) := aAD _ _ (by omega)
      rw [← ev32] at f33
      intro v34 ev34
      have f37 : Int32.toInt (v32 / 10) = Int32.toInt v32 / 10 := ti_div _ _ (by decide) (by omega) (by decide)
      have f36 : Int32.toInt (3 + (v32 / 10)) = Int32.toInt (3 : Int32) + Int32.toInt (v32 / 10) := aAD _ _ (by omega)
      have f35 : Int32.toInt (r20 + (3 + (v32 / 10))) = Int32.toInt r20 + Int32.toInt (3 + (v32 / 10)) := aAD _ _ (by omega)
      rw [← ev34] at f35
      exact ts_X10_goMove_50 bT nG oO pJ xJ xT yF yD xZ hc0 hpost p0 v34 qG h_p0 (by omega) xU xV (by omega)
set_option maxHeartbeats 8000000 in
set_option maxRecDepth 200000 in
theorem t_X10_move {post : Int32 → Int32 → Int32 → (Nat → Int32) → (Nat → Int32) → Prop} {SB : Int} {p0 bT aG bY bU : Int32} {qG nG oO pJ uL : Nat → Int32} (xJ : 0 ≤ Int32.toInt bT ∧ Int32.toInt bT ≤ 16) (vZ : 0 ≤ Int32.toInt aG ∧ Int32.toInt aG ≤ 8) (yG : 0 ≤ Int32.toInt bY ∧ Int32.toInt bY ≤ 1) (aAZ : 0 ≤ Int32.toInt bU ∧ Int32.toInt bU ≤ 12) (xU : ∀ k : Nat, k = 17 → -1 ≤ Int32.toInt (qG k) ∧ Int32.toInt (qG k) ≤ SB) (xV : ∀ k : Nat, k = 19 → 0 ≤ Int32.toInt (qG k) ∧ Int32.toInt (qG k) ≤ 9) (xT : ∀ k : Nat, 0 ≤ Int32.toInt (nG k) ∧ Int32.toInt (nG k) ≤ 99) (yF : ∀ k : Nat, 0 ≤ Int32.toInt (oO k) ∧ Int32.toInt (oO k) ≤ 99) (yD : ∀ k : Nat, k = 4 → 1 ≤ Int32.toInt (pJ k) ∧ Int32.toInt (pJ k) ≤ 30) (xZ : ∀ k : Nat, k = 3 → 0 ≤ Int32.toInt (pJ k) ∧ Int32.toInt (pJ k) ≤ 9) (aAo : ∀ k : Nat, k % 21 = 17 → -1 ≤ Int32.toInt (uL k) ∧ Int32.toInt (uL k) ≤ SB) (aAp : ∀ k : Nat, k % 21 = 19 → 0 ≤ Int32.toInt (uL k) ∧ Int32.toInt (uL k) ≤ 9) (hc0 : -1 ≤ SB ∧ SB ≤ 7) (hc1 : (Int32.toInt aG ≤ 0 ∧ SB = 0) ∨ (1 ≤ Int32.toInt aG ∧ SB = Int32.toInt aG - 1)) (hpost : ∀ (r : Int32) (xG : Int32) (aBI : Int32) (aBf : Nat → Int32) (aBl : Nat → Int32), (-2 ≤ Int32.toInt r ∧ Int32.toInt r ≤ 913) → (0 ≤ Int32.toInt xG ∧ Int32.toInt xG ≤ 0) → (0 ≤ Int32.toInt aBI ∧ Int32.toInt aBI ≤ 12) → (∀ k : Nat, k = 17 → -1 ≤ Int32.toInt (aBf k) ∧ Int32.toInt (aBf k) ≤ SB) → (∀ k : Nat, k = 19 → 0 ≤ Int32.toInt (aBf k) ∧ Int32.toInt (aBf k) ≤ 9) → (∀ k : Nat, k % 21 = 17 → -1 ≤ Int32.toInt (aBl k) ∧ Int32.toInt (aBl k) ≤ SB) → (∀ k : Nat, k % 21 = 19 → 0 ≤ Int32.toInt (aBl k) ∧ Int32.toInt (aBl k) ≤ 9) → post r xG aBI aBf aBl) : wp_X10_move post p0 bT aG bY bU qG nG oO pJ uL := by
  have l0 := aI2
  have l1 := li_m2
  have l2 := aE0
  have l3 := aEc
  have l4 := li_17
  intro v1 ev1
  have f2 : Int32.toInt (aG - 1) = Int32.toInt aG - Int32.toInt (1 : Int32) := aCA _ _ (by omega)
  rw [← ev1] at f2
  have f4 := aAT p0
  refine And.intro (fun c3 => ?_) (fun c3 => ?_)
  · skip
    have c3 := (aAd _ _).mp c3
    refine And.intro (aHE (by omega)) ?_
    refine And.intro (fun h9 => absurd h9 (by decide)) (fun _ => ?_)
    refine And.intro (fun h9 => absurd h9 (by decide)) (fun _ => ?_)
    exact hpost _ _ _ _ _ (by omega) (by omega) aAZ xU xV aAo aAp
  · skip
    have c3 := mt (aAd _ _).mpr c3
    refine And.intro (fun c5 => ?_) (fun c5 => ?_)
    · skip
      have c5 := (aAd _ _).mp c5
      refine And.intro (aHE (by omega)) ?_
      refine And.intro (fun h9 => absurd h9 (by decide)) (fun _ => ?_)
      refine And.intro (fun h9 => absurd h9 (by decide)) (fun _ => ?_)
      exact hpost _ _ _ _ _ (by omega) (by omega) aAZ xU xV aAo aAp
    · skip
      have c5 := mt (aAd _ _).mpr c5
      refine And.intro (aHE (by omega)) ?_
      refine And.intro (fun _ => ?_) (fun h9 => absurd h9 (by decide))
      have q6 := xU (17 : Int32).toNatClampNeg (by have e9 : (17 : Int32).toNatClampNeg = (Int32.toInt (17 : Int32)).toNat := rfl; omega)
      intro v7 ev7
      have hv7 := congrArg Int32.toInt ev7
      refine And.intro (fun c9 => ?_) (fun c9 => ?_)
      · skip
        have c9 := mt (zJ _ _).mpr c9
        refine And.intro (fun _ => ?_) (fun h9 => absurd h9 (by decide))
        refine t_X10_remember aAZ xU xV aAo aAp (by omega) (fun m_undoMany_10 m_undos_11 h_m_undoMany_10 e0_m_undos_11 e1_m_undos_11 => ?_)
        refine t_X10_goMove (by omega) xJ xU xV xT yF yD xZ (by omega) (by omega) (fun r13 m_now_12 h_r13 e0_m_now_12 e1_m_now_12 => ?_)
        exact hpost _ _ _ _ _ (by omega) (by omega) (by omega) e0_m_now_12 e1_m_now_12 e0_m_undos_11 e1_m_undos_11
      · skip
        have c9 := (zJ _ _).mp c9
        refine And.intro (fun h9 => absurd h9 (by decide)) (fun _ => ?_)
        exact hpost _ _ _ _ _ (by omega) (by omega) aAZ xU xV aAo aAp
