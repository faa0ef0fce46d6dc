set_option maxHeartbeats 8000000 in
set_option maxRecDepth 200000 in
theorem ts_X10_lay_b4_2 {post : (Nat → Int32) → Prop} {SB : Int} {next : Int32 → Int32 → (Nat → Int32) → Prop} {n2 : Int} (qG : Nat → Int32) (xU : ∀ k : Nat, k = 17 → -1 ≤ Int32.toInt (qG k) ∧ Int32.toInt (qG k) ≤ SB) (xV : ∀ k : Nat, k = 19 → 0 ≤ Int32.toInt (qG k) ∧ Int32.toInt (qG k) ≤ 9) (hc0 : -1 ≤ SB ∧ SB ≤ 7) (hpost : ∀ (m_kept' : Nat → Int32), (∀ k : Nat, k % 21 = 17 → -1 ≤ Int32.toInt (m_kept' k) ∧ Int32.toInt (m_kept' k) ≤ SB) → (∀ k : Nat, k % 21 = 19 → 0 ≤ Int32.toInt (m_kept' k) ∧ Int32.toInt (m_kept' k) ≤ 9) → post m_kept') (hKn : ∀ (x2 : Int32) (x3 : Int32) (xD : Nat → Int32), (0 ≤ Int32.toInt x2 ∧ Int32.toInt x2 ≤ 21) → (0 ≤ Int32.toInt x3 ∧ Int32.toInt x3 ≤ 21) → (∀ k : Nat, k % 21 = 17 → -1 ≤ Int32.toInt (xD k) ∧ Int32.toInt (xD k) ≤ SB) → (∀ k : Nat, k % 21 = 19 → 0 ≤ Int32.toInt (xD k) ∧ Int32.toInt (xD k) ≤ 9) → (Int32.toInt x2 % 21 = 0) → (21 - Int32.toInt x3 < n2) → next x2 x3 xD) (x2 x3 : Int32) (xD : Nat → Int32) (aBN : 0 ≤ Int32.toInt x2 ∧ Int32.toInt x2 ≤ 21) (aCH : 0 ≤ Int32.toInt x3 ∧ Int32.toInt x3 ≤ 21) (aCE : ∀ k : Nat, k % 21 = 17 → -1 ≤ Int32.toInt (xD k) ∧ Int32.toInt (xD k) ≤ SB) (aCF : ∀ k : Nat, k % 21 = 19 → 0 ≤ Int32.toInt (xD k) ∧ Int32.toInt (xD k) ≤ 9) (hx0 : Int32.toInt x2 % 21 = 0) (hn2 : 21 - Int32.toInt x3 ≤ n2) : ws_X10_lay_b4_2 post next qG x2 x3 xD := by
  have l0 := aEc
  have l1 := li_21
  refine And.intro (fun c1 => ?_) (fun c1 => ?_)
  · skip
    have c1 := (aAO _ _).mp c1
    exact hpost _ aCE aCF
  · skip
    have c1 := mt (aAO _ _).mpr c1
    intro v2 ev2
    have f3 : Int32.toInt (x2 + x3) = Int32.toInt x2 + Int32.toInt x3 := aAD _ _ (by omega)
    rw [← ev2] at f3
    refine And.intro (aBZ (by omega)) ?_
    have q4 := xU x3.toNatClampNeg
    have q5 := xV x3.toNatClampNeg
    have q6 : x3.toNatClampNeg = (Int32.toInt x3).toNat := rfl
    intro v7 ev7
    have hv7 := congrArg Int32.toInt ev7
    refine And.intro (aBZ (by omega)) ?_
    have f10 := aAT v7
    have e9 : ∀ k : Nat, k % 21 = 17 → -1 ≤ Int32.toInt ((upd xD v2.toNatClampNeg v7) k) ∧ Int32.toInt ((upd xD v2.toNatClampNeg v7) k) ≤ SB := aCJ (C := fun k => k % 21 = 17) aCE (fun hk => by have e9 : v2.toNatClampNeg = (Int32.toInt v2).toNat := rfl; have hk : v2.toNatClampNeg % 21 = 17 := hk; omega)
    have e11 : ∀ k : Nat, k % 21 = 19 → 0 ≤ Int32.toInt ((upd xD v2.toNatClampNeg v7) k) ∧ Int32.toInt ((upd xD v2.toNatClampNeg v7) k) ≤ 9 := aCJ (C := fun k => k % 21 = 19) aCF (fun hk => by have e9 : v2.toNatClampNeg = (Int32.toInt v2).toNat := rfl; have hk : v2.toNatClampNeg % 21 = 19 := hk; omega)
    intro v12 ev12
    have f13 : Int32.toInt (x3 + 1) = Int32.toInt x3 + Int32.toInt (1 : Int32) := aAD _ _ (by omega)
    rw [← ev12] at f13
    exact hKn x2 v12 (upd xD v2.toNatClampNeg v7) aBN (by omega) e9 e11 hx0 (by omega)
set_option maxHeartbeats 8000000 in
set_option maxRecDepth 200000 in
theorem tb_X10_lay_b4_2 {post : (Nat → Int32) → Prop} {SB : Int} (qG : Nat → Int32) (xU : ∀ k : Nat, k = 17 → -1 ≤ Int32.toInt (qG k) ∧ Int32.toInt (qG k) ≤ SB) (xV : ∀ k : Nat, k = 19 → 0 ≤ Int32.toInt (qG k) ∧ Int32.toInt (qG k) ≤ 9) (hc0 : -1 ≤ SB ∧ SB ≤ 7) (hpost : ∀ (m_kept' : Nat → Int32), (∀ k : Nat, k % 21 = 17 → -1 ≤ Int32.toInt (m_kept' k) ∧ Int32.toInt (m_kept' k) ≤ SB) → (∀ k : Nat, k % 21 = 19 → 0 ≤ Int32.toInt (m_kept' k) ∧ Int32.toInt (m_kept' k) ≤ 9) → post m_kept') : ∀ (n : Nat) (x2 x3 : Int32) (xD : Nat → Int32), (0 ≤ Int32.toInt x2 ∧ Int32.toInt x2 ≤ 21) → (0 ≤ Int32.toInt x3 ∧ Int32.toInt x3 ≤ 21) → (∀ k : Nat, k % 21 = 17 → -1 ≤ Int32.toInt (xD k) ∧ Int32.toInt (xD k) ≤ SB) → (∀ k : Nat, k % 21 = 19 → 0 ≤ Int32.toInt (xD k) ∧ Int32.toInt (xD k) ≤ 9) → (Int32.toInt x2 % 21 = 0) → (21 - Int32.toInt x3 < (n : Int)) → wb_X10_lay_b4_2 post qG n x2 x3 xD := by
  intro n
  induction n with
  | zero =>
    intro x2 x3 xD aBN aCH aCE aCF hx0 hm
    exfalso; omega
  | succ n ih =>
    intro x2 x3 xD aBN aCH aCE aCF hx0 hm
    exact ts_X10_lay_b4_2 qG xU xV hc0 hpost ih x2 x3 xD aBN aCH aCE aCF hx0 (by omega)
set_option maxHeartbeats 8000000 in
set_option maxRecDepth 200000 in
theorem t_X10_lay_b4 {post : (Nat → Int32) → Prop} {SB : Int} {p2 : Int32} {qG xD : Nat → Int32} (h_p2 : 0 ≤ Int32.toInt p2 ∧ Int32.toInt p2 ≤ 21) (xU : ∀ k : Nat, k = 17 → -1 ≤ Int32.toInt (qG k) ∧ Int32.toInt (qG k) ≤ SB) (xV : ∀ k : Nat, k = 19 → 0 ≤ Int32.toInt (qG k) ∧ Int32.toInt (qG k) ≤ 9) (aCE : ∀ k : Nat, k % 21 = 17 → -1 ≤ Int32.toInt (xD k) ∧ Int32.toInt (xD k) ≤ SB) (aCF : ∀ k : Nat, k % 21 = 19 → 0 ≤ Int32.toInt (xD k) ∧ Int32.toInt (xD k) ≤ 9) (hc0 : -1 ≤ SB ∧ SB ≤ 7) (hx0 : Int32.toInt p2 % 21 = 0) (hpost : ∀ (m_kept' : Nat → Int32), (∀ k : Nat, k % 21 = 17 → -1 ≤ Int32.toInt (m_kept' k) ∧ Int32.toInt (m_kept' k) ≤ SB) → (∀ k : Nat, k % 21 = 19 → 0 ≤ Int32.toInt (m_kept' k) ∧ Int32.toInt (m_kept' k) ≤ 9) → post m_kept') : wp_X10_lay_b4 post p2 qG xD := by
  have l0 := aE0
  exact ⟨23, tb_X10_lay_b4_2 qG xU xV hc0 hpost _ p2 0 xD h_p2 (by omega) aCE aCF (by omega) (by omega)⟩
set_option maxHeartbeats 8000000 in
set_option maxRecDepth 200000 in
theorem t_X10_keep {post : Int32 → Int32 → (Nat → Int32) → (Nat → Int32) → (Nat → Int32) → Prop} {SB : Int} {p0 bY oX : Int32} {qG xD vJ uI : Nat → Int32} (yG : 0 ≤ Int32.toInt bY ∧ Int32.toInt bY ≤ 1) (xU : ∀ k : Nat, k = 17 → -1 ≤ Int32.toInt (qG k) ∧ Int32.toInt (qG k) ≤ SB) (xV : ∀ k : Nat, k = 19 → 0 ≤ Int32.toInt (qG k) ∧ Int32.toInt (qG k) ≤ 9) (aCE : ∀ k : Nat, k % 21 = 17 → -1 ≤ Int32.toInt (xD k) ∧ Int32.toInt (xD k) ≤ SB) (aCF : ∀ k : Nat, k % 21 = 19 → 0 ≤ Int32.toInt (xD k) ∧ Int32.toInt (xD k) ≤ 9) (aB5 : ∀ k : Nat, 0 ≤ Int32.toInt (vJ k) ∧ Int32.toInt (vJ k) ≤ 1) (hc0 : -1 ≤ SB ∧ SB ≤ 7) (hpost : ∀ (r : Int32) (xG : Int32) (m_kept' : Nat → Int32) (m_isKept' : Nat → Int32) (m_keptCame' : Nat → Int32), (0 ≤ Int32.toInt r ∧ Int32.toInt r ≤ 1) → (0 ≤ Int32.toInt xG ∧ Int32.toInt xG ≤ 0) → (∀ k : Nat, k % 21 = 17 → -1 ≤ Int32.toInt (m_kept' k) ∧ Int32.toInt (m_kept' k) ≤ SB) → (∀ k : Nat, k % 21 = 19 → 0 ≤ Int32.toInt (m_kept' k) ∧ Int32.toInt (m_kept' k) ≤ 9) → (∀ k : Nat, 0 ≤ Int32.toInt (m_isKept' k) ∧ Int32.toInt (m_isKept' k) ≤ 1) → ((0 ≤ Int32.toInt p0 ∧ Int32.toInt p0 ≤ 1 ∧ Int32.toInt r = 1) ∨ ((Int32.toInt p0 < 0 ∨ 1 < Int32.toInt p0) ∧ Int32.toInt r = 0)) → post r xG m_kept' m_isKept' m_keptCame') : wp_X10_keep post p0 bY oX qG xD vJ uI := by
  have l0 := aE0
  have l1 := aEc
  have l2 := li_21
  have f2 := aAT p0
  refine And.intro (fun c1 => ?_) (fun c1 => ?_)
  · skip
    have c1 := (aAd _ _).mp c1
    refine And.intro (fun h9 => absurd h9 (by decide)) (fun _ => ?_)
    exact hpost _ _ _ _ _ (by omega) (by omega) aCE aCF aB5 (by omega)
  · skip
    have c1 := mt (aAd _ _).mpr c1
    refine And.intro (fun c3 => ?_) (fun c3 => ?_)
    · skip
      have c3 := (aAd _ _).mp c3
      refine And.intro (fun h9 => absurd h9 (by decide)) (fun _ => ?_)
      exact hpost _ _ _ _ _ (by omega) (by omega) aCE aCF aB5 (by omega)
    · skip
      have c3 := mt (aAd _ _).mpr c3
      refine And.intro (fun _ => ?_) (fun h9 => absurd h9 (by decide))
      refine And.intro (aBZ (by omega)) ?_
      have qa4 := ti_nar_boolean 1
      have a4 : ∀ k : Nat, 0 ≤ Int32.toInt ((upd vJ p0.toNatClampNeg (vp_nar .boolean 1)) k) ∧ Int32.toInt ((upd vJ p0.toNatClampNeg (vp_nar .boolean 1)) k) ≤ 1 := t_upd (fun k => by have q9 := aB5 k; omega) (by omega)
      refine And.intro (aBZ (by omega)) ?_
      intro v5 ev5
      have f6 : Int32.toInt (21 * p0) = Int32.toInt p0 * 21 := ta_cmul _ _ (by decide) (by omega)
      rw [← ev5] at f6
      refine t_X10_lay_b4 (by omega) xU xV aCE aCF (by omega) (by omega) (fun m_kept_7 e0_m_kept_7 e1_m_kept_7 => ?_)
      exact hpost _ _ _ _ _ (by omega) (by omega) e0_m_kept_7 e1_m_kept_7 (fun k => by have q9 := a4 k; omega) (by omega)
set_option maxHeartbeats 8000000 in
set_option maxRecDepth 200000 in
theorem ts_X10_again_40 {post : Int32 → Int32 → Int32 → (Nat → Int32) → Prop} {SB : Int} {next : Int32 → Int32 → Int32 → Int32 → (Nat → Int32) → Prop} {n40 : Int} (oX : Int32) (xD vJ uI : Nat → Int32) (aCE : ∀ k : Nat, k % 21 = 17 → -1 ≤ Int32.toInt (xD k) ∧ Int32.toInt (xD k) ≤ SB) (aCF : ∀ k : Nat, k % 21 = 19 → 0 ≤ Int32.toInt (xD k) ∧ Int32.toInt (xD k) ≤ 9) (aB5 : ∀ k : Nat, 0 ≤ Int32.toInt (vJ k) ∧ Int32.toInt (vJ k) ≤ 1) (hc0 : -1 ≤ SB ∧ SB ≤ 7) (hpost : ∀ (r : Int32) (xG : Int32) (aBI : Int32) (aBf : Nat → Int32), (0 ≤ Int32.toInt r ∧ Int32.toInt r ≤ 1) → (0 ≤ Int32.toInt xG ∧ Int32.toInt xG ≤ 0) → (0 ≤ Int32.toInt aBI ∧ Int32.toInt aBI ≤ 12) → (∀ k : Nat, k = 17 → -1 ≤ Int32.toInt (aBf k) ∧ Int32.toInt (aBf k) ≤ SB) → (∀ k : Nat, k = 19 → 0 ≤ Int32.toInt (aBf k) ∧ Int32.toInt (aBf k) ≤ 9) → post r xG aBI aBf) (hKn : ∀ (x1 : Int32) (x2 : Int32) (bY : Int32) (bU : Int32) (qG : Nat → Int32), (0 ≤ Int32.toInt x1 ∧ Int32.toInt x1 ≤ 1) → (0 ≤ Int32.toInt x2 ∧ Int32.toInt x2 ≤ 21) → (0 ≤ Int32.toInt bY ∧ Int32.toInt bY ≤ 0) → (0 ≤ Int32.toInt bU ∧ Int32.toInt bU ≤ 12) → (∀ k : Nat, k = 17 → -1 ≤ Int32.toInt (qG k) ∧ Int32.toInt (qG k) ≤ SB) → (∀ k : Nat, k = 19 → 0 ≤ Int32.toInt (qG k) ∧ Int32.toInt (qG k) ≤ 9) → (21 - Int32.toInt x2 < n40) → next x1 x2 bY bU qG) (x1 x2 bY bU : Int32) (qG : Nat → Int32) (aBK : 0 ≤ Int32.toInt x1 ∧ Int32.toInt x1 ≤ 1) (aBN : 0 ≤ Int32.toInt x2 ∧ Int32.toInt x2 ≤ 21) (yG : 0 ≤ Int32.toInt bY ∧ Int32.toInt bY ≤ 0) (aAZ : 0 ≤ Int32.toInt bU ∧ Int32.toInt bU ≤ 12) (xU : ∀ k : Nat, k = 17 → -1 ≤ Int32.toInt (qG k) ∧ Int32.toInt (qG k) ≤ SB) (xV : ∀ k : Nat, k = 19 → 0 ≤ Int32.toInt (qG k) ∧ Int32.toInt (qG k) ≤ 9) (hn40 : 21 - Int32.toInt x2 ≤ n40) : ws_X10_again_40 post next oX xD vJ uI x1 x2 bY bU qG := by
  have l0 := aE0
  have l1 := aEc
  have l2 := li_21
  refine And.intro (fun c1 => ?_) (fun c1 => ?_)
  · skip
    have c1 := (aAO _ _).mp c1
    exact hpost _ _ _ _ (by omega) yG (by omega) xU xV
  · skip
    have c1 := mt (aAO _ _).mpr c1
    intro v2 ev2
    have f3 : Int32.toInt (21 * x1) = Int32.toInt x1 * 21 := ta_cmul _ _ (by decide) (by omega)
    rw [← ev2] at f3
    intro v4 ev4
    have f5 : Int32.toInt (v2 + x2) = Int32.toInt v2 + Int32.toInt x2 := aAD _ _ (by omega)
    rw [← ev4] at f5
    refine And.intro (aBZ (by omega)) ?_
    have q6 := aCE v4.toNatClampNeg
    have q7 := aCF v4.toNatClampNeg
    have q8 : v4.toNatClampNeg = (Int32.toInt v4).toNat := rfl
    intro v9 ev9
    have hv9 := congrArg Int32.toInt ev9
    refine And.intro (aBZ (by omega)) ?_
    have f12 := aAT v9
    have e11 : ∀ k : Nat, k = 17 → -1 ≤ Int32.toInt ((upd qG x2.toNatClampNeg v9) k) ∧ Int32.toInt ((upd qG x2.toNatClampNeg v9) k) ≤ SB := aCJ (C := fun k => k = 17) xU (fun hk => by have e9 : x2.toNatClampNeg = (Int32.toInt x2).toNat := rfl; have hk : x2.toNatClampNeg = 17 := hk; omega)
    have e13 : ∀ k : Nat, k = 19 → 0 ≤ Int32.toInt ((upd qG x2.toNatClampNeg v9) k) ∧ Int32.toInt ((upd qG x2.toNatClampNeg v9) k) ≤ 9 := aCJ (C := fun k => k = 19) xV (fun hk => by have e9 : x2.toNatClampNeg = (Int32.toInt x2).toNat := rfl; have hk : x2.toNatClampNeg = 19 := hk; omega)
    intro v14 ev14
    have f15 : Int32.toInt (x2 + 1) = Int32.toInt x2 + Int32.toInt (1 : Int32) := aAD _ _ (by omega)
    rw [← ev14] at f15
    exact hKn x1 v14 bY bU (upd qG x2.toNatClampNeg v9) aBK (by omega) yG aAZ e11 e13 (by omega)
set_option maxHeartbeats 8000000 in
set_option maxRecDepth 200000 in
theorem tb_X10_again_40 {post : Int32 → Int32 → Int32 → (Nat → Int32) → Prop} {SB : Int} (oX : Int32) (xD vJ uI : Nat → Int32) (aCE : ∀ k : Nat, k % 21 = 17 → -1 ≤ Int32.toInt (xD k) ∧ Int32.toInt (xD k) ≤ SB) (aCF : ∀ k : Nat, k % 21 = 19 → 0 ≤ Int32.toInt (xD k) ∧ Int32.toInt (xD k) ≤ 9) (aB5 : ∀ k : Nat, 0 ≤ Int32.toInt (vJ k) ∧ Int32.toInt (vJ k) ≤ 1) (hc0 : -1 ≤ SB ∧ SB ≤ 7) (hpost : ∀ (r : Int32) (xG : Int32) (aBI : Int32) (aBf : Nat → Int32), (0 ≤ Int32.toInt r ∧ Int32.toInt r ≤ 1) → (0 ≤ Int32.toInt xG ∧ Int32.toInt xG ≤ 0) → (0 ≤ Int32.toInt aBI ∧ Int32.toInt aBI ≤ 12) → (∀ k : Nat, k = 17 → -1 ≤ Int32.toInt (aBf k) ∧ Int32.toInt (aBf k) ≤ SB) → (∀ k : Nat, k = 19 → 0 ≤ Int32.toInt (aBf k) ∧ Int32.toInt (aBf k) ≤ 9) → post r xG aBI aBf) : ∀ (n : Nat) (x1 x2 bY bU : Int32) (qG : Nat → Int32), (0 ≤ Int32.toInt x1 ∧ Int32.toInt x1 ≤ 1) → (0 ≤ Int32.toInt x2 ∧ Int32.toInt x2 ≤ 21) → (0 ≤ Int32.toInt bY ∧ Int32.toInt bY ≤ 0) → (0 ≤ Int32.toInt bU ∧ Int32.toInt bU ≤ 12) → (∀ k : Nat, k = 17 → -1 ≤ Int32.toInt (qG k) ∧ Int32.toInt (qG k) ≤ SB) → (∀ k : Nat, k = 19 → 0 ≤ Int32.toInt (qG k) ∧ Int32.toInt (qG k) ≤ 9) → (21 - Int32.toInt x2 < (n : Int)) → wb_X10_again_40 post oX xD vJ uI n x1 x2 bY bU qG := by
  intro n
  induction n with
  | zero =>
    intro x1 x2 bY bU qG aBK aBN yG aAZ xU xV hm
    exfalso; omega
  | succ n ih =>
    intro x1 x2 bY bU qG aBK aBN yG aAZ xU xV hm
    exact ts_X10_again_40 oX xD vJ uI aCE aCF aB5 hc0 hpost ih x1 x2 bY bU qG aBK aBN yG aAZ xU xV (by omega)
set_option maxHeartbeats 8000000 in
set_option maxRecDepth 200000 in
theorem t_X10_again {post : Int32 → Int32 → Int32 → (Nat → Int32) → Prop} {SB : Int} {p0 bY bU oX : Int32} {qG xD vJ uI : Nat → Int32} (yG : 0 ≤ Int32.toInt bY ∧ Int32.toInt bY ≤ 1) (aAZ : 0 ≤ Int32.toInt bU ∧ Int32.toInt bU ≤ 12) (xU : ∀ k : Nat, k = 17 → -1 ≤ Int32.toInt (qG k) ∧ Int32.toInt (qG k) ≤ SB) (xV : ∀ k : Nat, k = 19 → 0 ≤ Int32.toInt (qG k) ∧ Int32.toInt (qG k) ≤ 9) (aCE : ∀ k : Nat, k % 21 = 17 → -1 ≤ Int32.toInt (xD k) ∧ Int32.toInt (xD k) ≤ SB) (aCF : ∀ k : Nat, k % 21 = 19 → 0 ≤ Int32.toInt (xD k) ∧ Int32.toInt (xD k) ≤ 9) (aB5 : ∀ k : Nat, 0 ≤ Int32.toInt (vJ k) ∧ Int32.toInt (vJ k) ≤ 1) (hc0 : -1 ≤ SB ∧ SB ≤ 7) (hpost : ∀ (r : Int32) (xG : Int32) (aBI : Int32) (aBf : Nat → Int32), (0 ≤ Int32.toInt r ∧ Int32.toInt r ≤ 1) → (0 ≤ Int32.toInt xG ∧ Int32.toInt xG ≤ 0) → (0 ≤ Int32.toInt aBI ∧ Int32.toInt aBI ≤ 12) → (∀ k : Nat, k = 17 → -1 ≤ Int32.toInt (aBf k) ∧ Int32.toInt (aBf k) ≤ SB) → (∀ k : Nat, k = 19 → 0 ≤ Int32.toInt (aBf k) ∧ Int32.toInt (aBf k) ≤ 9) → post r xG aBI aBf) : wp_X10_again post p0 bY bU oX qG xD vJ uI := by
  have l0 := aE0
  have l1 := aEc
  have f17 := aAT p0
  refine And.intro (fun c16 => ?_) (fun c16 => ?_)
  · skip
    have c16 := (aAd _ _).mp c16
    refine And.intro (fun _ => ?_) (fun h9 => absurd h9 (by decide))
    exact hpost _ _ _ _ (by omega) (by omega) aAZ xU xV
  · skip
    have c16 := mt (aAd _ _).mpr c16
    refine And.intro (fun c18 => ?_) (fun c18 => ?_)
    · skip
      have c18 := (aAd _ _).mp c18
      refine And.intro (fun _ => ?_) (fun h9 => absurd h9 (by decide))
      exact hpost _ _ _ _ (by omega) (by omega) aAZ xU xV
    · skip
      have c18 := mt (aAd _ _).mpr c18
      refine And.intro (fun h9 => absurd h9 (by decide)) (fun _ => ?_)
      refine And.intro (aBZ (by omega)) ?_
      have f20 := aB5 p0.toNatClampNeg
      refine And.intro (fun c19 => ?_) (fun c19 => ?_)
      · skip
        have c19 := (zJ _ _).mp c19
        exact hpost _ _ _ _ (by omega) (by omega) aAZ xU xV
      · skip
        have c19 := mt (zJ _ _).mpr c19
        refine And.intro (aBZ (by omega)) ?_
        intro v21 ev21
        have hv21 := congrArg Int32.toInt ev21
        have f24 := aAT v21
        have f25 := aAT oX
        refine And.intro (fun c23 => ?_) (fun c23 => ?_)
        · skip
          have c23 := (zJ _ _).mp c23
          exact ⟨23, tb_X10_again_40 oX xD vJ uI aCE aCF aB5 hc0 hpost _ p0 0 0 bU qG (by omega) (by omega) (by omega) aAZ xU xV (by omega)⟩
        · skip
          have c23 := mt (zJ _ _).mpr c23
          exact hpost _ _ _ _ (by omega) (by omega) aAZ xU xV
set_option maxHeartbeats 8000000 in
set_option maxRecDepth 200000 in
theorem ts_X10_count_110 {post : Int32 → Int32 → Prop} {SB : Int} (bT aG jC bL bU : Int32) (qG pW : Nat → Int32) (xJ : 0 ≤ Int32.toInt bT ∧ Int32.toInt bT ≤ 16) (vZ : 0 ≤ Int32.toInt aG ∧ Int32.toInt aG ≤ 8) (aA4 : 0 ≤ Int32.toInt jC ∧ Int32.toInt jC ≤ 80) (yJ : 0 ≤ Int32.toInt bL ∧ Int32.toInt bL ≤ 16) (aAZ : 0 ≤ Int32.toInt bU ∧ Int32.toInt bU ≤ 12) (xU : ∀ k : Nat, k = 17 → -1 ≤ Int32.toInt (qG k) ∧ Int32.toInt (qG k) ≤ SB) (xV : ∀ k : Nat, k = 19 → 0 ≤ Int32.toInt (qG k) ∧ Int32.toInt (qG k) ≤ 9) (yR : ∀ k : Nat, 0 ≤ Int32.toInt (pW k) ∧ Int32.toInt (pW k) ≤ 9) (hc0 : -1 ≤ SB ∧ SB ≤ 7) (hc1 : (Int32.toInt aG ≤ 0 ∧ SB = 0) ∨ (1 ≤ Int32.toInt aG ∧ SB = Int32.toInt aG - 1)) (hpost : ∀ (r : Int32) (xG : Int32), (0 ≤ Int32.toInt xG ∧ Int32.toInt xG ≤ 0) → post r xG) (x1 bY : Int32) (aBK : 5 ≤ Int32.toInt x1 ∧ Int32.toInt x1 ≤ 8) (yG : 0 ≤ Int32.toInt bY ∧ Int32.toInt bY ≤ 0) : ws_X10_count_110 post bT aG jC bL bU qG pW x1 bY := by
  have l0 := li_5
  intro v1 ev1
  have f2 : Int32.toInt (x1 - 5) = Int32.toInt x1 - Int32.toInt (5 : Int32) := aCA _ _ (by omega)
  rw [← ev1] at f2
  refine aKO (by omega) xJ xU xV (by omega) (fun r3 h_r3 ox4 => ?_)
  exact hpost _ _ yG
set_option maxHeartbeats 8000000 in
set_option maxRecDepth 200000 in
theorem t_X10_count {post : Int32 → Int32 → Prop} {SB : Int} {p0 bT aG jC bL bY bU : Int32} {qG pW : Nat → Int32} (xJ : 0 ≤ Int32.toInt bT ∧ Int32.toInt bT ≤ 16) (vZ : 0 ≤ Int32.toInt aG ∧ Int32.toInt aG ≤ 8) (aA4 : 0 ≤ Int32.toInt jC ∧ Int32.toInt jC ≤ 80) (yJ : 0 ≤ Int32.toInt bL ∧ Int32.toInt bL ≤ 16) (yG : 0 ≤ Int32.toInt bY ∧ Int32.toInt bY ≤ 1) (aAZ : 0 ≤ Int32.toInt bU ∧ Int32.toInt bU ≤ 12) (xU : ∀ k : Nat, k = 17 → -1 ≤ Int32.toInt (qG k) ∧ Int32.toInt (qG k) ≤ SB) (xV : ∀ k : Nat, k = 19 → 0 ≤ Int32.toInt (qG k) ∧ Int32.toInt (qG k) ≤ 9) (yR : ∀ k : Nat, 0 ≤ Int32.toInt (pW k) ∧ Int32.toInt (pW k) ≤ 9) (hc0 : -1 ≤ SB ∧ SB ≤ 7) (hc1 : (Int32.toInt aG ≤ 0 ∧ SB = 0) ∨ (1 ≤ Int32.toInt aG ∧ SB = Int32.toInt aG - 1)) (hpost : ∀ (r : Int32) (xG : Int32), (0 ≤ Int32.toInt xG ∧ Int32.toInt xG ≤ 0) → post r xG) : wp_X10_count post p0 bT aG jC bL bY bU qG pW := by
  have l0 := aE0
  have l1 := aEc
  have l2 := li_10
  have l3 := li_11
  have l4 := li_12
  have l5 := li_13
  have l6 := li_16
  have l7 := li_17
  have l8 := li_19
  have l9 := li_2
  have l10 := li_20
  have l11 := li_3
  have l12 := li_4
  have l13 := li_5
  have l14 := li_6
  have l15 := li_7
  have l16 := li_8
  have l17 := li_9
  have f5 := aAT p0
  refine And.intro (fun c6 => ?_) ?_
  · skip
    have c6 := (zJ _ _).mp c6
    exact hpost _ _ (by omega)
  refine And.intro (fun c7 => ?_) ?_
  · skip
    have c7 := (zJ _ _).mp c7
    exact hpost _ _ (by omega)
  refine And.intro (fun c8 => ?_) ?_
  · skip
    have c8 := (zJ _ _).mp c8
    have q9 := xU (17 : Int32).toNatClampNeg (by have e9 : (17 : Int32).toNatClampNeg = (Int32.toInt (17 : Int32)).toNat := rfl; omega)
    exact hpost _ _ (by omega)
  refine And.intro (fun c10 => ?_) ?_
  · skip
    have c10 := (zJ _ _).mp c10
    have q11 := xV (19 : Int32).toNatClampNeg (by have e9 : (19 : Int32).toNatClampNeg = (Int32.toInt (19 : Int32)).toNat := rfl; omega)
    exact hpost _ _ (by omega)
  refine And.intro (fun c12 => ?_) ?_
  · skip
    have c12 := (zJ _ _).mp c12
    exact hpost _ _ (by omega)
  refine And.intro (fun c13 => ?_) ?_
  · skip
    have c13 := (zJ _ _).mp c13
    exact ts_X10_count_110 bT aG jC bL bU qG pW xJ vZ aA4 yJ aAZ xU xV yR hc0 hc1 hpost p0 0 (by omega) (by omega)
  refine And.intro (fun c14 => ?_) ?_
  · skip
    have c14 := (zJ _ _).mp c14
    exact ts_X10_count_110 bT aG jC bL bU qG pW xJ vZ aA4 yJ aAZ xU xV yR hc0 hc1 hpost p0 0 (by omega) (by omega)
  refine And.intro (fun c15 => ?_) ?_
  · skip
    have c15 := (zJ _ _).mp c15
    exact ts_X10_count_110 bT aG jC bL bU qG pW xJ vZ aA4 yJ aAZ xU xV yR hc0 hc1 hpost p0 0 (by omega) (by omega)
  refine And.intro (fun c16 => ?_) ?_
  · skip
    have c16 := (zJ _ _).mp c16
    exact ts_X10_count_110 bT aG jC bL bU qG pW xJ vZ aA4 yJ aAZ xU xV yR hc0 hc1 hpost p0 0 (by omega) (by omega)
  refine And.intro (fun c17 => ?_) ?_
  · skip
    have c17 := (zJ _ _).mp c17
    exact hpost _ _ (by omega)
  refine And.intro (fun c18 => ?_) ?_
  · skip
    have c18 := (zJ _ _).mp c18
    refine aKO (by omega) xJ xU xV (by omega) (fun r19 h_r19 ox20 => ?_)
    intro v21 ev21
    have hv21 := congrArg Int32.toInt ev21
    refine aNU h_r19 xJ yR (fun r23 => ?_)
    exact hpost _ _ (by omega)
  refine And.intro (fun c24 => ?_) ?_
  · skip
    have c24 := (zJ _ _).mp c24
    exact hpost _ _ (by omega)
  refine And.intro (fun c25 => ?_) ?_
  · skip
    have c25 := (zJ _ _).mp c25
    exact hpost _ _ (by omega)
  refine And.intro (fun c26 => ?_) ?_
  · skip
    have c26 := (zJ _ _).mp c26
    exact hpost _ _ (by omega)
  intro c27 c28 c29 c30 c31 c32 c33 c34 c35 c36 c37 c38 c39 c40
  have c27 := mt (zJ _ _).mpr c27
  have c28 := mt (zJ _ _).mpr c28
  have c29 := mt (zJ _ _).mpr c29
  have c30 := mt (zJ _ _).mpr c30
  have c31 := mt (zJ _ _).mpr c31
  have c32 := mt (zJ _ _).mpr c32
  have c33 := mt (zJ _ _).mpr c33
  have c34 := mt (zJ _ _).mpr c34
  have c35 := mt (zJ _ _).mpr c35
  have c36 := mt (zJ _ _).mpr c36
  have c37 := mt (zJ _ _).mpr c37
  have c38 := mt (zJ _ _).mpr c38
  have c39 := mt (zJ _ _).mpr c39
  have c40 := mt (zJ _ _).mpr c40
  exact hpost _ _ (by omega)
set_option maxHeartbeats 8000000 in
set_option maxRecDepth 200000 in
theorem t_X10_row {post : Int32 → Int32 → Prop} {p0 bL bY : Int32} {sW : Nat → Int32} (yJ : 0 ≤ Int32.toInt bL ∧ Int32.toInt bL ≤ 16) (yG : 0 ≤ Int32.toInt bY ∧ Int32.toInt bY ≤ 1) (hpost : ∀ (r : Int32) (xG : Int32), (0 ≤ Int32.toInt xG ∧ Int32.toInt xG ≤ 1) → post r xG) : wp_X10_row post p0 bL bY sW := by
  have l0 := aE0
  have l1 := aEc
  intro v1 ev1
  have f2 : Int32.toInt (bL - 1) = Int32.toInt bL - Int32.toInt (1 : Int32) := aCA _ _ (by omega)
  rw [← ev1] at f2
  have f4 := aAT p0
  refine And.intro (fun c3 => ?_) (fun c3 => ?_)
  · skip
    have c3 := (aAd _ _).mp c3
    refine And.intro (fun _ => ?_) (fun h9 => absurd h9 (by decide))
    exact hpost _ _ (by omega)
  · skip
    have c3 := mt (aAd _ _).mpr c3
    refine And.intro (fun c5 => ?_) (fun c5 => ?_)
    · skip
      have c5 := (aAd _ _).mp c5
      refine And.intro (fun _ => ?_) (fun h9 => absurd h9 (by decide))
      exact hpost _ _ (by omega)
    · skip
      have c5 := mt (aAd _ _).mpr c5
      refine And.intro (fun h9 => absurd h9 (by decide)) (fun _ => ?_)
      refine And.intro (aBZ (by omega)) ?_
      intro v6 ev6
      have hv6 := congrArg Int32.toInt ev6
      exact hpost _ _ (by omega)
