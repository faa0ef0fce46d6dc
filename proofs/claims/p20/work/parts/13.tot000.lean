set_option maxHeartbeats 8000000 in
set_option maxRecDepth 200000 in
theorem ts_X8_add_14 {post : Int32 → Int32 → (Nat → Int32) → Prop} {tx_length0 : Int32} {next : Int32 → Int32 → Int32 → (Nat → Int32) → Prop} {n14 : Int} (hpost : ∀ (r : Int32) (aCZ : Int32) (tx_signs' : Nat → Int32), (-1 ≤ Int32.toInt r ∧ Int32.toInt r ≤ 80) → (0 ≤ Int32.toInt aCZ ∧ Int32.toInt aCZ ≤ 80) → (∀ k : Nat, 0 ≤ Int32.toInt (tx_signs' k) ∧ Int32.toInt (tx_signs' k) ≤ 65535) → ((76 < Int32.toInt tx_length0 ∧ Int32.toInt r = -1 ∧ Int32.toInt aCZ = Int32.toInt tx_length0) ∨ (Int32.toInt tx_length0 ≤ 76 ∧ Int32.toInt r = Int32.toInt aCZ ∧ Int32.toInt aCZ = Int32.toInt tx_length0 + 4)) → post r aCZ tx_signs') (hKn : ∀ (x1 : Int32) (x2 : Int32) (qL : Int32) (qM : Nat → Int32), (-100 ≤ Int32.toInt x2 ∧ Int32.toInt x2 ≤ 24) → (0 ≤ Int32.toInt qL ∧ Int32.toInt qL ≤ 80) → (∀ k : Nat, 0 ≤ Int32.toInt (qM k) ∧ Int32.toInt (qM k) ≤ 65535) → (8 * Int32.toInt qL + Int32.toInt x2 = 8 * Int32.toInt tx_length0 + 24) → (Int32.toInt tx_length0 ≤ 76) → (-8 ≤ Int32.toInt x2) → (Int32.toInt x2 % 8 = 0) → (Int32.toInt x2 + 100 < n14) → next x1 x2 qL qM) (x1 x2 qL : Int32) (qM : Nat → Int32) (aBN : -100 ≤ Int32.toInt x2 ∧ Int32.toInt x2 ≤ 24) (aBH : 0 ≤ Int32.toInt qL ∧ Int32.toInt qL ≤ 80) (aAI : ∀ k : Nat, 0 ≤ Int32.toInt (qM k) ∧ Int32.toInt (qM k) ≤ 65535) (hx0 : 8 * Int32.toInt qL + Int32.toInt x2 = 8 * Int32.toInt tx_length0 + 24) (hx1 : Int32.toInt tx_length0 ≤ 76) (hx2 : -8 ≤ Int32.toInt x2) (hx3 : Int32.toInt x2 % 8 = 0) (hn14 : Int32.toInt x2 + 100 ≤ n14) : ws_X8_add_14 post next x1 x2 qL qM := by
  have l0 := li_m8
  have l1 := aE0
  have l2 := aEc
  refine And.intro (fun c1 => ?_) (fun c1 => ?_)
  · skip
    have c1 := (aAd _ _).mp c1
    exact hpost _ _ _ (by omega) aBH aAI (by omega)
  · skip
    have c1 := mt (aAd _ _).mpr c1
    intro v2 ev2
    intro v3 ev3
    have hv3 := ti_i2c (v2 &&& 255)
    rw [← ev3] at hv3
    refine And.intro (aBZ (by omega)) ?_
    have qa4 := ti_nar_char v3
    have a4 : ∀ k : Nat, 0 ≤ Int32.toInt ((upd qM qL.toNatClampNeg (vp_nar .char v3)) k) ∧ Int32.toInt ((upd qM qL.toNatClampNeg (vp_nar .char v3)) k) ≤ 65535 := t_upd (fun k => by have q9 := aAI k; omega) (by omega)
    intro v5 ev5
    have f6 : Int32.toInt (qL + 1) = Int32.toInt qL + Int32.toInt (1 : Int32) := aAD _ _ (by omega)
    rw [← ev5] at f6
    intro v7 ev7
    have f8 : Int32.toInt (x2 + (-8)) = Int32.toInt x2 + Int32.toInt ((-8) : Int32) := aAD _ _ (by omega)
    rw [← ev7] at f8
    have f9 := aAT x1
    exact hKn x1 v7 v5 (upd qM qL.toNatClampNeg (vp_nar .char v3)) (by omega) (by omega) (fun k => by have q9 := a4 k; omega) (by omega) hx1 (by omega) (by omega) (by omega)
set_option maxHeartbeats 8000000 in
set_option maxRecDepth 200000 in
theorem tb_X8_add_14 {post : Int32 → Int32 → (Nat → Int32) → Prop} {tx_length0 : Int32} (hpost : ∀ (r : Int32) (aCZ : Int32) (tx_signs' : Nat → Int32), (-1 ≤ Int32.toInt r ∧ Int32.toInt r ≤ 80) → (0 ≤ Int32.toInt aCZ ∧ Int32.toInt aCZ ≤ 80) → (∀ k : Nat, 0 ≤ Int32.toInt (tx_signs' k) ∧ Int32.toInt (tx_signs' k) ≤ 65535) → ((76 < Int32.toInt tx_length0 ∧ Int32.toInt r = -1 ∧ Int32.toInt aCZ = Int32.toInt tx_length0) ∨ (Int32.toInt tx_length0 ≤ 76 ∧ Int32.toInt r = Int32.toInt aCZ ∧ Int32.toInt aCZ = Int32.toInt tx_length0 + 4)) → post r aCZ tx_signs') : ∀ (n : Nat) (x1 x2 qL : Int32) (qM : Nat → Int32), (-100 ≤ Int32.toInt x2 ∧ Int32.toInt x2 ≤ 24) → (0 ≤ Int32.toInt qL ∧ Int32.toInt qL ≤ 80) → (∀ k : Nat, 0 ≤ Int32.toInt (qM k) ∧ Int32.toInt (qM k) ≤ 65535) → (8 * Int32.toInt qL + Int32.toInt x2 = 8 * Int32.toInt tx_length0 + 24) → (Int32.toInt tx_length0 ≤ 76) → (-8 ≤ Int32.toInt x2) → (Int32.toInt x2 % 8 = 0) → (Int32.toInt x2 + 100 < (n : Int)) → wb_X8_add_14 post n x1 x2 qL qM := by
  intro n
  induction n with
  | zero =>
    intro x1 x2 qL qM aBN aBH aAI hx0 hx1 hx2 hx3 hm
    exfalso; omega
  | succ n ih =>
    intro x1 x2 qL qM aBN aBH aAI hx0 hx1 hx2 hx3 hm
    exact ts_X8_add_14 hpost ih x1 x2 qL qM aBN aBH aAI hx0 hx1 hx2 hx3 (by omega)
set_option maxHeartbeats 8000000 in
set_option maxRecDepth 200000 in
theorem t_X8_add {post : Int32 → Int32 → (Nat → Int32) → Prop} {p0 qL : Int32} {qM : Nat → Int32} (aBH : 0 ≤ Int32.toInt qL ∧ Int32.toInt qL ≤ 80) (aAI : ∀ k : Nat, 0 ≤ Int32.toInt (qM k) ∧ Int32.toInt (qM k) ≤ 65535) (hpost : ∀ (r : Int32) (aCZ : Int32) (tx_signs' : Nat → Int32), (-1 ≤ Int32.toInt r ∧ Int32.toInt r ≤ 80) → (0 ≤ Int32.toInt aCZ ∧ Int32.toInt aCZ ≤ 80) → (∀ k : Nat, 0 ≤ Int32.toInt (tx_signs' k) ∧ Int32.toInt (tx_signs' k) ≤ 65535) → ((76 < Int32.toInt qL ∧ Int32.toInt r = -1 ∧ Int32.toInt aCZ = Int32.toInt qL) ∨ (Int32.toInt qL ≤ 76 ∧ Int32.toInt r = Int32.toInt aCZ ∧ Int32.toInt aCZ = Int32.toInt qL + 4)) → post r aCZ tx_signs') : wp_X8_add post p0 qL qM := by
  have l0 := aI2
  have l1 := li_24
  have l2 := li_76
  refine And.intro (fun c10 => ?_) (fun c10 => ?_)
  · skip
    have c10 := (aAO _ _).mp c10
    have f11 := aAT p0
    exact ⟨126, tb_X8_add_14 hpost _ p0 24 qL qM (by omega) aBH aAI (by omega) (by omega) (by omega) (by omega) (by omega)⟩
  · skip
    have c10 := mt (aAO _ _).mpr c10
    exact hpost _ _ _ (by omega) aBH aAI (by omega)
set_option maxHeartbeats 8000000 in
set_option maxRecDepth 200000 in
theorem t_X9_sign {post : Int32 → Int32 → (Nat → Int32) → Prop} {p0 qL : Int32} {qM : Nat → Int32} (aBH : 0 ≤ Int32.toInt qL ∧ Int32.toInt qL ≤ 80) (aAI : ∀ k : Nat, 0 ≤ Int32.toInt (qM k) ∧ Int32.toInt (qM k) ≤ 65535) (hpost : ∀ (r : Int32) (aCZ : Int32) (tx_signs' : Nat → Int32), (-1 ≤ Int32.toInt r ∧ Int32.toInt r ≤ 80) → (0 ≤ Int32.toInt aCZ ∧ Int32.toInt aCZ ≤ 80) → (∀ k : Nat, 0 ≤ Int32.toInt (tx_signs' k) ∧ Int32.toInt (tx_signs' k) ≤ 65535) → ((76 < Int32.toInt qL ∧ Int32.toInt r = -1 ∧ Int32.toInt aCZ = Int32.toInt qL) ∨ (Int32.toInt qL ≤ 76 ∧ Int32.toInt r = Int32.toInt aCZ ∧ Int32.toInt aCZ = Int32.toInt qL + 4)) → post r aCZ tx_signs') : wp_X9_sign post p0 qL qM := by
  refine t_X8_add aBH aAI (fun r3 tx_length_1 tx_signs_2 h_r3 h_tx_length_1 h_tx_signs_2 ox4 => ?_)
  exact hpost _ _ _ h_r3 h_tx_length_1 h_tx_signs_2 (by omega)
set_option maxHeartbeats 8000000 in
set_option maxRecDepth 200000 in
theorem t_X9_end {post : Int32 → Int32 → Prop} {p0 qL : Int32} (aBH : 0 ≤ Int32.toInt qL ∧ Int32.toInt qL ≤ 80) (hpost : ∀ (r : Int32) (aCZ : Int32), (0 ≤ Int32.toInt r ∧ Int32.toInt r ≤ 1) → (0 ≤ Int32.toInt aCZ ∧ Int32.toInt aCZ ≤ 80) → ((0 ≤ Int32.toInt p0 ∧ Int32.toInt p0 ≤ Int32.toInt qL ∧ Int32.toInt aCZ = Int32.toInt p0 ∧ Int32.toInt r = 1) ∨ ((Int32.toInt p0 < 0 ∨ Int32.toInt qL < Int32.toInt p0) ∧ Int32.toInt aCZ = Int32.toInt qL ∧ Int32.toInt r = 0)) → post r aCZ) : wp_X9_end post p0 qL := by
  have l0 := aE0
  have l1 := aEc
  have f2 := aAT p0
  refine And.intro (fun c1 => ?_) (fun c1 => ?_)
  · skip
    have c1 := (aAd _ _).mp c1
    refine And.intro (aHE (by omega)) ?_
    exact hpost _ _ (by omega) aBH (by omega)
  · skip
    have c1 := mt (aAd _ _).mpr c1
    refine And.intro (fun c3 => ?_) (fun c3 => ?_)
    · skip
      have c3 := (aAO _ _).mp c3
      refine And.intro (aHE (by omega)) ?_
      exact hpost _ _ (by omega) (by omega) (by omega)
    · skip
      have c3 := mt (aAO _ _).mpr c3
      refine And.intro (aHE (by omega)) ?_
      exact hpost _ _ (by omega) aBH (by omega)
set_option maxHeartbeats 8000000 in
set_option maxRecDepth 200000 in
theorem ts_X4_forgetAll_7 {post : Int32 → (Nat → Int32) → Prop} {next : Int32 → Int32 → (Nat → Int32) → Prop} {n7 : Int} (hpost : ∀ (aBa : Int32) (aHq : Nat → Int32), (0 ≤ Int32.toInt aBa ∧ Int32.toInt aBa ≤ 0) → (∀ k : Nat, 0 ≤ Int32.toInt (aHq k) ∧ Int32.toInt (aHq k) ≤ 1) → post aBa aHq) (hKn : ∀ (x1 : Int32) (pR : Int32) (uF : Nat → Int32), (0 ≤ Int32.toInt x1 ∧ Int32.toInt x1 ≤ 2) → (0 ≤ Int32.toInt pR ∧ Int32.toInt pR ≤ 0) → (∀ k : Nat, 0 ≤ Int32.toInt (uF k) ∧ Int32.toInt (uF k) ≤ 1) → (2 - Int32.toInt x1 < n7) → next x1 pR uF) (x1 pR : Int32) (uF : Nat → Int32) (aBK : 0 ≤ Int32.toInt x1 ∧ Int32.toInt x1 ≤ 2) (aAr : 0 ≤ Int32.toInt pR ∧ Int32.toInt pR ≤ 0) (aBU : ∀ k : Nat, 0 ≤ Int32.toInt (uF k) ∧ Int32.toInt (uF k) ≤ 1) (hn7 : 2 - Int32.toInt x1 ≤ n7) : ws_X4_forgetAll_7 post next x1 pR uF := by
  have l0 := aE0
  have l1 := aEc
  have l2 := li_2
  refine And.intro (fun c1 => ?_) (fun c1 => ?_)
  · skip
    have c1 := (aAO _ _).mp c1
    exact hpost _ _ aAr aBU
  · skip
    have c1 := mt (aAO _ _).mpr c1
    refine And.intro (aBZ (by omega)) ?_
    have qa2 := ti_nar_boolean 0
    have a2 : ∀ k : Nat, 0 ≤ Int32.toInt ((upd uF x1.toNatClampNeg (vp_nar .boolean 0)) k) ∧ Int32.toInt ((upd uF x1.toNatClampNeg (vp_nar .boolean 0)) k) ≤ 1 := t_upd (fun k => by have q9 := aBU k; omega) (by omega)
    intro v3 ev3
    have f4 : Int32.toInt (x1 + 1) = Int32.toInt x1 + Int32.toInt (1 : Int32) := aAD _ _ (by omega)
    rw [← ev3] at f4
    exact hKn v3 pR (upd uF x1.toNatClampNeg (vp_nar .boolean 0)) (by omega) aAr (fun k => by have q9 := a2 k; omega) (by omega)
set_option maxHeartbeats 8000000 in
set_option maxRecDepth 200000 in
theorem tb_X4_forgetAll_7 {post : Int32 → (Nat → Int32) → Prop} (hpost : ∀ (aBa : Int32) (aHq : Nat → Int32), (0 ≤ Int32.toInt aBa ∧ Int32.toInt aBa ≤ 0) → (∀ k : Nat, 0 ≤ Int32.toInt (aHq k) ∧ Int32.toInt (aHq k) ≤ 1) → post aBa aHq) : ∀ (n : Nat) (x1 pR : Int32) (uF : Nat → Int32), (0 ≤ Int32.toInt x1 ∧ Int32.toInt x1 ≤ 2) → (0 ≤ Int32.toInt pR ∧ Int32.toInt pR ≤ 0) → (∀ k : Nat, 0 ≤ Int32.toInt (uF k) ∧ Int32.toInt (uF k) ≤ 1) → (2 - Int32.toInt x1 < (n : Int)) → wb_X4_forgetAll_7 post n x1 pR uF := by
  intro n
  induction n with
  | zero =>
    intro x1 pR uF aBK aAr aBU hm
    exfalso; omega
  | succ n ih =>
    intro x1 pR uF aBK aAr aBU hm
    exact ts_X4_forgetAll_7 hpost ih x1 pR uF aBK aAr aBU (by omega)
set_option maxHeartbeats 8000000 in
set_option maxRecDepth 200000 in
theorem t_X4_forgetAll {post : Int32 → (Nat → Int32) → Prop} {pR : Int32} {uF : Nat → Int32} (aAr : 0 ≤ Int32.toInt pR ∧ Int32.toInt pR ≤ 12) (aBU : ∀ k : Nat, 0 ≤ Int32.toInt (uF k) ∧ Int32.toInt (uF k) ≤ 1) (hpost : ∀ (aBa : Int32) (aHq : Nat → Int32), (0 ≤ Int32.toInt aBa ∧ Int32.toInt aBa ≤ 0) → (∀ k : Nat, 0 ≤ Int32.toInt (aHq k) ∧ Int32.toInt (aHq k) ≤ 1) → post aBa aHq) : wp_X4_forgetAll post pR uF := by
  have l0 := aE0
  exact ⟨4, tb_X4_forgetAll_7 hpost _ 0 0 uF (by omega) (by omega) aBU (by omega)⟩
set_option maxHeartbeats 8000000 in
set_option maxRecDepth 200000 in
theorem ts_X8_digitHere_24 {post : Int32 → Prop} (qJ rX : Int32) (qM : Nat → Int32) (aA0 : 0 ≤ Int32.toInt qJ ∧ Int32.toInt qJ ≤ 80) (aA2 : 0 ≤ Int32.toInt rX ∧ Int32.toInt rX ≤ 80) (aAI : ∀ k : Nat, 0 ≤ Int32.toInt (qM k) ∧ Int32.toInt (qM k) ≤ 65535) (hpost : ∀ (r : Int32) , (-1 ≤ Int32.toInt r ∧ Int32.toInt r ≤ 9) → post r) (k0 : Int32) (h_k0 : -1 ≤ Int32.toInt k0 ∧ Int32.toInt k0 ≤ 65535) : ws_X8_digitHere_24 post qJ rX qM k0 := by
  have l0 := aI2
  have l1 := li_48
  have l2 := li_57
  refine And.intro (fun c1 => ?_) (fun c1 => ?_)
  · skip
    have c1 := (aAd _ _).mp c1
    exact hpost _ (by omega)
  · skip
    have c1 := mt (aAd _ _).mpr c1
    refine And.intro (fun c2 => ?_) (fun c2 => ?_)
    · skip
      have c2 := (aAd _ _).mp c2
      exact hpost _ (by omega)
    · skip
      have c2 := mt (aAd _ _).mpr c2
      intro v3 ev3
      have f4 : Int32.toInt (k0 - 48) = Int32.toInt k0 - Int32.toInt (48 : Int32) := aCA _ _ (by omega)
      rw [← ev3] at f4
      exact hpost _ (by omega)
set_option maxHeartbeats 8000000 in
set_option maxRecDepth 200000 in
theorem t_X8_digitHere {post : Int32 → Prop} {qJ rX : Int32} {qM : Nat → Int32} (aA0 : 0 ≤ Int32.toInt qJ ∧ Int32.toInt qJ ≤ 80) (aA2 : 0 ≤ Int32.toInt rX ∧ Int32.toInt rX ≤ 80) (aAI : ∀ k : Nat, 0 ≤ Int32.toInt (qM k) ∧ Int32.toInt (qM k) ≤ 65535) (hpost : ∀ (r : Int32) , (-1 ≤ Int32.toInt r ∧ Int32.toInt r ≤ 9) → post r) : wp_X8_digitHere post qJ rX qM := by
  have l0 := aI2
  refine And.intro (fun c5 => ?_) (fun c5 => ?_)
  · skip
    have c5 := (aAO _ _).mp c5
    exact ts_X8_digitHere_24 qJ rX qM aA0 aA2 aAI hpost (-1) (by omega)
  · skip
    have c5 := mt (aAO _ _).mpr c5
    refine And.intro (aBZ (by omega)) ?_
    intro v6 ev6
    have f7 := aAI qJ.toNatClampNeg
    have hv6 := congrArg Int32.toInt ev6
    exact ts_X8_digitHere_24 qJ rX qM aA0 aA2 aAI hpost v6 (by omega)
set_option maxHeartbeats 8000000 in
set_option maxRecDepth 200000 in
theorem ts_X8_readNumber_18 {post : Int32 → Int32 → Prop} {next : Int32 → Int32 → Int32 → Int32 → Prop} {n18 : Int} (rX : Int32) (qM : Nat → Int32) (aA2 : 0 ≤ Int32.toInt rX ∧ Int32.toInt rX ≤ 80) (aAI : ∀ k : Nat, 0 ≤ Int32.toInt (qM k) ∧ Int32.toInt (qM k) ≤ 65535) (hpost : ∀ (r : Int32) (aBS : Int32), (0 ≤ Int32.toInt aBS ∧ Int32.toInt aBS ≤ 80) → post r aBS) (hKn : ∀ (x1 : Int32) (x2 : Int32) (x3 : Int32) (qJ : Int32), (1 ≤ Int32.toInt x1 ∧ Int32.toInt x1 ≤ 3) → (1 ≤ Int32.toInt x3 ∧ Int32.toInt x3 ≤ 3) → (0 ≤ Int32.toInt qJ ∧ Int32.toInt qJ ≤ 80) → (3 - Int32.toInt x3 < n18) → next x1 x2 x3 qJ) (x1 x2 x3 qJ : Int32) (aBK : 1 ≤ Int32.toInt x1 ∧ Int32.toInt x1 ≤ 3) (aCH : 1 ≤ Int32.toInt x3 ∧ Int32.toInt x3 ≤ 3) (aA0 : 0 ≤ Int32.toInt qJ ∧ Int32.toInt qJ ≤ 80) (hn18 : 3 - Int32.toInt x3 ≤ n18) : ws_X8_readNumber_18 post next rX qM x1 x2 x3 qJ := by
  have l0 := aI2
  have l1 := aEc
  refine And.intro (fun c1 => ?_) (fun c1 => ?_)
  · skip
    have c1 := (aAO _ _).mp c1
    exact hpost _ _ aA0
  · skip
    have c1 := mt (aAO _ _).mpr c1
    refine t_X8_digitHere aA0 aA2 aAI (fun r2 h_r2 => ?_)
    refine And.intro (fun c3 => ?_) (fun c3 => ?_)
    · skip
      have c3 := mt (zJ _ _).mpr c3
      intro v4 ev4
      have hv4 := congrArg Int32.toInt ev4
      intro v6 ev6
      have hv6 := congrArg Int32.toInt ev6
      refine And.intro (fun c8 => ?_) (fun c8 => ?_)
      · skip
        have c8 := (aAO _ _).mp c8
        intro v9 ev9
        have f10 : Int32.toInt (x3 + 1) = Int32.toInt x3 + Int32.toInt (1 : Int32) := aAD _ _ (by omega)
        rw [← ev9] at f10
        have f11 := aAT v6
        exact hKn x1 v6 v9 qJ aBK (by omega) aA0 (by omega)
      · skip
        have c8 := mt (aAO _ _).mpr c8
        intro v12 ev12
        have f13 : Int32.toInt (qJ + 1) = Int32.toInt qJ + Int32.toInt (1 : Int32) := aAD _ _ (by omega)
        rw [← ev12] at f13
        intro v14 ev14
        have f15 : Int32.toInt (x3 + 1) = Int32.toInt x3 + Int32.toInt (1 : Int32) := aAD _ _ (by omega)
        rw [← ev14] at f15
        have f16 := aAT v6
        exact hKn x1 v6 v14 v12 aBK (by omega) (by omega) (by omega)
    · skip
      have c3 := (zJ _ _).mp c3
      exact hpost _ _ aA0
set_option maxHeartbeats 8000000 in
set_option maxRecDepth 200000 in
theorem tb_X8_readNumber_18 {post : Int32 → Int32 → Prop} (rX : Int32) (qM : Nat → Int32) (aA2 : 0 ≤ Int32.toInt rX ∧ Int32.toInt rX ≤ 80) (aAI : ∀ k : Nat, 0 ≤ Int32.toInt (qM k) ∧ Int32.toInt (qM k) ≤ 65535) (hpost : ∀ (r : Int32) (aBS : Int32), (0 ≤ Int32.toInt aBS ∧ Int32.toInt aBS ≤ 80) → post r aBS) : ∀ (n : Nat) (x1 x2 x3 qJ : Int32), (1 ≤ Int32.toInt x1 ∧ Int32.toInt x1 ≤ 3) → (1 ≤ Int32.toInt x3 ∧ Int32.toInt x3 ≤ 3) → (0 ≤ Int32.toInt qJ ∧ Int32.toInt qJ ≤ 80) → (3 - Int32.toInt x3 < (n : Int)) → wb_X8_readNumber_18 post rX qM n x1 x2 x3 qJ := by
  intro n
  induction n with
  | zero =>
    intro x1 x2 x3 qJ aBK aCH aA0 hm
    exfalso; omega
  | succ n ih =>
    intro x1 x2 x3 qJ aBK aCH aA0 hm
    exact ts_X8_readNumber_18 rX qM aA2 aAI hpost ih x1 x2 x3 qJ aBK aCH aA0 (by omega)
set_option maxHeartbeats 8000000 in
set_option maxRecDepth 200000 in
theorem aXN {post : Int32 → Int32 → Prop} {p0 qJ rX : Int32} {qM : Nat → Int32} (h_p0 : 1 ≤ Int32.toInt p0 ∧ Int32.toInt p0 ≤ 3) (aA0 : 0 ≤ Int32.toInt qJ ∧ Int32.toInt qJ ≤ 80) (aA2 : 0 ≤ Int32.toInt rX ∧ Int32.toInt rX ≤ 80) (aAI : ∀ k : Nat, 0 ≤ Int32.toInt (qM k) ∧ Int32.toInt (qM k) ≤ 65535) (hpost : ∀ (r : Int32) (aBS : Int32), (0 ≤ Int32.toInt aBS ∧ Int32.toInt aBS ≤ 80) → post r aBS) : aMm post p0 qJ rX qM := by
  have l0 := aI2
  have l1 := aEc
  refine t_X8_digitHere aA0 aA2 aAI (fun r17 h_r17 => ?_)
  refine And.intro (fun c18 => ?_) (fun c18 => ?_)
  · skip
    have c18 := mt (zJ _ _).mpr c18
    refine And.intro (fun c19 => ?_) (fun c19 => ?_)
    · skip
      have c19 := (aAO _ _).mp c19
      exact ⟨4, tb_X8_readNumber_18 rX qM aA2 aAI hpost _ p0 r17 1 qJ h_p0 (by omega) aA0 (by omega)⟩
    · skip
      have c19 := mt (aAO _ _).mpr c19
      intro v20 ev20
      have f21 : Int32.toInt (qJ + 1) = Int32.toInt qJ + Int32.toInt (1 : Int32) := aAD _ _ (by omega)
      rw [← ev20] at f21
      exact ⟨4, tb_X8_readNumber_18 rX qM aA2 aAI hpost _ p0 r17 1 v20 h_p0 (by omega) (by omega) (by omega)⟩
  · skip
    have c18 := (zJ _ _).mp c18
    exact hpost _ _ aA0
set_option maxHeartbeats 8000000 in
set_option maxRecDepth 200000 in
theorem ts_X3_readFruit_82 {post : Int32 → Int32 → Int32 → (Nat → Int32) → (Nat → Int32) → (Nat → Int32) → (Nat → Int32) → Prop} (rX : Int32) (qM : Nat → Int32) (aA2 : 1 ≤ Int32.toInt rX ∧ Int32.toInt rX ≤ 79) (aAI : ∀ k : Nat, 0 ≤ Int32.toInt (qM k) ∧ Int32.toInt (qM k) ≤ 65535) (hpost : ∀ (r : Int32) (aBS : Int32) (aCR : Int32) (tr_x' : Nat → Int32) (aNV : Nat → Int32) (aJW : Nat → Int32) (aXi : Nat → Int32), (0 ≤ Int32.toInt r ∧ Int32.toInt r ≤ 1) → (0 ≤ Int32.toInt aBS ∧ Int32.toInt aBS ≤ 80) → (0 ≤ Int32.toInt aCR ∧ Int32.toInt aCR ≤ 16) → post r aBS aCR tr_x' aNV aJW aXi) (x2 k1 k2 qJ bJ : Int32) (uU gF pL qF : Nat → Int32) (aBN : 0 ≤ Int32.toInt x2 ∧ Int32.toInt x2 ≤ 15) (h_k1 : 0 ≤ Int32.toInt k1 ∧ Int32.toInt k1 ≤ 15) (aA0 : 0 ≤ Int32.toInt qJ ∧ Int32.toInt qJ ≤ 80) (aAU : 0 ≤ Int32.toInt bJ ∧ Int32.toInt bJ ≤ 15) : aYi post rX qM x2 k1 k2 qJ bJ uU gF pL qF := by
  have l0 := aI2
  have l1 := aE0
  have l2 := aEc
  refine And.intro (aBZ (by omega)) ?_
  refine And.intro (aBZ (by omega)) ?_
  intro v1 ev1
  have hv1 := congrArg Int32.toInt ev1
  have f4 := aAT v1
  refine And.intro (fun c3 => ?_) (fun c3 => ?_)
  · skip
    have c3 := mt (zJ _ _).mpr c3
    intro v5 ev5
    have f6 : Int32.toInt (bJ + 1) = Int32.toInt bJ + Int32.toInt (1 : Int32) := aAD _ _ (by omega)
    rw [← ev5] at f6
    exact hpost _ _ _ _ _ _ _ (by omega) aA0 (by omega)
  · skip
    have c3 := (zJ _ _).mp c3
    exact hpost _ _ _ _ _ _ _ (by omega) aA0 (by omega)
set_option maxHeartbeats 8000000 in
set_option maxRecDepth 200000 in
theorem ts_X3_readFruit_46 {post : Int32 → Int32 → Int32 → (Nat → Int32) → (Nat → Int32) → (Nat → Int32) → (Nat → Int32) → Prop} (rX : Int32) (qM : Nat → Int32) (aA2 : 1 ≤ Int32.toInt rX ∧ Int32.toInt rX ≤ 79) (aAI : ∀ k : Nat, 0 ≤ Int32.toInt (qM k) ∧ Int32.toInt (qM k) ≤ 65535) (hpost : ∀ (r : Int32) (aBS : Int32) (aCR : Int32) (tr_x' : Nat → Int32) (aNV : Nat → Int32) (aJW : Nat → Int32) (aXi : Nat → Int32), (0 ≤ Int32.toInt r ∧ Int32.toInt r ≤ 1) → (0 ≤ Int32.toInt aBS ∧ Int32.toInt aBS ≤ 80) → (0 ≤ Int32.toInt aCR ∧ Int32.toInt aCR ≤ 16) → post r aBS aCR tr_x' aNV aJW aXi) (x2 k1 k2 qJ bJ : Int32) (uU gF pL qF : Nat → Int32) (aBN : 0 ≤ Int32.toInt x2 ∧ Int32.toInt x2 ≤ 15) (h_k1 : 0 ≤ Int32.toInt k1 ∧ Int32.toInt k1 ≤ 15) (aA0 : 0 ≤ Int32.toInt qJ ∧ Int32.toInt qJ ≤ 80) (aAU : 0 ≤ Int32.toInt bJ ∧ Int32.toInt bJ ≤ 15) : ws_X3_readFruit_46 post rX qM x2 k1 k2 qJ bJ uU gF pL qF := by
  have l0 := aI2
  have l1 := aE0
  have l2 := aEc
  have l3 := li_64
  refine And.intro (aBZ (by omega)) ?_
  refine And.intro (aBZ (by omega)) ?_
  intro v7 ev7
  have hv7 := congrArg Int32.toInt ev7
  have f10 := aAT v7
  refine And.intro (fun c9 => ?_) (fun c9 => ?_)
  · skip
    have c9 := mt (zJ _ _).mpr c9
    refine And.intro (fun c11 => ?_) (fun c11 => ?_)
    · skip
      have c11 := (aAO _ _).mp c11
      refine And.intro (fun h9 => absurd h9 (by decide)) (fun _ => ?_)
      refine And.intro (fun _ => ?_) (fun h9 => absurd h9 (by decide))
      exact ts_X3_readFruit_82 rX qM aA2 aAI hpost x2 x2 0 qJ bJ uU gF (upd pL k1.toNatClampNeg k2) qF aBN aBN aA0 aAU
    · skip
      have c11 := mt (aAO _ _).mpr c11
      refine And.intro (aBZ (by omega)) ?_
      intro v12 ev12
      have f13 := aAI qJ.toNatClampNeg
      have hv12 := congrArg Int32.toInt ev12
      refine And.intro (fun c14 => ?_) (fun c14 => ?_)
      · skip
        have c14 := (zJ _ _).mp c14
        intro v15 ev15
        have f16 : Int32.toInt (qJ + 1) = Int32.toInt qJ + Int32.toInt (1 : Int32) := aAD _ _ (by omega)
        rw [← ev15] at f16
        refine And.intro (fun h9 => absurd h9 (by decide)) (fun _ => ?_)
        refine aXN (by omega) (by omega) (by omega) aAI (fun r18 tx_place_17 h_tx_place_17 => ?_)
        have f19 := aAT r18
        exact ts_X3_readFruit_82 rX qM aA2 aAI hpost x2 x2 r18 tx_place_17 bJ uU gF (upd pL k1.toNatClampNeg k2) qF aBN aBN h_tx_place_17 aAU
      · skip
        have c14 := mt (zJ _ _).mpr c14
        refine And.intro (fun _ => ?_) (fun h9 => absurd h9 (by decide))
        exact ts_X3_readFruit_82 rX qM aA2 aAI hpost x2 x2 0 qJ bJ uU gF (upd pL k1.toNatClampNeg k2) qF aBN aBN aA0 aAU
  · skip
    have c9 := (zJ _ _).mp c9
    exact hpost _ _ _ _ _ _ _ (by omega) aA0 (by omega)
set_option maxHeartbeats 8000000 in
set_option maxRecDepth 200000 in
theorem t_X3_readFruit {post : Int32 → Int32 → Int32 → (Nat → Int32) → (Nat → Int32) → (Nat → Int32) → (Nat → Int32) → Prop} {qJ rX : Int32} {qM : Nat → Int32} {bJ : Int32} {uU gF pL qF : Nat → Int32} (aA0 : 1 ≤ Int32.toInt qJ ∧ Int32.toInt qJ ≤ 79) (aA2 : 1 ≤ Int32.toInt rX ∧ Int32.toInt rX ≤ 79) (aAI : ∀ k : Nat, 0 ≤ Int32.toInt (qM k) ∧ Int32.toInt (qM k) ≤ 65535) (aAU : 0 ≤ Int32.toInt bJ ∧ Int32.toInt bJ ≤ 15) (hpost : ∀ (r : Int32) (aBS : Int32) (aCR : Int32) (tr_x' : Nat → Int32) (aNV : Nat → Int32) (aJW : Nat → Int32) (aXi : Nat → Int32), (0 ≤ Int32.toInt r ∧ Int32.toInt r ≤ 1) → (0 ≤ Int32.toInt aBS ∧ Int32.toInt aBS ≤ 80) → (0 ≤ Int32.toInt aCR ∧ Int32.toInt aCR ≤ 16) → post r aBS aCR tr_x' aNV aJW aXi) : wp_X3_readFruit post qJ rX qM bJ uU gF pL qF := by
  have l0 := aI2
  have l1 := aE0
  have l2 := aEc
  have l3 := li_16
  have l4 := li_2
  have l5 := li_42
  have l6 := li_44
  refine aXN (by omega) (by omega) (by omega) aAI (fun r21 tx_place_20 h_tx_place_20 => ?_)
  have f23 := aAT r21
  refine And.intro (fun c22 => ?_) (fun c22 => ?_)
  · skip
    have c22 := (zJ _ _).mp c22
    refine And.intro (fun h9 => absurd h9 (by decide)) (fun _ => ?_)
    exact hpost _ _ _ _ _ _ _ (by omega) h_tx_place_20 (by omega)
  · skip
    have c22 := mt (zJ _ _).mpr c22
    refine And.intro (fun c24 => ?_) (fun c24 => ?_)
    · skip
      have c24 := (aAO _ _).mp c24
      refine And.intro (fun h9 => absurd h9 (by decide)) (fun _ => ?_)
      refine And.intro (fun h9 => absurd h9 (by decide)) (fun _ => ?_)
      refine And.intro (fun h9 => absurd h9 (by decide)) (fun _ => ?_)
      exact hpost _ _ _ _ _ _ _ (by omega) h_tx_place_20 (by omega)
    · skip
      have c24 := mt (aAO _ _).mpr c24
      refine And.intro (aBZ (by omega)) ?_
      intro v25 ev25
      have f26 := aAI tx_place_20.toNatClampNeg
      have hv25 := congrArg Int32.toInt ev25
      refine And.intro (fun c27 => ?_) (fun c27 => ?_)
      · skip
        have c27 := (zJ _ _).mp c27
        intro v28 ev28
        have f29 : Int32.toInt (tx_place_20 + 1) = Int32.toInt tx_place_20 + Int32.toInt (1 : Int32) := aAD _ _ (by omega)
        rw [← ev28] at f29
        refine And.intro (fun _ => ?_) (fun h9 => absurd h9 (by decide))
        refine aXN (by omega) (by omega) (by omega) aAI (fun r31 tx_place_30 h_tx_place_30 => ?_)
        have f33 := aAT r31
        refine And.intro (fun c32 => ?_) (fun c32 => ?_)
        · skip
          have c32 := (zJ _ _).mp c32
          refine And.intro (fun h9 => absurd h9 (by decide)) (fun _ => ?_)
          exact hpost _ _ _ _ _ _ _ (by omega) h_tx_place_30 (by omega)
        · skip
          have c32 := mt (zJ _ _).mpr c32
          refine And.intro (fun c34 => ?_) (fun c34 => ?_)
          · skip
            have c34 := (aAd _ _).mp c34
            exfalso; omega
          · skip
            have c34 := mt (aAd _ _).mpr c34
            refine And.intro (fun c35 => ?_) (fun c35 => ?_)
            · skip
              have c35 := (aAO _ _).mp c35
              exfalso; omega
            · skip
              have c35 := mt (aAO _ _).mpr c35
              refine And.intro (fun c36 => ?_) (fun c36 => ?_)
              · skip
                have c36 := (aAd _ _).mp c36
                refine And.intro (aBZ (by omega)) ?_
                refine And.intro (aBZ (by omega)) ?_
                refine And.intro (fun _ => ?_) (fun h9 => absurd h9 (by decide))
                refine And.intro (fun c37 => ?_) (fun c37 => ?_)
                · skip
                  have c37 := (aAO _ _).mp c37
                  refine And.intro (fun h9 => absurd h9 (by decide)) (fun _ => ?_)
                  refine And.intro (fun _ => ?_) (fun h9 => absurd h9 (by decide))
                  exact ts_X3_readFruit_46 rX qM aA2 aAI hpost bJ bJ 1 tx_place_30 bJ (upd uU bJ.toNatClampNeg r21) (upd gF bJ.toNatClampNeg r31) pL qF aAU aAU h_tx_place_30 aAU
                · skip
                  have c37 := mt (aAO _ _).mpr c37
                  refine And.intro (aBZ (by omega)) ?_
                  intro v38 ev38
                  have f39 := aAI tx_place_30.toNatClampNeg
                  have hv38 := congrArg Int32.toInt ev38
                  refine And.intro (fun c40 => ?_) (fun c40 => ?_)
                  · skip
                    have c40 := (zJ _ _).mp c40
                    intro v41 ev41
                    have f42 : Int32.toInt (tx_place_30 + 1) = Int32.toInt tx_place_30 + Int32.toInt (1 : Int32) := aAD _ _ (by omega)
                    rw [← ev41] at f42
                    refine And.intro (fun h9 => absurd h9 (by decide)) (fun _ => ?_)
                    refine aXN (by omega) (by omega) (by omega) aAI (fun r44 tx_place_43 h_tx_place_43 => ?_)
                    have f45 := aAT r44
                    exact ts_X3_readFruit_46 rX qM aA2 aAI hpost bJ bJ r44 tx_place_43 bJ (upd uU bJ.toNatClampNeg r21) (upd gF bJ.toNatClampNeg r31) pL qF aAU aAU h_tx_place_43 aAU
                  · skip
                    have c40 := mt (zJ _ _).mpr c40
                    refine And.intro (fun _ => ?_) (fun h9 => absurd h9 (by decide))
                    exact ts_X3_readFruit_46 rX qM aA2 aAI hpost bJ bJ 1 tx_place_30 bJ (upd uU bJ.toNatClampNeg r21) (upd gF bJ.toNatClampNeg r31) pL qF aAU aAU h_tx_place_30 aAU
              · skip
                have c36 := mt (aAd _ _).mpr c36
                exfalso; omega
      · skip
        have c27 := mt (zJ _ _).mpr c27
        refine And.intro (fun h9 => absurd h9 (by decide)) (fun _ => ?_)
        refine And.intro (fun h9 => absurd h9 (by decide)) (fun _ => ?_)
        exact hpost _ _ _ _ _ _ _ (by omega) h_tx_place_20 (by omega)
