set_option maxHeartbeats 8000000 in
set_option maxRecDepth 200000 in
theorem ts_X8_add_14 {post : Int32 → Int32 → (Nat → Int32) → Prop} {aBL : Int32} {next : Int32 → Int32 → Int32 → (Nat → Int32) → Prop} {n14 : Int} (hpost : ∀ (r : Int32) (tx_length' : Int32) (tx_signs' : Nat → Int32), (-1 ≤ Int32.toInt r ∧ Int32.toInt r ≤ 80) → (0 ≤ Int32.toInt tx_length' ∧ Int32.toInt tx_length' ≤ 80) → (∀ k : Nat, 0 ≤ Int32.toInt (tx_signs' k) ∧ Int32.toInt (tx_signs' k) ≤ 65535) → ((76 < Int32.toInt aBL ∧ Int32.toInt r = -1 ∧ Int32.toInt tx_length' = Int32.toInt aBL) ∨ (Int32.toInt aBL ≤ 76 ∧ Int32.toInt r = Int32.toInt tx_length' ∧ Int32.toInt tx_length' = Int32.toInt aBL + 4)) → post r tx_length' tx_signs') (hKn : ∀ (x1 : Int32) (x2 : Int32) (qI : Int32) (qM : Nat → Int32), (-100 ≤ Int32.toInt x2 ∧ Int32.toInt x2 ≤ 24) → (0 ≤ Int32.toInt qI ∧ Int32.toInt qI ≤ 80) → (∀ k : Nat, 0 ≤ Int32.toInt (qM k) ∧ Int32.toInt (qM k) ≤ 65535) → (8 * Int32.toInt qI + Int32.toInt x2 = 8 * Int32.toInt aBL + 24) → (Int32.toInt aBL ≤ 76) → (-8 ≤ Int32.toInt x2) → (Int32.toInt x2 % 8 = 0) → (Int32.toInt x2 + 100 < n14) → next x1 x2 qI qM) (x1 x2 qI : Int32) (qM : Nat → Int32) (h_x2 : -100 ≤ Int32.toInt x2 ∧ Int32.toInt x2 ≤ 24) (h_tx_length : 0 ≤ Int32.toInt qI ∧ Int32.toInt qI ≤ 80) (h_tx_signs : ∀ k : Nat, 0 ≤ Int32.toInt (qM k) ∧ Int32.toInt (qM k) ≤ 65535) (hx0 : 8 * Int32.toInt qI + Int32.toInt x2 = 8 * Int32.toInt aBL + 24) (hx1 : Int32.toInt aBL ≤ 76) (hx2 : -8 ≤ Int32.toInt x2) (hx3 : Int32.toInt x2 % 8 = 0) (hn14 : Int32.toInt x2 + 100 ≤ n14) : ws_X8_add_14 post next x1 x2 qI qM := by
  have l0 := li_m8
  have l1 := li_0
  have l2 := li_1
  refine And.intro (fun c1 => ?_) (fun c1 => ?_)
  · skip
    have c1 := (fa_lt _ _).mp c1
    exact hpost _ _ _ (by omega) h_tx_length h_tx_signs (by omega)
  · skip
    have c1 := mt (fa_lt _ _).mpr c1
    intro v2 ev2
    intro v3 ev3
    have hv3 := ti_i2c (v2 &&& 255)
    rw [← ev3] at hv3
    refine And.intro (t_in (by omega)) ?_
    have qa4 := ti_nar_char v3
    have a4 : ∀ k : Nat, 0 ≤ Int32.toInt ((upd qM qI.toNatClampNeg (vp_nar .char v3)) k) ∧ Int32.toInt ((upd qM qI.toNatClampNeg (vp_nar .char v3)) k) ≤ 65535 := t_upd (fun k => by have q9 := h_tx_signs k; omega) (by omega)
    intro v5 ev5
    have f6 : Int32.toInt (qI + 1) = Int32.toInt qI + Int32.toInt (1 : Int32) := ta_add _ _ (by omega)
    rw [← ev5] at f6
    intro v7 ev7
    have f8 : Int32.toInt (x2 + (-8)) = Int32.toInt x2 + Int32.toInt ((-8) : Int32) := ta_add _ _ (by omega)
    rw [← ev7] at f8
    have f9 := tp_r x1
    exact hKn x1 v7 v5 (upd qM qI.toNatClampNeg (vp_nar .char v3)) (by omega) (by omega) (fun k => by have q9 := a4 k; omega) (by omega) hx1 (by omega) (by omega) (by omega)
set_option maxHeartbeats 8000000 in
set_option maxRecDepth 200000 in
theorem tb_X8_add_14 {post : Int32 → Int32 → (Nat → Int32) → Prop} {aBL : Int32} (hpost : ∀ (r : Int32) (tx_length' : Int32) (tx_signs' : Nat → Int32), (-1 ≤ Int32.toInt r ∧ Int32.toInt r ≤ 80) → (0 ≤ Int32.toInt tx_length' ∧ Int32.toInt tx_length' ≤ 80) → (∀ k : Nat, 0 ≤ Int32.toInt (tx_signs' k) ∧ Int32.toInt (tx_signs' k) ≤ 65535) → ((76 < Int32.toInt aBL ∧ Int32.toInt r = -1 ∧ Int32.toInt tx_length' = Int32.toInt aBL) ∨ (Int32.toInt aBL ≤ 76 ∧ Int32.toInt r = Int32.toInt tx_length' ∧ Int32.toInt tx_length' = Int32.toInt aBL + 4)) → post r tx_length' tx_signs') : ∀ (n : Nat) (x1 x2 qI : Int32) (qM : Nat → Int32), (-100 ≤ Int32.toInt x2 ∧ Int32.toInt x2 ≤ 24) → (0 ≤ Int32.toInt qI ∧ Int32.toInt qI ≤ 80) → (∀ k : Nat, 0 ≤ Int32.toInt (qM k) ∧ Int32.toInt (qM k) ≤ 65535) → (8 * Int32.toInt qI + Int32.toInt x2 = 8 * Int32.toInt aBL + 24) → (Int32.toInt aBL ≤ 76) → (-8 ≤ Int32.toInt x2) → (Int32.toInt x2 % 8 = 0) → (Int32.toInt x2 + 100 < (n : Int)) → wb_X8_add_14 post n x1 x2 qI qM := by
  intro n
  induction n with
  | zero =>
    intro x1 x2 qI qM h_x2 h_tx_length h_tx_signs hx0 hx1 hx2 hx3 hm
    exfalso; omega
  | succ n ih =>
    intro x1 x2 qI qM h_x2 h_tx_length h_tx_signs hx0 hx1 hx2 hx3 hm
    exact ts_X8_add_14 hpost ih x1 x2 qI qM h_x2 h_tx_length h_tx_signs hx0 hx1 hx2 hx3 (by omega)
set_option maxHeartbeats 8000000 in
set_option maxRecDepth 200000 in
theorem t_X8_add {post : Int32 → Int32 → (Nat → Int32) → Prop} {p0 qI : Int32} {qM : Nat → Int32} (h_tx_length : 0 ≤ Int32.toInt qI ∧ Int32.toInt qI ≤ 80) (h_tx_signs : ∀ k : Nat, 0 ≤ Int32.toInt (qM k) ∧ Int32.toInt (qM k) ≤ 65535) (hpost : ∀ (r : Int32) (tx_length' : Int32) (tx_signs' : Nat → Int32), (-1 ≤ Int32.toInt r ∧ Int32.toInt r ≤ 80) → (0 ≤ Int32.toInt tx_length' ∧ Int32.toInt tx_length' ≤ 80) → (∀ k : Nat, 0 ≤ Int32.toInt (tx_signs' k) ∧ Int32.toInt (tx_signs' k) ≤ 65535) → ((76 < Int32.toInt qI ∧ Int32.toInt r = -1 ∧ Int32.toInt tx_length' = Int32.toInt qI) ∨ (Int32.toInt qI ≤ 76 ∧ Int32.toInt r = Int32.toInt tx_length' ∧ Int32.toInt tx_length' = Int32.toInt qI + 4)) → post r tx_length' tx_signs') : wp_X8_add post p0 qI qM := by
  have l0 := li_m1
  have l1 := li_24
  have l2 := li_76
  refine And.intro (fun c10 => ?_) (fun c10 => ?_)
  · skip
    have c10 := (fa_le _ _).mp c10
    have f11 := tp_r p0
    exact ⟨126, tb_X8_add_14 hpost _ p0 24 qI qM (by omega) h_tx_length h_tx_signs (by omega) (by omega) (by omega) (by omega) (by omega)⟩
  · skip
    have c10 := mt (fa_le _ _).mpr c10
    exact hpost _ _ _ (by omega) h_tx_length h_tx_signs (by omega)
set_option maxHeartbeats 8000000 in
set_option maxRecDepth 200000 in
theorem t_X9_sign {post : Int32 → Int32 → (Nat → Int32) → Prop} {p0 qI : Int32} {qM : Nat → Int32} (h_tx_length : 0 ≤ Int32.toInt qI ∧ Int32.toInt qI ≤ 80) (h_tx_signs : ∀ k : Nat, 0 ≤ Int32.toInt (qM k) ∧ Int32.toInt (qM k) ≤ 65535) (hpost : ∀ (r : Int32) (tx_length' : Int32) (tx_signs' : Nat → Int32), (-1 ≤ Int32.toInt r ∧ Int32.toInt r ≤ 80) → (0 ≤ Int32.toInt tx_length' ∧ Int32.toInt tx_length' ≤ 80) → (∀ k : Nat, 0 ≤ Int32.toInt (tx_signs' k) ∧ Int32.toInt (tx_signs' k) ≤ 65535) → ((76 < Int32.toInt qI ∧ Int32.toInt r = -1 ∧ Int32.toInt tx_length' = Int32.toInt qI) ∨ (Int32.toInt qI ≤ 76 ∧ Int32.toInt r = Int32.toInt tx_length' ∧ Int32.toInt tx_length' = Int32.toInt qI + 4)) → post r tx_length' tx_signs') : wp_X9_sign post p0 qI qM := by
  refine t_X8_add h_tx_length h_tx_signs (fun r3 tx_length_1 tx_signs_2 h_r3 h_tx_length_1 h_tx_signs_2 ox4 => ?_)
  exact hpost _ _ _ h_r3 h_tx_length_1 h_tx_signs_2 (by omega)
set_option maxHeartbeats 8000000 in
set_option maxRecDepth 200000 in
theorem t_X9_end {post : Int32 → Int32 → Prop} {p0 qI : Int32} (h_tx_length : 0 ≤ Int32.toInt qI ∧ Int32.toInt qI ≤ 80) (hpost : ∀ (r : Int32) (tx_length' : Int32), (0 ≤ Int32.toInt r ∧ Int32.toInt r ≤ 1) → (0 ≤ Int32.toInt tx_length' ∧ Int32.toInt tx_length' ≤ 80) → ((0 ≤ Int32.toInt p0 ∧ Int32.toInt p0 ≤ Int32.toInt qI ∧ Int32.toInt tx_length' = Int32.toInt p0 ∧ Int32.toInt r = 1) ∨ ((Int32.toInt p0 < 0 ∨ Int32.toInt qI < Int32.toInt p0) ∧ Int32.toInt tx_length' = Int32.toInt qI ∧ Int32.toInt r = 0)) → post r tx_length') : wp_X9_end post p0 qI := by
  have l0 := li_0
  have l1 := li_1
  have f2 := tp_r p0
  refine And.intro (fun c1 => ?_) (fun c1 => ?_)
  · skip
    have c1 := (fa_lt _ _).mp c1
    refine And.intro (t_bool (by omega)) ?_
    exact hpost _ _ (by omega) h_tx_length (by omega)
  · skip
    have c1 := mt (fa_lt _ _).mpr c1
    refine And.intro (fun c3 => ?_) (fun c3 => ?_)
    · skip
      have c3 := (fa_le _ _).mp c3
      refine And.intro (t_bool (by omega)) ?_
      exact hpost _ _ (by omega) (by omega) (by omega)
    · skip
      have c3 := mt (fa_le _ _).mpr c3
      refine And.intro (t_bool (by omega)) ?_
      exact hpost _ _ (by omega) h_tx_length (by omega)
set_option maxHeartbeats 8000000 in
set_option maxRecDepth 200000 in
theorem ts_X4_forgetAll_7 {post : Int32 → (Nat → Int32) → Prop} {next : Int32 → Int32 → (Nat → Int32) → Prop} {n7 : Int} (hpost : ∀ (pa_undoable' : Int32) (pa_isKept' : Nat → Int32), (0 ≤ Int32.toInt pa_undoable' ∧ Int32.toInt pa_undoable' ≤ 0) → (∀ k : Nat, 0 ≤ Int32.toInt (pa_isKept' k) ∧ Int32.toInt (pa_isKept' k) ≤ 1) → post pa_undoable' pa_isKept') (hKn : ∀ (x1 : Int32) (oE : Int32) (tJ : Nat → Int32), (0 ≤ Int32.toInt x1 ∧ Int32.toInt x1 ≤ 2) → (0 ≤ Int32.toInt oE ∧ Int32.toInt oE ≤ 0) → (∀ k : Nat, 0 ≤ Int32.toInt (tJ k) ∧ Int32.toInt (tJ k) ≤ 1) → (2 - Int32.toInt x1 < n7) → next x1 oE tJ) (x1 oE : Int32) (tJ : Nat → Int32) (h_x1 : 0 ≤ Int32.toInt x1 ∧ Int32.toInt x1 ≤ 2) (h_pa_undoable : 0 ≤ Int32.toInt oE ∧ Int32.toInt oE ≤ 0) (h_pa_isKept : ∀ k : Nat, 0 ≤ Int32.toInt (tJ k) ∧ Int32.toInt (tJ k) ≤ 1) (hn7 : 2 - Int32.toInt x1 ≤ n7) : ws_X4_forgetAll_7 post next x1 oE tJ := by
  have l0 := li_0
  have l1 := li_1
  have l2 := li_2
  refine And.intro (fun c1 => ?_) (fun c1 => ?_)
  · skip
    have c1 := (fa_le _ _).mp c1
    exact hpost _ _ h_pa_undoable h_pa_isKept
  · skip
    have c1 := mt (fa_le _ _).mpr c1
    refine And.intro (t_in (by omega)) ?_
    have qa2 := ti_nar_boolean 0
    have a2 : ∀ k : Nat, 0 ≤ Int32.toInt ((upd tJ x1.toNatClampNeg (vp_nar .boolean 0)) k) ∧ Int32.toInt ((upd tJ x1.toNatClampNeg (vp_nar .boolean 0)) k) ≤ 1 := t_upd (fun k => by have q9 := h_pa_isKept k; omega) (by omega)
    intro v3 ev3
    have f4 : Int32.toInt (x1 + 1) = Int32.toInt x1 + Int32.toInt (1 : Int32) := ta_add _ _ (by omega)
    rw [← ev3] at f4
    exact hKn v3 oE (upd tJ x1.toNatClampNeg (vp_nar .boolean 0)) (by omega) h_pa_undoable (fun k => by have q9 := a2 k; omega) (by omega)
set_option maxHeartbeats 8000000 in
set_option maxRecDepth 200000 in
theorem tb_X4_forgetAll_7 {post : Int32 → (Nat → Int32) → Prop} (hpost : ∀ (pa_undoable' : Int32) (pa_isKept' : Nat → Int32), (0 ≤ Int32.toInt pa_undoable' ∧ Int32.toInt pa_undoable' ≤ 0) → (∀ k : Nat, 0 ≤ Int32.toInt (pa_isKept' k) ∧ Int32.toInt (pa_isKept' k) ≤ 1) → post pa_undoable' pa_isKept') : ∀ (n : Nat) (x1 oE : Int32) (tJ : Nat → Int32), (0 ≤ Int32.toInt x1 ∧ Int32.toInt x1 ≤ 2) → (0 ≤ Int32.toInt oE ∧ Int32.toInt oE ≤ 0) → (∀ k : Nat, 0 ≤ Int32.toInt (tJ k) ∧ Int32.toInt (tJ k) ≤ 1) → (2 - Int32.toInt x1 < (n : Int)) → wb_X4_forgetAll_7 post n x1 oE tJ := by
  intro n
  induction n with
  | zero =>
    intro x1 oE tJ h_x1 h_pa_undoable h_pa_isKept hm
    exfalso; omega
  | succ n ih =>
    intro x1 oE tJ h_x1 h_pa_undoable h_pa_isKept hm
    exact ts_X4_forgetAll_7 hpost ih x1 oE tJ h_x1 h_pa_undoable h_pa_isKept (by omega)
set_option maxHeartbeats 8000000 in
set_option maxRecDepth 200000 in
theorem t_X4_forgetAll {post : Int32 → (Nat → Int32) → Prop} {oE : Int32} {tJ : Nat → Int32} (h_pa_undoable : 0 ≤ Int32.toInt oE ∧ Int32.toInt oE ≤ 12) (h_pa_isKept : ∀ k : Nat, 0 ≤ Int32.toInt (tJ k) ∧ Int32.toInt (tJ k) ≤ 1) (hpost : ∀ (pa_undoable' : Int32) (pa_isKept' : Nat → Int32), (0 ≤ Int32.toInt pa_undoable' ∧ Int32.toInt pa_undoable' ≤ 0) → (∀ k : Nat, 0 ≤ Int32.toInt (pa_isKept' k) ∧ Int32.toInt (pa_isKept' k) ≤ 1) → post pa_undoable' pa_isKept') : wp_X4_forgetAll post oE tJ := by
  have l0 := li_0
  exact ⟨4, tb_X4_forgetAll_7 hpost _ 0 0 tJ (by omega) (by omega) h_pa_isKept (by omega)⟩
set_option maxHeartbeats 8000000 in
set_option maxRecDepth 200000 in
theorem ts_X8_digitHere_24 {post : Int32 → Prop} (qJ rY : Int32) (qM : Nat → Int32) (h_tx_place : 0 ≤ Int32.toInt qJ ∧ Int32.toInt qJ ≤ 80) (h_tx_stop : 0 ≤ Int32.toInt rY ∧ Int32.toInt rY ≤ 80) (h_tx_signs : ∀ k : Nat, 0 ≤ Int32.toInt (qM k) ∧ Int32.toInt (qM k) ≤ 65535) (hpost : ∀ (r : Int32) , (-1 ≤ Int32.toInt r ∧ Int32.toInt r ≤ 9) → post r) (k0 : Int32) (h_k0 : -1 ≤ Int32.toInt k0 ∧ Int32.toInt k0 ≤ 65535) : ws_X8_digitHere_24 post qJ rY qM k0 := by
  have l0 := li_m1
  have l1 := li_48
  have l2 := li_57
  refine And.intro (fun c1 => ?_) (fun c1 => ?_)
  · skip
    have c1 := (fa_lt _ _).mp c1
    exact hpost _ (by omega)
  · skip
    have c1 := mt (fa_lt _ _).mpr c1
    refine And.intro (fun c2 => ?_) (fun c2 => ?_)
    · skip
      have c2 := (fa_lt _ _).mp c2
      exact hpost _ (by omega)
    · skip
      have c2 := mt (fa_lt _ _).mpr c2
      intro v3 ev3
      have f4 : Int32.toInt (k0 - 48) = Int32.toInt k0 - Int32.toInt (48 : Int32) := ta_sub _ _ (by omega)
      rw [← ev3] at f4
      exact hpost _ (by omega)
set_option maxHeartbeats 8000000 in
set_option maxRecDepth 200000 in
theorem t_X8_digitHere {post : Int32 → Prop} {qJ rY : Int32} {qM : Nat → Int32} (h_tx_place : 0 ≤ Int32.toInt qJ ∧ Int32.toInt qJ ≤ 80) (h_tx_stop : 0 ≤ Int32.toInt rY ∧ Int32.toInt rY ≤ 80) (h_tx_signs : ∀ k : Nat, 0 ≤ Int32.toInt (qM k) ∧ Int32.toInt (qM k) ≤ 65535) (hpost : ∀ (r : Int32) , (-1 ≤ Int32.toInt r ∧ Int32.toInt r ≤ 9) → post r) : wp_X8_digitHere post qJ rY qM := by
  have l0 := li_m1
  refine And.intro (fun c5 => ?_) (fun c5 => ?_)
  · skip
    have c5 := (fa_le _ _).mp c5
    exact ts_X8_digitHere_24 qJ rY qM h_tx_place h_tx_stop h_tx_signs hpost (-1) (by omega)
  · skip
    have c5 := mt (fa_le _ _).mpr c5
    refine And.intro (t_in (by omega)) ?_
    intro v6 ev6
    have f7 := h_tx_signs qJ.toNatClampNeg
    have hv6 := congrArg Int32.toInt ev6
    exact ts_X8_digitHere_24 qJ rY qM h_tx_place h_tx_stop h_tx_signs hpost v6 (by omega)
set_option maxHeartbeats 8000000 in
set_option maxRecDepth 200000 in
theorem ts_X8_readNumber_18 {post : Int32 → Int32 → Prop} {next : Int32 → Int32 → Int32 → Int32 → Prop} {n18 : Int} (rY : Int32) (qM : Nat → Int32) (h_tx_stop : 0 ≤ Int32.toInt rY ∧ Int32.toInt rY ≤ 80) (h_tx_signs : ∀ k : Nat, 0 ≤ Int32.toInt (qM k) ∧ Int32.toInt (qM k) ≤ 65535) (hpost : ∀ (r : Int32) (tx_place' : Int32), (0 ≤ Int32.toInt tx_place' ∧ Int32.toInt tx_place' ≤ 80) → post r tx_place') (hKn : ∀ (x1 : Int32) (x2 : Int32) (x3 : Int32) (qJ : Int32), (1 ≤ Int32.toInt x1 ∧ Int32.toInt x1 ≤ 3) → (1 ≤ Int32.toInt x3 ∧ Int32.toInt x3 ≤ 3) → (0 ≤ Int32.toInt qJ ∧ Int32.toInt qJ ≤ 80) → (3 - Int32.toInt x3 < n18) → next x1 x2 x3 qJ) (x1 x2 x3 qJ : Int32) (h_x1 : 1 ≤ Int32.toInt x1 ∧ Int32.toInt x1 ≤ 3) (h_x3 : 1 ≤ Int32.toInt x3 ∧ Int32.toInt x3 ≤ 3) (h_tx_place : 0 ≤ Int32.toInt qJ ∧ Int32.toInt qJ ≤ 80) (hn18 : 3 - Int32.toInt x3 ≤ n18) : ws_X8_readNumber_18 post next rY qM x1 x2 x3 qJ := by
  have l0 := li_m1
  have l1 := li_1
  refine And.intro (fun c1 => ?_) (fun c1 => ?_)
  · skip
    have c1 := (fa_le _ _).mp c1
    exact hpost _ _ h_tx_place
  · skip
    have c1 := mt (fa_le _ _).mpr c1
    refine t_X8_digitHere h_tx_place h_tx_stop h_tx_signs (fun r2 h_r2 => ?_)
    refine And.intro (fun c3 => ?_) (fun c3 => ?_)
    · skip
      have c3 := mt (fa_eq _ _).mpr c3
      intro v4 ev4
      have hv4 := congrArg Int32.toInt ev4
      intro v6 ev6
      have hv6 := congrArg Int32.toInt ev6
      refine And.intro (fun c8 => ?_) (fun c8 => ?_)
      · skip
        have c8 := (fa_le _ _).mp c8
        intro v9 ev9
        have f10 : Int32.toInt (x3 + 1) = Int32.toInt x3 + Int32.toInt (1 : Int32) := ta_add _ _ (by omega)
        rw [← ev9] at f10
        have f11 := tp_r v6
        exact hKn x1 v6 v9 qJ h_x1 (by omega) h_tx_place (by omega)
      · skip
        have c8 := mt (fa_le _ _).mpr c8
        intro v12 ev12
        have f13 : Int32.toInt (qJ + 1) = Int32.toInt qJ + Int32.toInt (1 : Int32) := ta_add _ _ (by omega)
        rw [← ev12] at f13
        intro v14 ev14
        have f15 : Int32.toInt (x3 + 1) = Int32.toInt x3 + Int32.toInt (1 : Int32) := ta_add _ _ (by omega)
        rw [← ev14] at f15
        have f16 := tp_r v6
        exact hKn x1 v6 v14 v12 h_x1 (by omega) (by omega) (by omega)
    · skip
      have c3 := (fa_eq _ _).mp c3
      exact hpost _ _ h_tx_place
set_option maxHeartbeats 8000000 in
set_option maxRecDepth 200000 in
theorem tb_X8_readNumber_18 {post : Int32 → Int32 → Prop} (rY : Int32) (qM : Nat → Int32) (h_tx_stop : 0 ≤ Int32.toInt rY ∧ Int32.toInt rY ≤ 80) (h_tx_signs : ∀ k : Nat, 0 ≤ Int32.toInt (qM k) ∧ Int32.toInt (qM k) ≤ 65535) (hpost : ∀ (r : Int32) (tx_place' : Int32), (0 ≤ Int32.toInt tx_place' ∧ Int32.toInt tx_place' ≤ 80) → post r tx_place') : ∀ (n : Nat) (x1 x2 x3 qJ : Int32), (1 ≤ Int32.toInt x1 ∧ Int32.toInt x1 ≤ 3) → (1 ≤ Int32.toInt x3 ∧ Int32.toInt x3 ≤ 3) → (0 ≤ Int32.toInt qJ ∧ Int32.toInt qJ ≤ 80) → (3 - Int32.toInt x3 < (n : Int)) → wb_X8_readNumber_18 post rY qM n x1 x2 x3 qJ := by
  intro n
  induction n with
  | zero =>
    intro x1 x2 x3 qJ h_x1 h_x3 h_tx_place hm
    exfalso; omega
  | succ n ih =>
    intro x1 x2 x3 qJ h_x1 h_x3 h_tx_place hm
    exact ts_X8_readNumber_18 rY qM h_tx_stop h_tx_signs hpost ih x1 x2 x3 qJ h_x1 h_x3 h_tx_place (by omega)
set_option maxHeartbeats 8000000 in
set_option maxRecDepth 200000 in
theorem t_X8_readNumber {post : Int32 → Int32 → Prop} {p0 qJ rY : Int32} {qM : Nat → Int32} (h_p0 : 1 ≤ Int32.toInt p0 ∧ Int32.toInt p0 ≤ 3) (h_tx_place : 0 ≤ Int32.toInt qJ ∧ Int32.toInt qJ ≤ 80) (h_tx_stop : 0 ≤ Int32.toInt rY ∧ Int32.toInt rY ≤ 80) (h_tx_signs : ∀ k : Nat, 0 ≤ Int32.toInt (qM k) ∧ Int32.toInt (qM k) ≤ 65535) (hpost : ∀ (r : Int32) (tx_place' : Int32), (0 ≤ Int32.toInt tx_place' ∧ Int32.toInt tx_place' ≤ 80) → post r tx_place') : wp_X8_readNumber post p0 qJ rY qM := by
  have l0 := li_m1
  have l1 := li_1
  refine t_X8_digitHere h_tx_place h_tx_stop h_tx_signs (fun r17 h_r17 => ?_)
  refine And.intro (fun c18 => ?_) (fun c18 => ?_)
  · skip
    have c18 := mt (fa_eq _ _).mpr c18
    refine And.intro (fun c19 => ?_) (fun c19 => ?_)
    · skip
      have c19 := (fa_le _ _).mp c19
      exact ⟨4, tb_X8_readNumber_18 rY qM h_tx_stop h_tx_signs hpost _ p0 r17 1 qJ h_p0 (by omega) h_tx_place (by omega)⟩
    · skip
      have c19 := mt (fa_le _ _).mpr c19
      intro v20 ev20
      have f21 : Int32.toInt (qJ + 1) = Int32.toInt qJ + Int32.toInt (1 : Int32) := ta_add _ _ (by omega)
      rw [← ev20] at f21
      exact ⟨4, tb_X8_readNumber_18 rY qM h_tx_stop h_tx_signs hpost _ p0 r17 1 v20 h_p0 (by omega) (by omega) (by omega)⟩
  · skip
    have c18 := (fa_eq _ _).mp c18
    exact hpost _ _ h_tx_place
set_option maxHeartbeats 8000000 in
set_option maxRecDepth 200000 in
theorem ts_X3_readFruit_82 {post : Int32 → Int32 → Int32 → (Nat → Int32) → (Nat → Int32) → (Nat → Int32) → (Nat → Int32) → Prop} (rY : Int32) (qM : Nat → Int32) (h_tx_stop : 1 ≤ Int32.toInt rY ∧ Int32.toInt rY ≤ 79) (h_tx_signs : ∀ k : Nat, 0 ≤ Int32.toInt (qM k) ∧ Int32.toInt (qM k) ≤ 65535) (hpost : ∀ (r : Int32) (tx_place' : Int32) (tr_comingFruits' : Int32) (tr_x' : Nat → Int32) (tr_height' : Nat → Int32) (tr_worth' : Nat → Int32) (tr_ripe' : Nat → Int32), (0 ≤ Int32.toInt r ∧ Int32.toInt r ≤ 1) → (0 ≤ Int32.toInt tx_place' ∧ Int32.toInt tx_place' ≤ 80) → (0 ≤ Int32.toInt tr_comingFruits' ∧ Int32.toInt tr_comingFruits' ≤ 16) → post r tx_place' tr_comingFruits' tr_x' tr_height' tr_worth' tr_ripe') (x2 k1 k2 qJ bI : Int32) (wD gF pE qA : Nat → Int32) (h_x2 : 0 ≤ Int32.toInt x2 ∧ Int32.toInt x2 ≤ 15) (h_k1 : 0 ≤ Int32.toInt k1 ∧ Int32.toInt k1 ≤ 15) (h_tx_place : 0 ≤ Int32.toInt qJ ∧ Int32.toInt qJ ≤ 80) (h_tr_comingFruits : 0 ≤ Int32.toInt bI ∧ Int32.toInt bI ≤ 15) : ws_X3_readFruit_82 post rY qM x2 k1 k2 qJ bI wD gF pE qA := by
  have l0 := li_m1
  have l1 := li_0
  have l2 := li_1
  refine And.intro (t_in (by omega)) ?_
  refine And.intro (t_in (by omega)) ?_
  intro v1 ev1
  have hv1 := congrArg Int32.toInt ev1
  have f4 := tp_r v1
  refine And.intro (fun c3 => ?_) (fun c3 => ?_)
  · skip
    have c3 := mt (fa_eq _ _).mpr c3
    intro v5 ev5
    have f6 : Int32.toInt (bI + 1) = Int32.toInt bI + Int32.toInt (1 : Int32) := ta_add _ _ (by omega)
    rw [← ev5] at f6
    exact hpost _ _ _ _ _ _ _ (by omega) h_tx_place (by omega)
  · skip
    have c3 := (fa_eq _ _).mp c3
    exact hpost _ _ _ _ _ _ _ (by omega) h_tx_place (by omega)
set_option maxHeartbeats 8000000 in
set_option maxRecDepth 200000 in
theorem ts_X3_readFruit_46 {post : Int32 → Int32 → Int32 → (Nat → Int32) → (Nat → Int32) → (Nat → Int32) → (Nat → Int32) → Prop} (rY : Int32) (qM : Nat → Int32) (h_tx_stop : 1 ≤ Int32.toInt rY ∧ Int32.toInt rY ≤ 79) (h_tx_signs : ∀ k : Nat, 0 ≤ Int32.toInt (qM k) ∧ Int32.toInt (qM k) ≤ 65535) (hpost : ∀ (r : Int32) (tx_place' : Int32) (tr_comingFruits' : Int32) (tr_x' : Nat → Int32) (tr_height' : Nat → Int32) (tr_worth' : Nat → Int32) (tr_ripe' : Nat → Int32), (0 ≤ Int32.toInt r ∧ Int32.toInt r ≤ 1) → (0 ≤ Int32.toInt tx_place' ∧ Int32.toInt tx_place' ≤ 80) → (0 ≤ Int32.toInt tr_comingFruits' ∧ Int32.toInt tr_comingFruits' ≤ 16) → post r tx_place' tr_comingFruits' tr_x' tr_height' tr_worth' tr_ripe') (x2 k1 k2 qJ bI : Int32) (wD gF pE qA : Nat → Int32) (h_x2 : 0 ≤ Int32.toInt x2 ∧ Int32.toInt x2 ≤ 15) (h_k1 : 0 ≤ Int32.toInt k1 ∧ Int32.toInt k1 ≤ 15) (h_tx_place : 0 ≤ Int32.toInt qJ ∧ Int32.toInt qJ ≤ 80) (h_tr_comingFruits : 0 ≤ Int32.toInt bI ∧ Int32.toInt bI ≤ 15) : ws_X3_readFruit_46 post rY qM x2 k1 k2 qJ bI wD gF pE qA := by
  have l0 := li_m1
  have l1 := li_0
  have l2 := li_1
  have l3 := li_64
  refine And.intro (t_in (by omega)) ?_
  refine And.intro (t_in (by omega)) ?_
  intro v7 ev7
  have hv7 := congrArg Int32.toInt ev7
  have f10 := tp_r v7
  refine And.intro (fun c9 => ?_) (fun c9 => ?_)
  · skip
    have c9 := mt (fa_eq _ _).mpr c9
    refine And.intro (fun c11 => ?_) (fun c11 => ?_)
    · skip
      have c11 := (fa_le _ _).mp c11
      refine And.intro (fun h9 => absurd h9 (by decide)) (fun _ => ?_)
      refine And.intro (fun _ => ?_) (fun h9 => absurd h9 (by decide))
      exact ts_X3_readFruit_82 rY qM h_tx_stop h_tx_signs hpost x2 x2 0 qJ bI wD gF (upd pE k1.toNatClampNeg k2) qA h_x2 h_x2 h_tx_place h_tr_comingFruits
    · skip
      have c11 := mt (fa_le _ _).mpr c11
      refine And.intro (t_in (by omega)) ?_
      intro v12 ev12
      have f13 := h_tx_signs qJ.toNatClampNeg
      have hv12 := congrArg Int32.toInt ev12
      refine And.intro (fun c14 => ?_) (fun c14 => ?_)
      · skip
        have c14 := (fa_eq _ _).mp c14
        intro v15 ev15
        have f16 : Int32.toInt (qJ + 1) = Int32.toInt qJ + Int32.toInt (1 : Int32) := ta_add _ _ (by omega)
        rw [← ev15] at f16
        refine And.intro (fun h9 => absurd h9 (by decide)) (fun _ => ?_)
        refine t_X8_readNumber (by omega) (by omega) (by omega) h_tx_signs (fun r18 aBu h_tx_place_17 => ?_)
        have f19 := tp_r r18
        exact ts_X3_readFruit_82 rY qM h_tx_stop h_tx_signs hpost x2 x2 r18 aBu bI wD gF (upd pE k1.toNatClampNeg k2) qA h_x2 h_x2 h_tx_place_17 h_tr_comingFruits
      · skip
        have c14 := mt (fa_eq _ _).mpr c14
        refine And.intro (fun _ => ?_) (fun h9 => absurd h9 (by decide))
        exact ts_X3_readFruit_82 rY qM h_tx_stop h_tx_signs hpost x2 x2 0 qJ bI wD gF (upd pE k1.toNatClampNeg k2) qA h_x2 h_x2 h_tx_place h_tr_comingFruits
  · skip
    have c9 := (fa_eq _ _).mp c9
    exact hpost _ _ _ _ _ _ _ (by omega) h_tx_place (by omega)
set_option maxHeartbeats 8000000 in
set_option maxRecDepth 200000 in
theorem t_X3_readFruit {post : Int32 → Int32 → Int32 → (Nat → Int32) → (Nat → Int32) → (Nat → Int32) → (Nat → Int32) → Prop} {qJ rY : Int32} {qM : Nat → Int32} {bI : Int32} {wD gF pE qA : Nat → Int32} (h_tx_place : 1 ≤ Int32.toInt qJ ∧ Int32.toInt qJ ≤ 79) (h_tx_stop : 1 ≤ Int32.toInt rY ∧ Int32.toInt rY ≤ 79) (h_tx_signs : ∀ k : Nat, 0 ≤ Int32.toInt (qM k) ∧ Int32.toInt (qM k) ≤ 65535) (h_tr_comingFruits : 0 ≤ Int32.toInt bI ∧ Int32.toInt bI ≤ 15) (hpost : ∀ (r : Int32) (tx_place' : Int32) (tr_comingFruits' : Int32) (tr_x' : Nat → Int32) (tr_height' : Nat → Int32) (tr_worth' : Nat → Int32) (tr_ripe' : Nat → Int32), (0 ≤ Int32.toInt r ∧ Int32.toInt r ≤ 1) → (0 ≤ Int32.toInt tx_place' ∧ Int32.toInt tx_place' ≤ 80) → (0 ≤ Int32.toInt tr_comingFruits' ∧ Int32.toInt tr_comingFruits' ≤ 16) → post r tx_place' tr_comingFruits' tr_x' tr_height' tr_worth' tr_ripe') : wp_X3_readFruit post qJ rY qM bI wD gF pE qA := by
  have l0 := li_m1
  have l1 := li_0
  have l2 := li_1
  have l3 := li_16
  have l4 := li_2
  have l5 := li_42
  have l6 := li_44
  refine t_X8_readNumber (by omega) (by omega) (by omega) h_tx_signs (fun r21 tx_place_20 h_tx_place_20 => ?_)
  have f23 := tp_r r21
  refine And.intro (fun c22 => ?_) (fun c22 => ?_)
  · skip
    have c22 := (fa_eq _ _).mp c22
    refine And.intro (fun h9 => absurd h9 (by decide)) (fun _ => ?_)
    exact hpost _ _ _ _ _ _ _ (by omega) h_tx_place_20 (by omega)
  · skip
    have c22 := mt (fa_eq _ _).mpr c22
    refine And.intro (fun c24 => ?_) (fun c24 => ?_)
    · skip
      have c24 := (fa_le _ _).mp c24
      refine And.intro (fun h9 => absurd h9 (by decide)) (fun _ => ?_)
      refine And.intro (fun h9 => absurd h9 (by decide)) (fun _ => ?_)
      refine And.intro (fun h9 => absurd h9 (by decide)) (fun _ => ?_)
      exact hpost _ _ _ _ _ _ _ (by omega) h_tx_place_20 (by omega)
    · skip
      have c24 := mt (fa_le _ _).mpr c24
      refine And.intro (t_in (by omega)) ?_
      intro v25 ev25
      have f26 := h_tx_signs tx_place_20.toNatClampNeg
      have hv25 := congrArg Int32.toInt ev25
      refine And.intro (fun c27 => ?_) (fun c27 => ?_)
      · skip
        have c27 := (fa_eq _ _).mp c27
        intro v28 ev28
        have f29 : Int32.toInt (tx_place_20 + 1) = Int32.toInt tx_place_20 + Int32.toInt (1 : Int32) := ta_add _ _ (by omega)
        rw [← ev28] at f29
        refine And.intro (fun _ => ?_) (fun h9 => absurd h9 (by decide))
        refine t_X8_readNumber (by omega) (by omega) (by omega) h_tx_signs (fun r31 tx_place_30 h_tx_place_30 => ?_)
        have f33 := tp_r r31
        refine And.intro (fun c32 => ?_) (fun c32 => ?_)
        · skip
          have c32 := (fa_eq _ _).mp c32
          refine And.intro (fun h9 => absurd h9 (by decide)) (fun _ => ?_)
          exact hpost _ _ _ _ _ _ _ (by omega) h_tx_place_30 (by omega)
        · skip
          have c32 := mt (fa_eq _ _).mpr c32
          refine And.intro (fun c34 => ?_) (fun c34 => ?_)
          · skip
            have c34 := (fa_lt _ _).mp c34
            exfalso; omega
          · skip
            have c34 := mt (fa_lt _ _).mpr c34
            refine And.intro (fun c35 => ?_) (fun c35 => ?_)
            · skip
              have c35 := (fa_le _ _).mp c35
              exfalso; omega
            · skip
              have c35 := mt (fa_le _ _).mpr c35
              refine And.intro (fun c36 => ?_) (fun c36 => ?_)
              · skip
                have c36 := (fa_lt _ _).mp c36
                refine And.intro (t_in (by omega)) ?_
                refine And.intro (t_in (by omega)) ?_
                refine And.intro (fun _ => ?_) (fun h9 => absurd h9 (by decide))
                refine And.intro (fun c37 => ?_) (fun c37 => ?_)
                · skip
                  have c37 := (fa_le _ _).mp c37
                  refine And.intro (fun h9 => absurd h9 (by decide)) (fun _ => ?_)
                  refine And.intro (fun _ => ?_) (fun h9 => absurd h9 (by decide))
                  exact ts_X3_readFruit_46 rY qM h_tx_stop h_tx_signs hpost bI bI 1 tx_place_30 bI (upd wD bI.toNatClampNeg r21) (upd gF bI.toNatClampNeg r31) pE qA h_tr_comingFruits h_tr_comingFruits h_tx_place_30 h_tr_comingFruits
                · skip
                  have c37 := mt (fa_le _ _).mpr c37
                  refine And.intro (t_in (by omega)) ?_
                  intro v38 ev38
                  have f39 := h_tx_signs tx_place_30.toNatClampNeg
                  have hv38 := congrArg Int32.toInt ev38
                  refine And.intro (fun c40 => ?_) (fun c40 => ?_)
                  · skip
                    have c40 := (fa_eq _ _).mp c40
                    intro v41 ev41
                    have f42 : Int32.toInt (tx_place_30 + 1) = Int32.toInt tx_place_30 + Int32.toInt (1 : Int32) := ta_add _ _ (by omega)
                    rw [← ev41] at f42
                    refine And.intro (fun h9 => absurd h9 (by decide)) (fun _ => ?_)
                    refine t_X8_readNumber (by omega) (by omega) (by omega) h_tx_signs (fun r44 tx_place_43 h_tx_place_43 => ?_)
                    have f45 := tp_r r44
                    exact ts_X3_readFruit_46 rY qM h_tx_stop h_tx_signs hpost bI bI r44 tx_place_43 bI (upd wD bI.toNatClampNeg r21) (upd gF bI.toNatClampNeg r31) pE qA h_tr_comingFruits h_tr_comingFruits h_tx_place_43 h_tr_comingFruits
                  · skip
                    have c40 := mt (fa_eq _ _).mpr c40
                    refine And.intro (fun _ => ?_) (fun h9 => absurd h9 (by decide))
                    exact ts_X3_readFruit_46 rY qM h_tx_stop h_tx_signs hpost bI bI 1 tx_place_30 bI (upd wD bI.toNatClampNeg r21) (upd gF bI.toNatClampNeg r31) pE qA h_tr_comingFruits h_tr_comingFruits h_tx_place_30 h_tr_comingFruits
              · skip
                have c36 := mt (fa_lt _ _).mpr c36
                exfalso; omega
      · skip
        have c27 := mt (fa_eq _ _).mpr c27
        refine And.intro (fun h9 => absurd h9 (by decide)) (fun _ => ?_)
        refine And.intro (fun h9 => absurd h9 (by decide)) (fun _ => ?_)
        exact hpost _ _ _ _ _ _ _ (by omega) h_tx_place_20 (by omega)
set_option maxHeartbeats 8000000 in
set_option maxRecDepth 200000 in
theorem ts_X3_readLine_28 {post : Int32 → Int32 → Int32 → Int32 → (Nat → Int32) → (Nat → Int32) → (Nat → Int32) → (Nat → Int32) → (Nat → Int32) → (Nat → Int32) → Prop} (rY : Int32) (qM : Nat → Int32) (h_tx_stop : 0 ≤ Int32.toInt rY ∧ Int32.toInt rY ≤ 79) (h_tx_signs : ∀ k : Nat, 0 ≤ Int32.toInt (qM k) ∧ Int32.toInt (qM k) ≤ 65535) (hpost : ∀ (r : Int32) (tx_place' : Int32) (tr_comingFruits' : Int32) (tr_comingStandings' : Int32) (tr_x' : Nat → Int32) (tr_height' : Nat → Int32) (tr_worth' : Nat → Int32) (tr_ripe' : Nat → Int32) (tr_foot' : Nat → Int32) (tr_fork' : Nat → Int32), (0 ≤ Int32.toInt r ∧ Int32.toInt r ≤ 1) → (0 ≤ Int32.toInt tx_place' ∧ Int32.toInt tx_place' ≤ 80) → (0 ≤ Int32.toInt tr_comingFruits' ∧ Int32.toInt tr_comingFruits' ≤ 16) → (0 ≤ Int32.toInt tr_comingStandings' ∧ Int32.toInt tr_comingStandings' ≤ 8) → post r tx_place' tr_comingFruits' tr_comingStandings' tr_x' tr_height' tr_worth' tr_ripe' tr_foot' tr_fork') (qJ bI aI : Int32) (wD gF pE qA nJ nY : Nat → Int32) (h_tx_place : 0 ≤ Int32.toInt qJ ∧ Int32.toInt qJ ≤ 79) (h_tr_comingFruits : 0 ≤ Int32.toInt bI ∧ Int32.toInt bI ≤ 16) (h_tr_comingStandings : 0 ≤ Int32.toInt aI ∧ Int32.toInt aI ≤ 8) : ws_X3_readLine_28 post rY qM qJ bI aI wD gF pE qA nJ nY := by
  have l0 := li_m1
  have l1 := li_0
  have l2 := li_1
  have l3 := li_115
  have l4 := li_2
  have l5 := li_44
  have l6 := li_8
  refine And.intro (fun c1 => ?_) (fun c1 => ?_)
  · skip
    have c1 := (fa_le _ _).mp c1
    refine And.intro (fun _ => ?_) (fun h9 => absurd h9 (by decide))
    exact hpost _ _ _ _ _ _ _ _ _ _ (by omega) (by omega) h_tr_comingFruits h_tr_comingStandings
  · skip
    have c1 := mt (fa_le _ _).mpr c1
    refine And.intro (t_in (by omega)) ?_
    intro v2 ev2
    have f3 := h_tx_signs qJ.toNatClampNeg
    have hv2 := congrArg Int32.toInt ev2
    refine And.intro (fun c4 => ?_) (fun c4 => ?_)
    · skip
      have c4 := mt (fa_eq _ _).mpr c4
      exact hpost _ _ _ _ _ _ _ _ _ _ (by omega) (by omega) h_tr_comingFruits h_tr_comingStandings
    · skip
      have c4 := (fa_eq _ _).mp c4
      refine And.intro (fun c5 => ?_) (fun c5 => ?_)
      · skip
        have c5 := (fa_le _ _).mp c5
        exact hpost _ _ _ _ _ _ _ _ _ _ (by omega) (by omega) h_tr_comingFruits h_tr_comingStandings
      · skip
        have c5 := mt (fa_le _ _).mpr c5
        refine And.intro (fun c6 => ?_) (fun c6 => ?_)
        · skip
          have c6 := (fa_le _ _).mp c6
          refine t_X8_readNumber (by omega) (by omega) (by omega) h_tx_signs (fun r8 aFZ h_tx_place_7 => ?_)
          have f10 := tp_r r8
          refine And.intro (fun c9 => ?_) (fun c9 => ?_)
          · skip
            have c9 := (fa_eq _ _).mp c9
            refine And.intro (fun h9 => absurd h9 (by decide)) (fun _ => ?_)
            refine And.intro (t_bool (by omega)) ?_
            exact hpost _ _ _ _ _ _ _ _ _ _ (by omega) h_tx_place_7 h_tr_comingFruits h_tr_comingStandings
          · skip
            have c9 := mt (fa_eq _ _).mpr c9
            refine And.intro (fun c11 => ?_) (fun c11 => ?_)
            · skip
              have c11 := (fa_le _ _).mp c11
              refine And.intro (fun h9 => absurd h9 (by decide)) (fun _ => ?_)
              refine And.intro (fun h9 => absurd h9 (by decide)) (fun _ => ?_)
              refine And.intro (fun h9 => absurd h9 (by decide)) (fun _ => ?_)
              refine And.intro (t_bool (by omega)) ?_
              exact hpost _ _ _ _ _ _ _ _ _ _ (by omega) h_tx_place_7 h_tr_comingFruits h_tr_comingStandings
            · skip
              have c11 := mt (fa_le _ _).mpr c11
              refine And.intro (t_in (by omega)) ?_
              intro v12 ev12
              have f13 := h_tx_signs aFZ.toNatClampNeg
              have hv12 := congrArg Int32.toInt ev12
              refine And.intro (fun c14 => ?_) (fun c14 => ?_)
              · skip
                have c14 := (fa_eq _ _).mp c14
                intro v15 ev15
                have f16 : Int32.toInt (aFZ + 1) = Int32.toInt aFZ + Int32.toInt (1 : Int32) := ta_add _ _ (by omega)
                rw [← ev15] at f16
                refine And.intro (fun _ => ?_) (fun h9 => absurd h9 (by decide))
                refine t_X8_readNumber (by omega) (by omega) (by omega) h_tx_signs (fun r18 aBu h_tx_place_17 => ?_)
                have f20 := tp_r r18
                refine And.intro (fun c19 => ?_) (fun c19 => ?_)
                · skip
                  have c19 := (fa_eq _ _).mp c19
                  refine And.intro (fun h9 => absurd h9 (by decide)) (fun _ => ?_)
                  refine And.intro (t_bool (by omega)) ?_
                  exact hpost _ _ _ _ _ _ _ _ _ _ (by omega) h_tx_place_17 h_tr_comingFruits h_tr_comingStandings
                · skip
                  have c19 := mt (fa_eq _ _).mpr c19
                  refine And.intro (fun c21 => ?_) (fun c21 => ?_)
                  · skip
                    have c21 := (fa_lt _ _).mp c21
                    exfalso; omega
                  · skip
                    have c21 := mt (fa_lt _ _).mpr c21
                    refine And.intro (fun c22 => ?_) (fun c22 => ?_)
                    · skip
                      have c22 := (fa_le _ _).mp c22
                      exfalso; omega
                    · skip
                      have c22 := mt (fa_le _ _).mpr c22
                      refine And.intro (fun c23 => ?_) (fun c23 => ?_)
                      · skip
                        have c23 := (fa_lt _ _).mp c23
                        refine And.intro (t_in (by omega)) ?_
                        refine And.intro (t_in (by omega)) ?_
                        refine And.intro (fun _ => ?_) (fun h9 => absurd h9 (by decide))
                        intro v24 ev24
                        have f25 : Int32.toInt (aI + 1) = Int32.toInt aI + Int32.toInt (1 : Int32) := ta_add _ _ (by omega)
                        rw [← ev24] at f25
                        refine And.intro (t_bool (by omega)) ?_
                        exact hpost _ _ _ _ _ _ _ _ _ _ (by omega) h_tx_place_17 h_tr_comingFruits (by omega)
                      · skip
                        have c23 := mt (fa_lt _ _).mpr c23
                        exfalso; omega
              · skip
                have c14 := mt (fa_eq _ _).mpr c14
                refine And.intro (fun h9 => absurd h9 (by decide)) (fun _ => ?_)
                refine And.intro (fun h9 => absurd h9 (by decide)) (fun _ => ?_)
                refine And.intro (t_bool (by omega)) ?_
                exact hpost _ _ _ _ _ _ _ _ _ _ (by omega) h_tx_place_7 h_tr_comingFruits h_tr_comingStandings
        · skip
          have c6 := mt (fa_le _ _).mpr c6
          intro v26 ev26
          have f27 : Int32.toInt (qJ + 1) = Int32.toInt qJ + Int32.toInt (1 : Int32) := ta_add _ _ (by omega)
          rw [← ev26] at f27
          refine t_X8_readNumber (by omega) (by omega) (by omega) h_tx_signs (fun r29 tx_place_28 h_tx_place_28 => ?_)
          have f31 := tp_r r29
          refine And.intro (fun c30 => ?_) (fun c30 => ?_)
          · skip
            have c30 := (fa_eq _ _).mp c30
            refine And.intro (fun h9 => absurd h9 (by decide)) (fun _ => ?_)
            refine And.intro (t_bool (by omega)) ?_
            exact hpost _ _ _ _ _ _ _ _ _ _ (by omega) h_tx_place_28 h_tr_comingFruits h_tr_comingStandings
          · skip
            have c30 := mt (fa_eq _ _).mpr c30
            refine And.intro (fun c32 => ?_) (fun c32 => ?_)
            · skip
              have c32 := (fa_le _ _).mp c32
              refine And.intro (fun h9 => absurd h9 (by decide)) (fun _ => ?_)
              refine And.intro (fun h9 => absurd h9 (by decide)) (fun _ => ?_)
              refine And.intro (fun h9 => absurd h9 (by decide)) (fun _ => ?_)
              refine And.intro (t_bool (by omega)) ?_
              exact hpost _ _ _ _ _ _ _ _ _ _ (by omega) h_tx_place_28 h_tr_comingFruits h_tr_comingStandings
            · skip
              have c32 := mt (fa_le _ _).mpr c32
              refine And.intro (t_in (by omega)) ?_
              intro v33 ev33
              have f34 := h_tx_signs tx_place_28.toNatClampNeg
              have hv33 := congrArg Int32.toInt ev33
              refine And.intro (fun c35 => ?_) (fun c35 => ?_)
              · skip
                have c35 := (fa_eq _ _).mp c35
                intro v36 ev36
                have f37 : Int32.toInt (tx_place_28 + 1) = Int32.toInt tx_place_28 + Int32.toInt (1 : Int32) := ta_add _ _ (by omega)
                rw [← ev36] at f37
                refine And.intro (fun _ => ?_) (fun h9 => absurd h9 (by decide))
                refine t_X8_readNumber (by omega) (by omega) (by omega) h_tx_signs (fun r39 tx_place_38 h_tx_place_38 => ?_)
                have f41 := tp_r r39
                refine And.intro (fun c40 => ?_) (fun c40 => ?_)
                · skip
                  have c40 := (fa_eq _ _).mp c40
                  refine And.intro (fun h9 => absurd h9 (by decide)) (fun _ => ?_)
                  refine And.intro (t_bool (by omega)) ?_
                  exact hpost _ _ _ _ _ _ _ _ _ _ (by omega) h_tx_place_38 h_tr_comingFruits h_tr_comingStandings
                · skip
                  have c40 := mt (fa_eq _ _).mpr c40
                  refine And.intro (fun c42 => ?_) (fun c42 => ?_)
                  · skip
                    have c42 := (fa_lt _ _).mp c42
                    exfalso; omega
                  · skip
                    have c42 := mt (fa_lt _ _).mpr c42
                    refine And.intro (fun c43 => ?_) (fun c43 => ?_)
                    · skip
                      have c43 := (fa_le _ _).mp c43
                      exfalso; omega
                    · skip
                      have c43 := mt (fa_le _ _).mpr c43
                      refine And.intro (fun c44 => ?_) (fun c44 => ?_)
                      · skip
                        have c44 := (fa_lt _ _).mp c44
                        refine And.intro (t_in (by omega)) ?_
                        refine And.intro (t_in (by omega)) ?_
                        refine And.intro (fun _ => ?_) (fun h9 => absurd h9 (by decide))
                        intro v45 ev45
                        have f46 : Int32.toInt (aI + 1) = Int32.toInt aI + Int32.toInt (1 : Int32) := ta_add _ _ (by omega)
                        rw [← ev45] at f46
                        refine And.intro (t_bool (by omega)) ?_
                        exact hpost _ _ _ _ _ _ _ _ _ _ (by omega) h_tx_place_38 h_tr_comingFruits (by omega)
                      · skip
                        have c44 := mt (fa_lt _ _).mpr c44
                        exfalso; omega
              · skip
                have c35 := mt (fa_eq _ _).mpr c35
                refine And.intro (fun h9 => absurd h9 (by decide)) (fun _ => ?_)
                refine And.intro (fun h9 => absurd h9 (by decide)) (fun _ => ?_)
                refine And.intro (t_bool (by omega)) ?_
                exact hpost _ _ _ _ _ _ _ _ _ _ (by omega) h_tx_place_28 h_tr_comingFruits h_tr_comingStandings
set_option maxHeartbeats 8000000 in
set_option maxRecDepth 200000 in
theorem t_X3_readLine {post : Int32 → Int32 → Int32 → Int32 → (Nat → Int32) → (Nat → Int32) → (Nat → Int32) → (Nat → Int32) → (Nat → Int32) → (Nat → Int32) → Prop} {qJ rY : Int32} {qM : Nat → Int32} {bI aI : Int32} {wD gF pE qA nJ nY : Nat → Int32} (h_tx_place : 0 ≤ Int32.toInt qJ ∧ Int32.toInt qJ ≤ 79) (h_tx_stop : 0 ≤ Int32.toInt rY ∧ Int32.toInt rY ≤ 79) (h_tx_signs : ∀ k : Nat, 0 ≤ Int32.toInt (qM k) ∧ Int32.toInt (qM k) ≤ 65535) (h_tr_comingFruits : 0 ≤ Int32.toInt bI ∧ Int32.toInt bI ≤ 16) (h_tr_comingStandings : 0 ≤ Int32.toInt aI ∧ Int32.toInt aI ≤ 8) (hpost : ∀ (r : Int32) (tx_place' : Int32) (tr_comingFruits' : Int32) (tr_comingStandings' : Int32) (tr_x' : Nat → Int32) (tr_height' : Nat → Int32) (tr_worth' : Nat → Int32) (tr_ripe' : Nat → Int32) (tr_foot' : Nat → Int32) (tr_fork' : Nat → Int32), (0 ≤ Int32.toInt r ∧ Int32.toInt r ≤ 1) → (0 ≤ Int32.toInt tx_place' ∧ Int32.toInt tx_place' ≤ 80) → (0 ≤ Int32.toInt tr_comingFruits' ∧ Int32.toInt tr_comingFruits' ≤ 16) → (0 ≤ Int32.toInt tr_comingStandings' ∧ Int32.toInt tr_comingStandings' ≤ 8) → post r tx_place' tr_comingFruits' tr_comingStandings' tr_x' tr_height' tr_worth' tr_ripe' tr_foot' tr_fork') : wp_X3_readLine post qJ rY qM bI aI wD gF pE qA nJ nY := by
  have l0 := li_1
  have l1 := li_102
  have l2 := li_16
  refine And.intro (fun c47 => ?_) (fun c47 => ?_)
  · skip
    have c47 := (fa_le _ _).mp c47
    refine And.intro (fun _ => ?_) (fun h9 => absurd h9 (by decide))
    exact ts_X3_readLine_28 rY qM h_tx_stop h_tx_signs hpost qJ bI aI wD gF pE qA nJ nY h_tx_place h_tr_comingFruits h_tr_comingStandings
  · skip
    have c47 := mt (fa_le _ _).mpr c47
    refine And.intro (t_in (by omega)) ?_
    intro v48 ev48
    have f49 := h_tx_signs qJ.toNatClampNeg
    have hv48 := congrArg Int32.toInt ev48
    refine And.intro (fun c50 => ?_) (fun c50 => ?_)
    · skip
      have c50 := mt (fa_eq _ _).mpr c50
      exact ts_X3_readLine_28 rY qM h_tx_stop h_tx_signs hpost qJ bI aI wD gF pE qA nJ nY h_tx_place h_tr_comingFruits h_tr_comingStandings
    · skip
      have c50 := (fa_eq _ _).mp c50
      refine And.intro (fun c51 => ?_) (fun c51 => ?_)
      · skip
        have c51 := (fa_le _ _).mp c51
        exact ts_X3_readLine_28 rY qM h_tx_stop h_tx_signs hpost qJ bI aI wD gF pE qA nJ nY h_tx_place h_tr_comingFruits h_tr_comingStandings
      · skip
        have c51 := mt (fa_le _ _).mpr c51
        refine And.intro (fun c52 => ?_) (fun c52 => ?_)
        · skip
          have c52 := (fa_le _ _).mp c52
          refine t_X3_readFruit (by omega) (by omega) h_tx_signs (by omega) (fun r59 tx_place_53 tr_comingFruits_54 tr_x_55 tr_height_56 tr_worth_57 tr_ripe_58 h_r59 h_tx_place_53 h_tr_comingFruits_54 => ?_)
          refine And.intro (t_bool (by omega)) ?_
          exact hpost _ _ _ _ _ _ _ _ _ _ h_r59 h_tx_place_53 h_tr_comingFruits_54 h_tr_comingStandings
        · skip
          have c52 := mt (fa_le _ _).mpr c52
          intro v60 ev60
          have f61 : Int32.toInt (qJ + 1) = Int32.toInt qJ + Int32.toInt (1 : Int32) := ta_add _ _ (by omega)
          rw [← ev60] at f61
          refine t_X3_readFruit (by omega) (by omega) h_tx_signs (by omega) (fun r68 tx_place_62 tr_comingFruits_63 tr_x_64 tr_height_65 tr_worth_66 tr_ripe_67 h_r68 h_tx_place_62 h_tr_comingFruits_63 => ?_)
          refine And.intro (t_bool (by omega)) ?_
          exact hpost _ _ _ _ _ _ _ _ _ _ h_r68 h_tx_place_62 h_tr_comingFruits_63 h_tr_comingStandings
set_option maxHeartbeats 8000000 in
set_option maxRecDepth 200000 in
theorem ts_X3_readLines_18 {post next : Int32 → Int32 → Int32 → Int32 → (Nat → Int32) → (Nat → Int32) → (Nat → Int32) → (Nat → Int32) → (Nat → Int32) → (Nat → Int32) → Prop} {n18 : Int} (rY : Int32) (qM : Nat → Int32) (bZ bD : Int32) (h_tx_stop : 0 ≤ Int32.toInt rY ∧ Int32.toInt rY ≤ 79) (h_tx_signs : ∀ k : Nat, 0 ≤ Int32.toInt (qM k) ∧ Int32.toInt (qM k) ≤ 65535) (h_tr_fruits : 0 ≤ Int32.toInt bZ ∧ Int32.toInt bZ ≤ 16) (h_tr_standings : 0 ≤ Int32.toInt bD ∧ Int32.toInt bD ≤ 8) (hpost : ∀ (r : Int32) (tx_place' : Int32) (tr_comingFruits' : Int32) (tr_comingStandings' : Int32) (tr_x' : Nat → Int32) (tr_height' : Nat → Int32) (tr_worth' : Nat → Int32) (tr_ripe' : Nat → Int32) (tr_foot' : Nat → Int32) (tr_fork' : Nat → Int32), (-1 ≤ Int32.toInt r ∧ Int32.toInt r ≤ 79) → (0 ≤ Int32.toInt tx_place' ∧ Int32.toInt tx_place' ≤ 80) → (0 ≤ Int32.toInt tr_comingFruits' ∧ Int32.toInt tr_comingFruits' ≤ 16) → (0 ≤ Int32.toInt tr_comingStandings' ∧ Int32.toInt tr_comingStandings' ≤ 8) → post r tx_place' tr_comingFruits' tr_comingStandings' tr_x' tr_height' tr_worth' tr_ripe' tr_foot' tr_fork') (hKn : ∀ (x2 : Int32) (qJ : Int32) (bI : Int32) (aI : Int32) (wD : Nat → Int32) (gF : Nat → Int32) (pE : Nat → Int32) (qA : Nat → Int32) (nJ : Nat → Int32) (nY : Nat → Int32), (1 ≤ Int32.toInt x2 ∧ Int32.toInt x2 ≤ 79) → (0 ≤ Int32.toInt qJ ∧ Int32.toInt qJ ≤ 79) → (0 ≤ Int32.toInt bI ∧ Int32.toInt bI ≤ 16) → (0 ≤ Int32.toInt aI ∧ Int32.toInt aI ≤ 8) → (79 - Int32.toInt x2 < n18) → next x2 qJ bI aI wD gF pE qA nJ nY) (x2 qJ bI aI : Int32) (wD gF pE qA nJ nY : Nat → Int32) (h_x2 : 1 ≤ Int32.toInt x2 ∧ Int32.toInt x2 ≤ 79) (h_tx_place : 0 ≤ Int32.toInt qJ ∧ Int32.toInt qJ ≤ 79) (h_tr_comingFruits : 0 ≤ Int32.toInt bI ∧ Int32.toInt bI ≤ 16) (h_tr_comingStandings : 0 ≤ Int32.toInt aI ∧ Int32.toInt aI ≤ 8) (hn18 : 79 - Int32.toInt x2 ≤ n18) : ws_X3_readLines_18 post next rY qM bZ bD x2 qJ bI aI wD gF pE qA nJ nY := by
  have l0 := li_m1
  have l1 := li_0
  have l2 := li_1
  have l3 := li_59
  have l4 := li_76
  refine And.intro (fun c1 => ?_) (fun c1 => ?_)
  · skip
    have c1 := (fa_lt _ _).mp c1
    exact hpost _ _ _ _ _ _ _ _ _ _ (by omega) (by omega) h_tr_comingFruits h_tr_comingStandings
  · skip
    have c1 := mt (fa_lt _ _).mpr c1
    refine t_X3_readLine h_tx_place h_tx_stop h_tx_signs h_tr_comingFruits h_tr_comingStandings (fun r11 xO aAG aAk tr_x_5 aCz aEp aGx aGy aEq h_r11 h_tx_place_2 h_tr_comingFruits_3 h_tr_comingStandings_4 => ?_)
    refine And.intro (fun c12 => ?_) (fun c12 => ?_)
    · skip
      have c12 := mt (fa_eq _ _).mpr c12
      refine And.intro (fun c13 => ?_) (fun c13 => ?_)
      · skip
        have c13 := (fa_le _ _).mp c13
        refine And.intro (fun h9 => absurd h9 (by decide)) (fun _ => ?_)
        refine And.intro (fun h9 => absurd h9 (by decide)) (fun _ => ?_)
        exact hpost _ _ _ _ _ _ _ _ _ _ (by omega) h_tx_place_2 h_tr_comingFruits_3 h_tr_comingStandings_4
      · skip
        have c13 := mt (fa_le _ _).mpr c13
        refine And.intro (t_in (by omega)) ?_
        intro v14 ev14
        have f15 := h_tx_signs xO.toNatClampNeg
        have hv14 := congrArg Int32.toInt ev14
        refine And.intro (fun c16 => ?_) (fun c16 => ?_)
        · skip
          have c16 := (fa_eq _ _).mp c16
          intro v17 ev17
          have f18 : Int32.toInt (xO + 1) = Int32.toInt xO + Int32.toInt (1 : Int32) := ta_add _ _ (by omega)
          rw [← ev17] at f18
          refine And.intro (fun _ => ?_) (fun h9 => absurd h9 (by decide))
          intro v19 ev19
          have f20 : Int32.toInt (x2 + 1) = Int32.toInt x2 + Int32.toInt (1 : Int32) := ta_add _ _ (by omega)
          rw [← ev19] at f20
          exact hKn v19 v17 aAG aAk tr_x_5 aCz aEp aGx aGy aEq (by omega) (by omega) h_tr_comingFruits_3 h_tr_comingStandings_4 (by omega)
        · skip
          have c16 := mt (fa_eq _ _).mpr c16
          refine And.intro (fun h9 => absurd h9 (by decide)) (fun _ => ?_)
          exact hpost _ _ _ _ _ _ _ _ _ _ (by omega) h_tx_place_2 h_tr_comingFruits_3 h_tr_comingStandings_4
    · skip
      have c12 := (fa_eq _ _).mp c12
      exact hpost _ _ _ _ _ _ _ _ _ _ (by omega) h_tx_place_2 h_tr_comingFruits_3 h_tr_comingStandings_4
set_option maxHeartbeats 8000000 in
set_option maxRecDepth 200000 in
theorem tb_X3_readLines_18 {post : Int32 → Int32 → Int32 → Int32 → (Nat → Int32) → (Nat → Int32) → (Nat → Int32) → (Nat → Int32) → (Nat → Int32) → (Nat → Int32) → Prop} (rY : Int32) (qM : Nat → Int32) (bZ bD : Int32) (h_tx_stop : 0 ≤ Int32.toInt rY ∧ Int32.toInt rY ≤ 79) (h_tx_signs : ∀ k : Nat, 0 ≤ Int32.toInt (qM k) ∧ Int32.toInt (qM k) ≤ 65535) (h_tr_fruits : 0 ≤ Int32.toInt bZ ∧ Int32.toInt bZ ≤ 16) (h_tr_standings : 0 ≤ Int32.toInt bD ∧ Int32.toInt bD ≤ 8) (hpost : ∀ (r : Int32) (tx_place' : Int32) (tr_comingFruits' : Int32) (tr_comingStandings' : Int32) (tr_x' : Nat → Int32) (tr_height' : Nat → Int32) (tr_worth' : Nat → Int32) (tr_ripe' : Nat → Int32) (tr_foot' : Nat → Int32) (tr_fork' : Nat → Int32), (-1 ≤ Int32.toInt r ∧ Int32.toInt r ≤ 79) → (0 ≤ Int32.toInt tx_place' ∧ Int32.toInt tx_place' ≤ 80) → (0 ≤ Int32.toInt tr_comingFruits' ∧ Int32.toInt tr_comingFruits' ≤ 16) → (0 ≤ Int32.toInt tr_comingStandings' ∧ Int32.toInt tr_comingStandings' ≤ 8) → post r tx_place' tr_comingFruits' tr_comingStandings' tr_x' tr_height' tr_worth' tr_ripe' tr_foot' tr_fork') : ∀ (n : Nat) (x2 qJ bI aI : Int32) (wD gF pE qA nJ nY : Nat → Int32), (1 ≤ Int32.toInt x2 ∧ Int32.toInt x2 ≤ 79) → (0 ≤ Int32.toInt qJ ∧ Int32.toInt qJ ≤ 79) → (0 ≤ Int32.toInt bI ∧ Int32.toInt bI ≤ 16) → (0 ≤ Int32.toInt aI ∧ Int32.toInt aI ≤ 8) → (79 - Int32.toInt x2 < (n : Int)) → wb_X3_readLines_18 post rY qM bZ bD n x2 qJ bI aI wD gF pE qA nJ nY := by
  intro n
  induction n with
  | zero =>
    intro x2 qJ bI aI wD gF pE qA nJ nY h_x2 h_tx_place h_tr_comingFruits h_tr_comingStandings hm
    exfalso; omega
  | succ n ih =>
    intro x2 qJ bI aI wD gF pE qA nJ nY h_x2 h_tx_place h_tr_comingFruits h_tr_comingStandings hm
    exact ts_X3_readLines_18 rY qM bZ bD h_tx_stop h_tx_signs h_tr_fruits h_tr_standings hpost ih x2 qJ bI aI wD gF pE qA nJ nY h_x2 h_tx_place h_tr_comingFruits h_tr_comingStandings (by omega)
set_option maxHeartbeats 8000000 in
set_option maxRecDepth 200000 in
theorem t_X3_readLines {post : Int32 → Int32 → Int32 → Int32 → (Nat → Int32) → (Nat → Int32) → (Nat → Int32) → (Nat → Int32) → (Nat → Int32) → (Nat → Int32) → Prop} {qJ rY : Int32} {qM : Nat → Int32} {bZ bD bI aI : Int32} {wD gF pE qA nJ nY : Nat → Int32} (h_tx_place : 0 ≤ Int32.toInt qJ ∧ Int32.toInt qJ ≤ 0) (h_tx_stop : 0 ≤ Int32.toInt rY ∧ Int32.toInt rY ≤ 79) (h_tx_signs : ∀ k : Nat, 0 ≤ Int32.toInt (qM k) ∧ Int32.toInt (qM k) ≤ 65535) (h_tr_fruits : 0 ≤ Int32.toInt bZ ∧ Int32.toInt bZ ≤ 16) (h_tr_standings : 0 ≤ Int32.toInt bD ∧ Int32.toInt bD ≤ 8) (h_tr_comingFruits : 0 ≤ Int32.toInt bI ∧ Int32.toInt bI ≤ 16) (h_tr_comingStandings : 0 ≤ Int32.toInt aI ∧ Int32.toInt aI ≤ 8) (hpost : ∀ (r : Int32) (tx_place' : Int32) (tr_comingFruits' : Int32) (tr_comingStandings' : Int32) (tr_x' : Nat → Int32) (tr_height' : Nat → Int32) (tr_worth' : Nat → Int32) (tr_ripe' : Nat → Int32) (tr_foot' : Nat → Int32) (tr_fork' : Nat → Int32), (-1 ≤ Int32.toInt r ∧ Int32.toInt r ≤ 79) → (0 ≤ Int32.toInt tx_place' ∧ Int32.toInt tx_place' ≤ 80) → (0 ≤ Int32.toInt tr_comingFruits' ∧ Int32.toInt tr_comingFruits' ≤ 16) → (0 ≤ Int32.toInt tr_comingStandings' ∧ Int32.toInt tr_comingStandings' ≤ 8) → post r tx_place' tr_comingFruits' tr_comingStandings' tr_x' tr_height' tr_worth' tr_ripe' tr_foot' tr_fork') : wp_X3_readLines post qJ rY qM bZ bD bI aI wD gF pE qA nJ nY := by
  have l0 := li_1
  exact ⟨80, tb_X3_readLines_18 rY qM bZ bD h_tx_stop h_tx_signs h_tr_fruits h_tr_standings hpost _ 1 qJ bZ bD wD gF pE qA nJ nY (by omega) (by omega) h_tr_fruits h_tr_standings (by omega)⟩
set_option maxHeartbeats 8000000 in
set_option maxRecDepth 200000 in
theorem ts_X9_orchard_94 {post : Int32 → Int32 → Int32 → Int32 → Int32 → Int32 → Int32 → Int32 → (Nat → Int32) → (Nat → Int32) → (Nat → Int32) → (Nat → Int32) → (Nat → Int32) → (Nat → Int32) → Int32 → (Nat → Int32) → Prop} (qM : Nat → Int32) (h_tx_signs : ∀ k : Nat, 0 ≤ Int32.toInt (qM k) ∧ Int32.toInt (qM k) ≤ 65535) (hpost : ∀ (r : Int32) (tx_length' : Int32) (tx_place' : Int32) (tx_stop' : Int32) (tr_fruits' : Int32) (tr_standings' : Int32) (tr_comingFruits' : Int32) (tr_comingStandings' : Int32) (tr_x' : Nat → Int32) (tr_height' : Nat → Int32) (tr_worth' : Nat → Int32) (tr_ripe' : Nat → Int32) (tr_foot' : Nat → Int32) (tr_fork' : Nat → Int32) (pa_undoable' : Int32) (pa_isKept' : Nat → Int32), (-100 ≤ Int32.toInt r ∧ Int32.toInt r ≤ 79) → (0 ≤ Int32.toInt tx_length' ∧ Int32.toInt tx_length' ≤ 0) → (0 ≤ Int32.toInt tx_place' ∧ Int32.toInt tx_place' ≤ 80) → (0 ≤ Int32.toInt tx_stop' ∧ Int32.toInt tx_stop' ≤ 79) → (0 ≤ Int32.toInt tr_fruits' ∧ Int32.toInt tr_fruits' ≤ 16) → (0 ≤ Int32.toInt tr_standings' ∧ Int32.toInt tr_standings' ≤ 8) → (0 ≤ Int32.toInt tr_comingFruits' ∧ Int32.toInt tr_comingFruits' ≤ 16) → (0 ≤ Int32.toInt tr_comingStandings' ∧ Int32.toInt tr_comingStandings' ≤ 8) → (0 ≤ Int32.toInt pa_undoable' ∧ Int32.toInt pa_undoable' ≤ 12) → (∀ k : Nat, 0 ≤ Int32.toInt (pa_isKept' k) ∧ Int32.toInt (pa_isKept' k) ≤ 1) → post r tx_length' tx_place' tx_stop' tr_fruits' tr_standings' tr_comingFruits' tr_comingStandings' tr_x' tr_height' tr_worth' tr_ripe' tr_foot' tr_fork' pa_undoable' pa_isKept') (x3 qI qJ rY bZ bD bI aI : Int32) (wD gF pE qA nJ nY : Nat → Int32) (oE : Int32) (tJ : Nat → Int32) (h_x3 : -100 ≤ Int32.toInt x3 ∧ Int32.toInt x3 ≤ 79) (h_tx_length : 0 ≤ Int32.toInt qI ∧ Int32.toInt qI ≤ 80) (h_tx_place : 0 ≤ Int32.toInt qJ ∧ Int32.toInt qJ ≤ 80) (h_tx_stop : 0 ≤ Int32.toInt rY ∧ Int32.toInt rY ≤ 79) (h_tr_fruits : 0 ≤ Int32.toInt bZ ∧ Int32.toInt bZ ≤ 16) (h_tr_standings : 0 ≤ Int32.toInt bD ∧ Int32.toInt bD ≤ 8) (h_tr_comingFruits : 0 ≤ Int32.toInt bI ∧ Int32.toInt bI ≤ 16) (h_tr_comingStandings : 0 ≤ Int32.toInt aI ∧ Int32.toInt aI ≤ 8) (h_pa_undoable : 0 ≤ Int32.toInt oE ∧ Int32.toInt oE ≤ 12) (h_pa_isKept : ∀ k : Nat, 0 ≤ Int32.toInt (tJ k) ∧ Int32.toInt (tJ k) ≤ 1) : ws_X9_orchard_94 post qM x3 qI qJ rY bZ bD bI aI wD gF pE qA nJ nY oE tJ := by
  have l0 := li_0
  exact hpost _ _ _ _ _ _ _ _ _ _ _ _ _ _ _ _ h_x3 (by omega) h_tx_place h_tx_stop h_tr_fruits h_tr_standings h_tr_comingFruits h_tr_comingStandings h_pa_undoable h_pa_isKept
set_option maxHeartbeats 8000000 in
set_option maxRecDepth 200000 in
theorem ts_X9_orchard_71 {post : Int32 → Int32 → Int32 → Int32 → Int32 → Int32 → Int32 → Int32 → (Nat → Int32) → (Nat → Int32) → (Nat → Int32) → (Nat → Int32) → (Nat → Int32) → (Nat → Int32) → Int32 → (Nat → Int32) → Prop} (qM : Nat → Int32) (h_tx_signs : ∀ k : Nat, 0 ≤ Int32.toInt (qM k) ∧ Int32.toInt (qM k) ≤ 65535) (hpost : ∀ (r : Int32) (tx_length' : Int32) (tx_place' : Int32) (tx_stop' : Int32) (tr_fruits' : Int32) (tr_standings' : Int32) (tr_comingFruits' : Int32) (tr_comingStandings' : Int32) (tr_x' : Nat → Int32) (tr_height' : Nat → Int32) (tr_worth' : Nat → Int32) (tr_ripe' : Nat → Int32) (tr_foot' : Nat → Int32) (tr_fork' : Nat → Int32) (pa_undoable' : Int32) (pa_isKept' : Nat → Int32), (-100 ≤ Int32.toInt r ∧ Int32.toInt r ≤ 79) → (0 ≤ Int32.toInt tx_length' ∧ Int32.toInt tx_length' ≤ 0) → (0 ≤ Int32.toInt tx_place' ∧ Int32.toInt tx_place' ≤ 80) → (0 ≤ Int32.toInt tx_stop' ∧ Int32.toInt tx_stop' ≤ 79) → (0 ≤ Int32.toInt tr_fruits' ∧ Int32.toInt tr_fruits' ≤ 16) → (0 ≤ Int32.toInt tr_standings' ∧ Int32.toInt tr_standings' ≤ 8) → (0 ≤ Int32.toInt tr_comingFruits' ∧ Int32.toInt tr_comingFruits' ≤ 16) → (0 ≤ Int32.toInt tr_comingStandings' ∧ Int32.toInt tr_comingStandings' ≤ 8) → (0 ≤ Int32.toInt pa_undoable' ∧ Int32.toInt pa_undoable' ≤ 12) → (∀ k : Nat, 0 ≤ Int32.toInt (pa_isKept' k) ∧ Int32.toInt (pa_isKept' k) ≤ 1) → post r tx_length' tx_place' tx_stop' tr_fruits' tr_standings' tr_comingFruits' tr_comingStandings' tr_x' tr_height' tr_worth' tr_ripe' tr_foot' tr_fork' pa_undoable' pa_isKept') (x1 x2 k0 qI qJ rY bZ bD bI aI : Int32) (wD gF pE qA nJ nY : Nat → Int32) (oE : Int32) (tJ : Nat → Int32) (h_x1 : -1 ≤ Int32.toInt x1 ∧ Int32.toInt x1 ≤ 79) (h_x2 : 0 ≤ Int32.toInt x2 ∧ Int32.toInt x2 ≤ 1) (h_k0 : -100 ≤ Int32.toInt k0 ∧ Int32.toInt k0 ≤ 79) (h_tx_length : 0 ≤ Int32.toInt qI ∧ Int32.toInt qI ≤ 80) (h_tx_place : 0 ≤ Int32.toInt qJ ∧ Int32.toInt qJ ≤ 80) (h_tx_stop : 0 ≤ Int32.toInt rY ∧ Int32.toInt rY ≤ 79) (h_tr_fruits : 0 ≤ Int32.toInt bZ ∧ Int32.toInt bZ ≤ 16) (h_tr_standings : 0 ≤ Int32.toInt bD ∧ Int32.toInt bD ≤ 8) (h_tr_comingFruits : 0 ≤ Int32.toInt bI ∧ Int32.toInt bI ≤ 16) (h_tr_comingStandings : 0 ≤ Int32.toInt aI ∧ Int32.toInt aI ≤ 8) (h_pa_undoable : 0 ≤ Int32.toInt oE ∧ Int32.toInt oE ≤ 12) (h_pa_isKept : ∀ k : Nat, 0 ≤ Int32.toInt (tJ k) ∧ Int32.toInt (tJ k) ≤ 1) : ws_X9_orchard_71 post qM x1 x2 k0 qI qJ rY bZ bD bI aI wD gF pE qA nJ nY oE tJ := by
  have l0 := li_0
  refine And.intro (fun c1 => ?_) (fun c1 => ?_)
  · skip
    have c1 := (fa_eq _ _).mp c1
    exact ts_X9_orchard_94 qM h_tx_signs hpost k0 qI qJ rY bZ bD bI aI wD gF pE qA nJ nY oE tJ h_k0 h_tx_length h_tx_place h_tx_stop h_tr_fruits h_tr_standings h_tr_comingFruits h_tr_comingStandings h_pa_undoable h_pa_isKept
  · skip
    have c1 := mt (fa_eq _ _).mpr c1
    refine And.intro (fun c2 => ?_) (fun c2 => ?_)
    · skip
      have c2 := (fa_le _ _).mp c2
      exact ts_X9_orchard_94 qM h_tx_signs hpost k0 qI qJ rY bZ bD bI aI wD gF pE qA nJ nY oE tJ h_k0 h_tx_length h_tx_place h_tx_stop h_tr_fruits h_tr_standings h_tr_comingFruits h_tr_comingStandings h_pa_undoable h_pa_isKept
    · skip
      have c2 := mt (fa_le _ _).mpr c2
      refine t_X4_forgetAll h_pa_undoable h_pa_isKept (fun pa_undoable_3 pa_isKept_4 h_pa_undoable_3 h_pa_isKept_4 => ?_)
      exact ts_X9_orchard_94 qM h_tx_signs hpost k0 qI qJ rY bI aI bI aI wD gF pE qA nJ nY pa_undoable_3 pa_isKept_4 h_k0 h_tx_length h_tx_place h_tx_stop h_tr_comingFruits h_tr_comingStandings h_tr_comingFruits h_tr_comingStandings (by omega) h_pa_isKept_4
set_option maxHeartbeats 8000000 in
set_option maxRecDepth 200000 in
theorem ts_X9_orchard_55 {post : Int32 → Int32 → Int32 → Int32 → Int32 → Int32 → Int32 → Int32 → (Nat → Int32) → (Nat → Int32) → (Nat → Int32) → (Nat → Int32) → (Nat → Int32) → (Nat → Int32) → Int32 → (Nat → Int32) → Prop} (qM : Nat → Int32) (h_tx_signs : ∀ k : Nat, 0 ≤ Int32.toInt (qM k) ∧ Int32.toInt (qM k) ≤ 65535) (hpost : ∀ (r : Int32) (tx_length' : Int32) (tx_place' : Int32) (tx_stop' : Int32) (tr_fruits' : Int32) (tr_standings' : Int32) (tr_comingFruits' : Int32) (tr_comingStandings' : Int32) (tr_x' : Nat → Int32) (tr_height' : Nat → Int32) (tr_worth' : Nat → Int32) (tr_ripe' : Nat → Int32) (tr_foot' : Nat → Int32) (tr_fork' : Nat → Int32) (pa_undoable' : Int32) (pa_isKept' : Nat → Int32), (-100 ≤ Int32.toInt r ∧ Int32.toInt r ≤ 79) → (0 ≤ Int32.toInt tx_length' ∧ Int32.toInt tx_length' ≤ 0) → (0 ≤ Int32.toInt tx_place' ∧ Int32.toInt tx_place' ≤ 80) → (0 ≤ Int32.toInt tx_stop' ∧ Int32.toInt tx_stop' ≤ 79) → (0 ≤ Int32.toInt tr_fruits' ∧ Int32.toInt tr_fruits' ≤ 16) → (0 ≤ Int32.toInt tr_standings' ∧ Int32.toInt tr_standings' ≤ 8) → (0 ≤ Int32.toInt tr_comingFruits' ∧ Int32.toInt tr_comingFruits' ≤ 16) → (0 ≤ Int32.toInt tr_comingStandings' ∧ Int32.toInt tr_comingStandings' ≤ 8) → (0 ≤ Int32.toInt pa_undoable' ∧ Int32.toInt pa_undoable' ≤ 12) → (∀ k : Nat, 0 ≤ Int32.toInt (pa_isKept' k) ∧ Int32.toInt (pa_isKept' k) ≤ 1) → post r tx_length' tx_place' tx_stop' tr_fruits' tr_standings' tr_comingFruits' tr_comingStandings' tr_x' tr_height' tr_worth' tr_ripe' tr_foot' tr_fork' pa_undoable' pa_isKept') (x1 k0 qI qJ rY bZ bD bI aI : Int32) (wD gF pE qA nJ nY : Nat → Int32) (oE : Int32) (tJ : Nat → Int32) (h_x1 : -1 ≤ Int32.toInt x1 ∧ Int32.toInt x1 ≤ 79) (h_k0 : 0 ≤ Int32.toInt k0 ∧ Int32.toInt k0 ≤ 1) (h_tx_length : 0 ≤ Int32.toInt qI ∧ Int32.toInt qI ≤ 80) (h_tx_place : 0 ≤ Int32.toInt qJ ∧ Int32.toInt qJ ≤ 80) (h_tx_stop : 0 ≤ Int32.toInt rY ∧ Int32.toInt rY ≤ 79) (h_tr_fruits : 0 ≤ Int32.toInt bZ ∧ Int32.toInt bZ ≤ 16) (h_tr_standings : 0 ≤ Int32.toInt bD ∧ Int32.toInt bD ≤ 8) (h_tr_comingFruits : 0 ≤ Int32.toInt bI ∧ Int32.toInt bI ≤ 16) (h_tr_comingStandings : 0 ≤ Int32.toInt aI ∧ Int32.toInt aI ≤ 8) (h_pa_undoable : 0 ≤ Int32.toInt oE ∧ Int32.toInt oE ≤ 12) (h_pa_isKept : ∀ k : Nat, 0 ≤ Int32.toInt (tJ k) ∧ Int32.toInt (tJ k) ≤ 1) : ws_X9_orchard_55 post qM x1 k0 qI qJ rY bZ bD bI aI wD gF pE qA nJ nY oE tJ := by
  have l0 := li_m1
  have l1 := li_0
  refine And.intro (fun c5 => ?_) (fun c5 => ?_)
  · skip
    have c5 := (fa_eq _ _).mp c5
    have f6 : Int32.toInt ((-1) - qJ) = Int32.toInt ((-1) : Int32) - Int32.toInt qJ := ta_sub _ _ (by omega)
    obtain ⟨w7, ew7⟩ : ∃ w9 : Int32, w9 = (-1) - qJ := ⟨_, rfl⟩
    rw [← ew7] at f6
    have key9 := ts_X9_orchard_71 qM h_tx_signs hpost x1 k0 w7 qI qJ rY bZ bD bI aI wD gF pE qA nJ nY oE tJ h_x1 h_k0 (by omega) h_tx_length h_tx_place h_tx_stop h_tr_fruits h_tr_standings h_tr_comingFruits h_tr_comingStandings h_pa_undoable h_pa_isKept
    subst ew7
    exact key9
  · skip
    have c5 := mt (fa_eq _ _).mpr c5
    exact ts_X9_orchard_71 qM h_tx_signs hpost x1 k0 x1 qI qJ rY bZ bD bI aI wD gF pE qA nJ nY oE tJ h_x1 h_k0 (by omega) h_tx_length h_tx_place h_tx_stop h_tr_fruits h_tr_standings h_tr_comingFruits h_tr_comingStandings h_pa_undoable h_pa_isKept
set_option maxHeartbeats 8000000 in
set_option maxRecDepth 200000 in
theorem ts_X9_orchard_54 {post : Int32 → Int32 → Int32 → Int32 → Int32 → Int32 → Int32 → Int32 → (Nat → Int32) → (Nat → Int32) → (Nat → Int32) → (Nat → Int32) → (Nat → Int32) → (Nat → Int32) → Int32 → (Nat → Int32) → Prop} (qM : Nat → Int32) (h_tx_signs : ∀ k : Nat, 0 ≤ Int32.toInt (qM k) ∧ Int32.toInt (qM k) ≤ 65535) (hpost : ∀ (r : Int32) (tx_length' : Int32) (tx_place' : Int32) (tx_stop' : Int32) (tr_fruits' : Int32) (tr_standings' : Int32) (tr_comingFruits' : Int32) (tr_comingStandings' : Int32) (tr_x' : Nat → Int32) (tr_height' : Nat → Int32) (tr_worth' : Nat → Int32) (tr_ripe' : Nat → Int32) (tr_foot' : Nat → Int32) (tr_fork' : Nat → Int32) (pa_undoable' : Int32) (pa_isKept' : Nat → Int32), (-100 ≤ Int32.toInt r ∧ Int32.toInt r ≤ 79) → (0 ≤ Int32.toInt tx_length' ∧ Int32.toInt tx_length' ≤ 0) → (0 ≤ Int32.toInt tx_place' ∧ Int32.toInt tx_place' ≤ 80) → (0 ≤ Int32.toInt tx_stop' ∧ Int32.toInt tx_stop' ≤ 79) → (0 ≤ Int32.toInt tr_fruits' ∧ Int32.toInt tr_fruits' ≤ 16) → (0 ≤ Int32.toInt tr_standings' ∧ Int32.toInt tr_standings' ≤ 8) → (0 ≤ Int32.toInt tr_comingFruits' ∧ Int32.toInt tr_comingFruits' ≤ 16) → (0 ≤ Int32.toInt tr_comingStandings' ∧ Int32.toInt tr_comingStandings' ≤ 8) → (0 ≤ Int32.toInt pa_undoable' ∧ Int32.toInt pa_undoable' ≤ 12) → (∀ k : Nat, 0 ≤ Int32.toInt (pa_isKept' k) ∧ Int32.toInt (pa_isKept' k) ≤ 1) → post r tx_length' tx_place' tx_stop' tr_fruits' tr_standings' tr_comingFruits' tr_comingStandings' tr_x' tr_height' tr_worth' tr_ripe' tr_foot' tr_fork' pa_undoable' pa_isKept') (x1 qI qJ rY bZ bD bI aI : Int32) (wD gF pE qA nJ nY : Nat → Int32) (oE : Int32) (tJ : Nat → Int32) (h_x1 : -1 ≤ Int32.toInt x1 ∧ Int32.toInt x1 ≤ 79) (h_tx_length : 0 ≤ Int32.toInt qI ∧ Int32.toInt qI ≤ 80) (h_tx_place : 0 ≤ Int32.toInt qJ ∧ Int32.toInt qJ ≤ 80) (h_tx_stop : 0 ≤ Int32.toInt rY ∧ Int32.toInt rY ≤ 79) (h_tr_fruits : 0 ≤ Int32.toInt bZ ∧ Int32.toInt bZ ≤ 16) (h_tr_standings : 0 ≤ Int32.toInt bD ∧ Int32.toInt bD ≤ 8) (h_tr_comingFruits : 0 ≤ Int32.toInt bI ∧ Int32.toInt bI ≤ 16) (h_tr_comingStandings : 0 ≤ Int32.toInt aI ∧ Int32.toInt aI ≤ 8) (h_pa_undoable : 0 ≤ Int32.toInt oE ∧ Int32.toInt oE ≤ 12) (h_pa_isKept : ∀ k : Nat, 0 ≤ Int32.toInt (tJ k) ∧ Int32.toInt (tJ k) ≤ 1) : ws_X9_orchard_54 post qM x1 qI qJ rY bZ bD bI aI wD gF pE qA nJ nY oE tJ := by
  have l0 := li_0
  exact ts_X9_orchard_55 qM h_tx_signs hpost x1 0 qI qJ rY bZ bD bI aI wD gF pE qA nJ nY oE tJ h_x1 (by omega) h_tx_length h_tx_place h_tx_stop h_tr_fruits h_tr_standings h_tr_comingFruits h_tr_comingStandings h_pa_undoable h_pa_isKept
set_option maxHeartbeats 8000000 in
set_option maxRecDepth 200000 in
theorem ts_X9_orchard_34 {post : Int32 → Int32 → Int32 → Int32 → Int32 → Int32 → Int32 → Int32 → (Nat → Int32) → (Nat → Int32) → (Nat → Int32) → (Nat → Int32) → (Nat → Int32) → (Nat → Int32) → Int32 → (Nat → Int32) → Prop} (qM : Nat → Int32) (h_tx_signs : ∀ k : Nat, 0 ≤ Int32.toInt (qM k) ∧ Int32.toInt (qM k) ≤ 65535) (hpost : ∀ (r : Int32) (tx_length' : Int32) (tx_place' : Int32) (tx_stop' : Int32) (tr_fruits' : Int32) (tr_standings' : Int32) (tr_comingFruits' : Int32) (tr_comingStandings' : Int32) (tr_x' : Nat → Int32) (tr_height' : Nat → Int32) (tr_worth' : Nat → Int32) (tr_ripe' : Nat → Int32) (tr_foot' : Nat → Int32) (tr_fork' : Nat → Int32) (pa_undoable' : Int32) (pa_isKept' : Nat → Int32), (-100 ≤ Int32.toInt r ∧ Int32.toInt r ≤ 79) → (0 ≤ Int32.toInt tx_length' ∧ Int32.toInt tx_length' ≤ 0) → (0 ≤ Int32.toInt tx_place' ∧ Int32.toInt tx_place' ≤ 80) → (0 ≤ Int32.toInt tx_stop' ∧ Int32.toInt tx_stop' ≤ 79) → (0 ≤ Int32.toInt tr_fruits' ∧ Int32.toInt tr_fruits' ≤ 16) → (0 ≤ Int32.toInt tr_standings' ∧ Int32.toInt tr_standings' ≤ 8) → (0 ≤ Int32.toInt tr_comingFruits' ∧ Int32.toInt tr_comingFruits' ≤ 16) → (0 ≤ Int32.toInt tr_comingStandings' ∧ Int32.toInt tr_comingStandings' ≤ 8) → (0 ≤ Int32.toInt pa_undoable' ∧ Int32.toInt pa_undoable' ≤ 12) → (∀ k : Nat, 0 ≤ Int32.toInt (pa_isKept' k) ∧ Int32.toInt (pa_isKept' k) ≤ 1) → post r tx_length' tx_place' tx_stop' tr_fruits' tr_standings' tr_comingFruits' tr_comingStandings' tr_x' tr_height' tr_worth' tr_ripe' tr_foot' tr_fork' pa_undoable' pa_isKept') (k0 qI qJ rY bZ bD bI aI : Int32) (wD gF pE qA nJ nY : Nat → Int32) (oE : Int32) (tJ : Nat → Int32) (h_k0 : -1 ≤ Int32.toInt k0 ∧ Int32.toInt k0 ≤ 79) (h_tx_length : 0 ≤ Int32.toInt qI ∧ Int32.toInt qI ≤ 80) (h_tx_place : 0 ≤ Int32.toInt qJ ∧ Int32.toInt qJ ≤ 80) (h_tx_stop : 0 ≤ Int32.toInt rY ∧ Int32.toInt rY ≤ 79) (h_tr_fruits : 0 ≤ Int32.toInt bZ ∧ Int32.toInt bZ ≤ 16) (h_tr_standings : 0 ≤ Int32.toInt bD ∧ Int32.toInt bD ≤ 8) (h_tr_comingFruits : 0 ≤ Int32.toInt bI ∧ Int32.toInt bI ≤ 16) (h_tr_comingStandings : 0 ≤ Int32.toInt aI ∧ Int32.toInt aI ≤ 8) (h_pa_undoable : 0 ≤ Int32.toInt oE ∧ Int32.toInt oE ≤ 12) (h_pa_isKept : ∀ k : Nat, 0 ≤ Int32.toInt (tJ k) ∧ Int32.toInt (tJ k) ≤ 1) : ws_X9_orchard_34 post qM k0 qI qJ rY bZ bD bI aI wD gF pE qA nJ nY oE tJ := by
  have l0 := li_m1
  have l1 := li_1
  refine And.intro (fun c8 => ?_) (fun c8 => ?_)
  · skip
    have c8 := (fa_eq _ _).mp c8
    exact ts_X9_orchard_54 qM h_tx_signs hpost k0 qI qJ rY bZ bD bI aI wD gF pE qA nJ nY oE tJ h_k0 h_tx_length h_tx_place h_tx_stop h_tr_fruits h_tr_standings h_tr_comingFruits h_tr_comingStandings h_pa_undoable h_pa_isKept
  · skip
    have c8 := mt (fa_eq _ _).mpr c8
    refine And.intro (fun c9 => ?_) (fun c9 => ?_)
    · skip
      have c9 := mt (fa_eq _ _).mpr c9
      refine And.intro (fun _ => ?_) (fun h9 => absurd h9 (by decide))
      exact ts_X9_orchard_54 qM h_tx_signs hpost k0 qI qJ rY bZ bD bI aI wD gF pE qA nJ nY oE tJ h_k0 h_tx_length h_tx_place h_tx_stop h_tr_fruits h_tr_standings h_tr_comingFruits h_tr_comingStandings h_pa_undoable h_pa_isKept
    · skip
      have c9 := (fa_eq _ _).mp c9
      refine And.intro (fun h9 => absurd h9 (by decide)) (fun _ => ?_)
      exact ts_X9_orchard_55 qM h_tx_signs hpost k0 1 qI qJ rY bZ bD bI aI wD gF pE qA nJ nY oE tJ h_k0 (by omega) h_tx_length h_tx_place h_tx_stop h_tr_fruits h_tr_standings h_tr_comingFruits h_tr_comingStandings h_pa_undoable h_pa_isKept
set_option maxHeartbeats 8000000 in
set_option maxRecDepth 200000 in
theorem t_X9_orchard {post : Int32 → Int32 → Int32 → Int32 → Int32 → Int32 → Int32 → Int32 → (Nat → Int32) → (Nat → Int32) → (Nat → Int32) → (Nat → Int32) → (Nat → Int32) → (Nat → Int32) → Int32 → (Nat → Int32) → Prop} {qI qJ rY : Int32} {qM : Nat → Int32} {bZ bD bI aI : Int32} {wD gF pE qA nJ nY : Nat → Int32} {oE : Int32} {tJ : Nat → Int32} (h_tx_length : 0 ≤ Int32.toInt qI ∧ Int32.toInt qI ≤ 80) (h_tx_place : 0 ≤ Int32.toInt qJ ∧ Int32.toInt qJ ≤ 80) (h_tx_stop : 0 ≤ Int32.toInt rY ∧ Int32.toInt rY ≤ 80) (h_tx_signs : ∀ k : Nat, 0 ≤ Int32.toInt (qM k) ∧ Int32.toInt (qM k) ≤ 65535) (h_tr_fruits : 0 ≤ Int32.toInt bZ ∧ Int32.toInt bZ ≤ 16) (h_tr_standings : 0 ≤ Int32.toInt bD ∧ Int32.toInt bD ≤ 8) (h_tr_comingFruits : 0 ≤ Int32.toInt bI ∧ Int32.toInt bI ≤ 16) (h_tr_comingStandings : 0 ≤ Int32.toInt aI ∧ Int32.toInt aI ≤ 8) (h_pa_undoable : 0 ≤ Int32.toInt oE ∧ Int32.toInt oE ≤ 12) (h_pa_isKept : ∀ k : Nat, 0 ≤ Int32.toInt (tJ k) ∧ Int32.toInt (tJ k) ≤ 1) (hpost : ∀ (r : Int32) (tx_length' : Int32) (tx_place' : Int32) (tx_stop' : Int32) (tr_fruits' : Int32) (tr_standings' : Int32) (tr_comingFruits' : Int32) (tr_comingStandings' : Int32) (tr_x' : Nat → Int32) (tr_height' : Nat → Int32) (tr_worth' : Nat → Int32) (tr_ripe' : Nat → Int32) (tr_foot' : Nat → Int32) (tr_fork' : Nat → Int32) (pa_undoable' : Int32) (pa_isKept' : Nat → Int32), (-100 ≤ Int32.toInt r ∧ Int32.toInt r ≤ 79) → (0 ≤ Int32.toInt tx_length' ∧ Int32.toInt tx_length' ≤ 0) → (0 ≤ Int32.toInt tx_place' ∧ Int32.toInt tx_place' ≤ 80) → (0 ≤ Int32.toInt tx_stop' ∧ Int32.toInt tx_stop' ≤ 79) → (0 ≤ Int32.toInt tr_fruits' ∧ Int32.toInt tr_fruits' ≤ 16) → (0 ≤ Int32.toInt tr_standings' ∧ Int32.toInt tr_standings' ≤ 8) → (0 ≤ Int32.toInt tr_comingFruits' ∧ Int32.toInt tr_comingFruits' ≤ 16) → (0 ≤ Int32.toInt tr_comingStandings' ∧ Int32.toInt tr_comingStandings' ≤ 8) → (0 ≤ Int32.toInt pa_undoable' ∧ Int32.toInt pa_undoable' ≤ 12) → (∀ k : Nat, 0 ≤ Int32.toInt (pa_isKept' k) ∧ Int32.toInt (pa_isKept' k) ≤ 1) → post r tx_length' tx_place' tx_stop' tr_fruits' tr_standings' tr_comingFruits' tr_comingStandings' tr_x' tr_height' tr_worth' tr_ripe' tr_foot' tr_fork' pa_undoable' pa_isKept') : wp_X9_orchard post qI qJ rY qM bZ bD bI aI wD gF pE qA nJ nY oE tJ := by
  have l0 := li_0
  have l1 := li_76
  intro v10 ev10
  have f11 := ti_min qI (76 : Int32)
  have hv10 := congrArg Int32.toInt ev10
  refine And.intro (fun c12 => ?_) (fun c12 => ?_)
  · skip
    have c12 := mt (fa_eq _ _).mpr c12
    refine t_X3_readLines (by omega) (by omega) h_tx_signs h_tr_fruits h_tr_standings h_tr_comingFruits h_tr_comingStandings (fun r22 tx_place_13 tr_comingFruits_14 tr_comingStandings_15 tr_x_16 tr_height_17 tr_worth_18 tr_ripe_19 tr_foot_20 tr_fork_21 h_r22 h_tx_place_13 h_tr_comingFruits_14 h_tr_comingStandings_15 => ?_)
    exact ts_X9_orchard_34 qM h_tx_signs hpost r22 qI tx_place_13 v10 bZ bD tr_comingFruits_14 tr_comingStandings_15 tr_x_16 tr_height_17 tr_worth_18 tr_ripe_19 tr_foot_20 tr_fork_21 oE tJ h_r22 h_tx_length h_tx_place_13 (by omega) h_tr_fruits h_tr_standings h_tr_comingFruits_14 h_tr_comingStandings_15 h_pa_undoable h_pa_isKept
  · skip
    have c12 := (fa_eq _ _).mp c12
    exact ts_X9_orchard_34 qM h_tx_signs hpost 0 qI 0 v10 bZ bD bI aI wD gF pE qA nJ nY oE tJ (by omega) h_tx_length (by omega) (by omega) h_tr_fruits h_tr_standings h_tr_comingFruits h_tr_comingStandings h_pa_undoable h_pa_isKept
set_option maxHeartbeats 8000000 in
set_option maxRecDepth 200000 in
theorem ts_X7_readPlainThing_38 {post : Int32 → Int32 → Int32 → Int32 → (Nat → Int32) → Prop} (rY : Int32) (qM : Nat → Int32) (h_tx_stop : 1 ≤ Int32.toInt rY ∧ Int32.toInt rY ≤ 40) (h_tx_signs : ∀ k : Nat, 0 ≤ Int32.toInt (qM k) ∧ Int32.toInt (qM k) ≤ 65535) (hpost : ∀ (r : Int32) (tx_place' : Int32) (ru_drafted' : Int32) (ru_wantsThing' : Int32) (ru_draft' : Nat → Int32), (0 ≤ Int32.toInt r ∧ Int32.toInt r ≤ 1) → (0 ≤ Int32.toInt tx_place' ∧ Int32.toInt tx_place' ≤ 80) → (0 ≤ Int32.toInt ru_drafted' ∧ Int32.toInt ru_drafted' ≤ 40) → (0 ≤ Int32.toInt ru_wantsThing' ∧ Int32.toInt ru_wantsThing' ≤ 1) → post r tx_place' ru_drafted' ru_wantsThing' ru_draft') (x2 qJ qB mW : Int32) (uU : Nat → Int32) (h_tx_place : 0 ≤ Int32.toInt qJ ∧ Int32.toInt qJ ≤ 80) (h_ru_drafted : 0 ≤ Int32.toInt qB ∧ Int32.toInt qB ≤ 40) (h_ru_wantsThing : 1 ≤ Int32.toInt mW ∧ Int32.toInt mW ≤ 1) : ws_X7_readPlainThing_38 post rY qM x2 qJ qB mW uU := by
  have l0 := li_0
  have l1 := li_1
  have l2 := li_40
  refine And.intro (fun c1 => ?_) (fun c1 => ?_)
  · skip
    have c1 := (fa_le _ _).mp c1
    exact hpost _ _ _ _ _ (by omega) h_tx_place h_ru_drafted (by omega)
  · skip
    have c1 := mt (fa_le _ _).mpr c1
    refine And.intro (t_in (by omega)) ?_
    intro v2 ev2
    have f3 : Int32.toInt (qB + 1) = Int32.toInt qB + Int32.toInt (1 : Int32) := ta_add _ _ (by omega)
    rw [← ev2] at f3
    exact hpost _ _ _ _ _ (by omega) h_tx_place (by omega) (by omega)
set_option maxHeartbeats 8000000 in
set_option maxRecDepth 200000 in
theorem t_X7_readPlainThing {post : Int32 → Int32 → Int32 → Int32 → (Nat → Int32) → Prop} {qJ rY : Int32} {qM : Nat → Int32} {qB mW : Int32} {uU : Nat → Int32} (h_tx_place : 0 ≤ Int32.toInt qJ ∧ Int32.toInt qJ ≤ 40) (h_tx_stop : 1 ≤ Int32.toInt rY ∧ Int32.toInt rY ≤ 40) (h_tx_signs : ∀ k : Nat, 0 ≤ Int32.toInt (qM k) ∧ Int32.toInt (qM k) ≤ 65535) (h_ru_drafted : 0 ≤ Int32.toInt qB ∧ Int32.toInt qB ≤ 40) (h_ru_wantsThing : 1 ≤ Int32.toInt mW ∧ Int32.toInt mW ≤ 1) (hpost : ∀ (r : Int32) (tx_place' : Int32) (ru_drafted' : Int32) (ru_wantsThing' : Int32) (ru_draft' : Nat → Int32), (0 ≤ Int32.toInt r ∧ Int32.toInt r ≤ 1) → (0 ≤ Int32.toInt tx_place' ∧ Int32.toInt tx_place' ≤ 80) → (0 ≤ Int32.toInt ru_drafted' ∧ Int32.toInt ru_drafted' ≤ 40) → (0 ≤ Int32.toInt ru_wantsThing' ∧ Int32.toInt ru_wantsThing' ≤ 1) → post r tx_place' ru_drafted' ru_wantsThing' ru_draft') : wp_X7_readPlainThing post qJ rY qM qB mW uU := by
  have l0 := li_m1
  have l1 := li_0
  have l2 := li_1
  have l3 := li_1000
  have l4 := li_3
  refine t_X8_readNumber (by omega) (by omega) (by omega) h_tx_signs (fun r5 xU h_tx_place_4 => ?_)
  have f7 := tp_r r5
  refine And.intro (fun c6 => ?_) (fun c6 => ?_)
  · skip
    have c6 := mt (fa_eq _ _).mpr c6
    exact ts_X7_readPlainThing_38 rY qM h_tx_stop h_tx_signs hpost r5 xU qB mW uU h_tx_place_4 h_ru_drafted h_ru_wantsThing
  · skip
    have c6 := (fa_eq _ _).mp c6
    refine And.intro (fun c8 => ?_) (fun c8 => ?_)
    · skip
      have c8 := (fa_le _ _).mp c8
      intro v9 ev9
      have hv9 := ti_i2c (-1)
      rw [← ev9] at hv9
      intro v10 ev10
      have f11 := ti_lix v9
      have hv10 := congrArg Int32.toInt ev10
      refine And.intro (fun c12 => ?_) (fun c12 => ?_)
      · skip
        have c12 := (fa_le _ _).mp c12
        intro v13 ev13
        have f14 : Int32.toInt (1000 + v10) = Int32.toInt (1000 : Int32) + Int32.toInt v10 := ta_add _ _ (by omega)
        rw [← ev13] at f14
        refine And.intro (fun c15 => ?_) (fun c15 => ?_)
        · skip
          have c15 := (fa_le _ _).mp c15
          exact ts_X7_readPlainThing_38 rY qM h_tx_stop h_tx_signs hpost v13 xU qB mW uU h_tx_place_4 h_ru_drafted h_ru_wantsThing
        · skip
          have c15 := mt (fa_le _ _).mpr c15
          intro v16 ev16
          have f17 : Int32.toInt (xU + 1) = Int32.toInt xU + Int32.toInt (1 : Int32) := ta_add _ _ (by omega)
          rw [← ev16] at f17
          exact ts_X7_readPlainThing_38 rY qM h_tx_stop h_tx_signs hpost v13 v16 qB mW uU (by omega) h_ru_drafted h_ru_wantsThing
      · skip
        have c12 := mt (fa_le _ _).mpr c12
        exact hpost _ _ _ _ _ (by omega) h_tx_place_4 h_ru_drafted (by omega)
    · skip
      have c8 := mt (fa_le _ _).mpr c8
      refine And.intro (t_in (by omega)) ?_
      intro v18 ev18
      have f19 := h_tx_signs xU.toNatClampNeg
      have hv18 := congrArg Int32.toInt ev18
      intro v20 ev20
      have hv20 := ti_i2c v18
      rw [← ev20] at hv20
      intro v21 ev21
      have f22 := ti_lix v20
      have hv21 := congrArg Int32.toInt ev21
      refine And.intro (fun c23 => ?_) (fun c23 => ?_)
      · skip
        have c23 := (fa_le _ _).mp c23
        intro v24 ev24
        have f25 : Int32.toInt (1000 + v21) = Int32.toInt (1000 : Int32) + Int32.toInt v21 := ta_add _ _ (by omega)
        rw [← ev24] at f25
        refine And.intro (fun c26 => ?_) (fun c26 => ?_)
        · skip
          have c26 := (fa_le _ _).mp c26
          exact ts_X7_readPlainThing_38 rY qM h_tx_stop h_tx_signs hpost v24 xU qB mW uU h_tx_place_4 h_ru_drafted h_ru_wantsThing
        · skip
          have c26 := mt (fa_le _ _).mpr c26
          intro v27 ev27
          have f28 : Int32.toInt (xU + 1) = Int32.toInt xU + Int32.toInt (1 : Int32) := ta_add _ _ (by omega)
          rw [← ev27] at f28
          exact ts_X7_readPlainThing_38 rY qM h_tx_stop h_tx_signs hpost v24 v27 qB mW uU (by omega) h_ru_drafted h_ru_wantsThing
      · skip
        have c23 := mt (fa_le _ _).mpr c23
        exact hpost _ _ _ _ _ (by omega) h_tx_place_4 h_ru_drafted (by omega)
set_option maxHeartbeats 8000000 in
set_option maxRecDepth 200000 in
theorem ts_X7_readThing_78 {post : Int32 → Int32 → Int32 → Int32 → Int32 → Int32 → Int32 → (Nat → Int32) → (Nat → Int32) → Prop} (rY : Int32) (qM : Nat → Int32) (h_tx_stop : 1 ≤ Int32.toInt rY ∧ Int32.toInt rY ≤ 40) (h_tx_signs : ∀ k : Nat, 0 ≤ Int32.toInt (qM k) ∧ Int32.toInt (qM k) ≤ 65535) (hpost : ∀ (r : Int32) (tx_place' : Int32) (ru_drafted' : Int32) (ru_waits' : Int32) (ru_open' : Int32) (ru_compared' : Int32) (ru_wantsThing' : Int32) (ru_waiting' : Nat → Int32) (ru_draft' : Nat → Int32), (0 ≤ Int32.toInt r ∧ Int32.toInt r ≤ 1) → (0 ≤ Int32.toInt tx_place' ∧ Int32.toInt tx_place' ≤ 80) → (0 ≤ Int32.toInt ru_drafted' ∧ Int32.toInt ru_drafted' ≤ 40) → (0 ≤ Int32.toInt ru_waits' ∧ Int32.toInt ru_waits' ≤ 40) → (0 ≤ Int32.toInt ru_open' ∧ Int32.toInt ru_open' ≤ 4) → (0 ≤ Int32.toInt ru_compared' ∧ Int32.toInt ru_compared' ≤ 31) → (0 ≤ Int32.toInt ru_wantsThing' ∧ Int32.toInt ru_wantsThing' ≤ 1) → (∀ k : Nat, 0 ≤ Int32.toInt (ru_waiting' k) ∧ Int32.toInt (ru_waiting' k) ≤ 256) → post r tx_place' ru_drafted' ru_waits' ru_open' ru_compared' ru_wantsThing' ru_waiting' ru_draft') (qJ qB sH uP pQ mW : Int32) (sJ uU : Nat → Int32) (h_tx_place : 0 ≤ Int32.toInt qJ ∧ Int32.toInt qJ ≤ 40) (h_ru_drafted : 0 ≤ Int32.toInt qB ∧ Int32.toInt qB ≤ 40) (h_ru_waits : 1 ≤ Int32.toInt sH ∧ Int32.toInt sH ≤ 40) (h_ru_open : 0 ≤ Int32.toInt uP ∧ Int32.toInt uP ≤ 4) (h_ru_compared : 0 ≤ Int32.toInt pQ ∧ Int32.toInt pQ ≤ 31) (h_ru_wantsThing : 1 ≤ Int32.toInt mW ∧ Int32.toInt mW ≤ 1) (h_ru_waiting : ∀ k : Nat, 0 ≤ Int32.toInt (sJ k) ∧ Int32.toInt (sJ k) ≤ 256) : ws_X7_readThing_78 post rY qM qJ qB sH uP pQ mW sJ uU := by
  have l0 := li_1
  refine And.intro (fun c1 => ?_) (fun c1 => ?_)
  · skip
    have c1 := (fa_le _ _).mp c1
    exact hpost _ _ _ _ _ _ _ _ _ (by omega) (by omega) h_ru_drafted (by omega) h_ru_open h_ru_compared (by omega) h_ru_waiting
  · skip
    have c1 := mt (fa_le _ _).mpr c1
    intro v2 ev2
    have f3 : Int32.toInt (qJ + 1) = Int32.toInt qJ + Int32.toInt (1 : Int32) := ta_add _ _ (by omega)
    rw [← ev2] at f3
    exact hpost _ _ _ _ _ _ _ _ _ (by omega) (by omega) h_ru_drafted (by omega) h_ru_open h_ru_compared (by omega) h_ru_waiting
set_option maxHeartbeats 8000000 in
set_option maxRecDepth 200000 in
theorem t_X7_readThing {post : Int32 → Int32 → Int32 → Int32 → Int32 → Int32 → Int32 → (Nat → Int32) → (Nat → Int32) → Prop} {qJ rY : Int32} {qM : Nat → Int32} {qB sH uP pQ mW : Int32} {sJ uU : Nat → Int32} (h_tx_place : 0 ≤ Int32.toInt qJ ∧ Int32.toInt qJ ≤ 40) (h_tx_stop : 1 ≤ Int32.toInt rY ∧ Int32.toInt rY ≤ 40) (h_tx_signs : ∀ k : Nat, 0 ≤ Int32.toInt (qM k) ∧ Int32.toInt (qM k) ≤ 65535) (h_ru_drafted : 0 ≤ Int32.toInt qB ∧ Int32.toInt qB ≤ 40) (h_ru_waits : 0 ≤ Int32.toInt sH ∧ Int32.toInt sH ≤ 40) (h_ru_open : 0 ≤ Int32.toInt uP ∧ Int32.toInt uP ≤ 4) (h_ru_compared : 0 ≤ Int32.toInt pQ ∧ Int32.toInt pQ ≤ 31) (h_ru_wantsThing : 1 ≤ Int32.toInt mW ∧ Int32.toInt mW ≤ 1) (h_ru_waiting : ∀ k : Nat, 0 ≤ Int32.toInt (sJ k) ∧ Int32.toInt (sJ k) ≤ 256) (hpost : ∀ (r : Int32) (tx_place' : Int32) (ru_drafted' : Int32) (ru_waits' : Int32) (ru_open' : Int32) (ru_compared' : Int32) (ru_wantsThing' : Int32) (ru_waiting' : Nat → Int32) (ru_draft' : Nat → Int32), (0 ≤ Int32.toInt r ∧ Int32.toInt r ≤ 1) → (0 ≤ Int32.toInt tx_place' ∧ Int32.toInt tx_place' ≤ 80) → (0 ≤ Int32.toInt ru_drafted' ∧ Int32.toInt ru_drafted' ≤ 40) → (0 ≤ Int32.toInt ru_waits' ∧ Int32.toInt ru_waits' ≤ 40) → (0 ≤ Int32.toInt ru_open' ∧ Int32.toInt ru_open' ≤ 4) → (0 ≤ Int32.toInt ru_compared' ∧ Int32.toInt ru_compared' ≤ 31) → (0 ≤ Int32.toInt ru_wantsThing' ∧ Int32.toInt ru_wantsThing' ≤ 1) → (∀ k : Nat, 0 ≤ Int32.toInt (ru_waiting' k) ∧ Int32.toInt (ru_waiting' k) ≤ 256) → post r tx_place' ru_drafted' ru_waits' ru_open' ru_compared' ru_wantsThing' ru_waiting' ru_draft') : wp_X7_readThing post qJ rY qM qB sH uP pQ mW sJ uU := by
  have l0 := li_0
  have l1 := li_1
  have l2 := li_256
  have l3 := li_4
  have l4 := li_40
  have l5 := li_45
  refine And.intro (fun c4 => ?_) (fun c4 => ?_)
  · skip
    have c4 := (fa_le _ _).mp c4
    refine And.intro (fun _ => ?_) (fun h9 => absurd h9 (by decide))
    refine And.intro (fun _ => ?_) (fun h9 => absurd h9 (by decide))
    refine t_X7_readPlainThing h_tx_place h_tx_stop h_tx_signs h_ru_drafted h_ru_wantsThing (fun r9 aAF aAR ru_wantsThing_7 ru_draft_8 h_r9 h_tx_place_5 h_ru_drafted_6 h_ru_wantsThing_7 => ?_)
    refine And.intro (t_bool (by omega)) ?_
    exact hpost _ _ _ _ _ _ _ _ _ h_r9 h_tx_place_5 h_ru_drafted_6 h_ru_waits h_ru_open h_ru_compared h_ru_wantsThing_7 h_ru_waiting
  · skip
    have c4 := mt (fa_le _ _).mpr c4
    refine And.intro (t_in (by omega)) ?_
    intro v10 ev10
    have f11 := h_tx_signs qJ.toNatClampNeg
    have hv10 := congrArg Int32.toInt ev10
    refine And.intro (fun c12 => ?_) (fun c12 => ?_)
    · skip
      have c12 := mt (fa_eq _ _).mpr c12
      refine And.intro (fun c13 => ?_) (fun c13 => ?_)
      · skip
        have c13 := mt (fa_eq _ _).mpr c13
        refine t_X7_readPlainThing h_tx_place h_tx_stop h_tx_signs h_ru_drafted h_ru_wantsThing (fun r18 tx_place_14 ru_drafted_15 ru_wantsThing_16 ru_draft_17 h_r18 h_tx_place_14 h_ru_drafted_15 h_ru_wantsThing_16 => ?_)
        refine And.intro (t_bool (by omega)) ?_
        exact hpost _ _ _ _ _ _ _ _ _ h_r18 h_tx_place_14 h_ru_drafted_15 h_ru_waits h_ru_open h_ru_compared h_ru_wantsThing_16 h_ru_waiting
      · skip
        have c13 := (fa_eq _ _).mp c13
        refine And.intro (fun c19 => ?_) (fun c19 => ?_)
        · skip
          have c19 := (fa_lt _ _).mp c19
          intro v20 ev20
          have f21 : Int32.toInt (uP + 1) = Int32.toInt uP + Int32.toInt (1 : Int32) := ta_add _ _ (by omega)
          rw [← ev20] at f21
          intro v22 ev22
          have f23 := ti_shl1 4 16 v20 (by decide) (by omega)
          have hv22 := congrArg Int32.toInt ev22
          intro v24 ev24
          have f26 := ti_andl pQ (v22 ^^^ (-1)) (by omega)
          have hv24 := congrArg Int32.toInt ev24
          refine And.intro (fun c27 => ?_) (fun c27 => ?_)
          · skip
            have c27 := (fa_le _ _).mp c27
            exact ts_X7_readThing_78 rY qM h_tx_stop h_tx_signs hpost qJ qB sH v20 v24 mW sJ uU h_tx_place h_ru_drafted (by omega) (by omega) (by omega) h_ru_wantsThing h_ru_waiting
          · skip
            have c27 := mt (fa_le _ _).mpr c27
            refine And.intro (t_in (by omega)) ?_
            have a28 : ∀ k : Nat, 0 ≤ Int32.toInt ((upd sJ sH.toNatClampNeg v10) k) ∧ Int32.toInt ((upd sJ sH.toNatClampNeg v10) k) ≤ 256 := t_upd (fun k => by have q9 := h_ru_waiting k; omega) (by omega)
            intro v29 ev29
            have f30 : Int32.toInt (sH + 1) = Int32.toInt sH + Int32.toInt (1 : Int32) := ta_add _ _ (by omega)
            rw [← ev29] at f30
            exact ts_X7_readThing_78 rY qM h_tx_stop h_tx_signs hpost qJ qB v29 v20 v24 mW (upd sJ sH.toNatClampNeg v10) uU h_tx_place h_ru_drafted (by omega) (by omega) (by omega) h_ru_wantsThing (fun k => by have q9 := a28 k; omega)
        · skip
          have c19 := mt (fa_lt _ _).mpr c19
          exact hpost _ _ _ _ _ _ _ _ _ (by omega) (by omega) h_ru_drafted h_ru_waits h_ru_open h_ru_compared (by omega) h_ru_waiting
    · skip
      have c12 := (fa_eq _ _).mp c12
      refine And.intro (fun c31 => ?_) (fun c31 => ?_)
      · skip
        have c31 := (fa_le _ _).mp c31
        exact ts_X7_readThing_78 rY qM h_tx_stop h_tx_signs hpost qJ qB sH uP pQ mW sJ uU h_tx_place h_ru_drafted (by omega) h_ru_open h_ru_compared h_ru_wantsThing h_ru_waiting
      · skip
        have c31 := mt (fa_le _ _).mpr c31
        refine And.intro (t_in (by omega)) ?_
        have a32 : ∀ k : Nat, 0 ≤ Int32.toInt ((upd sJ sH.toNatClampNeg 256) k) ∧ Int32.toInt ((upd sJ sH.toNatClampNeg 256) k) ≤ 256 := t_upd (fun k => by have q9 := h_ru_waiting k; omega) (by omega)
        intro v33 ev33
        have f34 : Int32.toInt (sH + 1) = Int32.toInt sH + Int32.toInt (1 : Int32) := ta_add _ _ (by omega)
        rw [← ev33] at f34
        exact ts_X7_readThing_78 rY qM h_tx_stop h_tx_signs hpost qJ qB v33 uP pQ mW (upd sJ sH.toNatClampNeg 256) uU h_tx_place h_ru_drafted (by omega) h_ru_open h_ru_compared h_ru_wantsThing (fun k => by have q9 := a32 k; omega)
set_option maxHeartbeats 8000000 in
set_option maxRecDepth 200000 in
theorem ts_X7_settle_0 {post : Int32 → Int32 → (Nat → Int32) → Prop} {next : Int32 → Int32 → Int32 → (Nat → Int32) → Prop} {n0 : Int} (sJ : Nat → Int32) (h_ru_waiting : ∀ k : Nat, 0 ≤ Int32.toInt (sJ k) ∧ Int32.toInt (sJ k) ≤ 256) (hpost : ∀ (ru_drafted' : Int32) (ru_waits' : Int32) (ru_draft' : Nat → Int32), (0 ≤ Int32.toInt ru_drafted' ∧ Int32.toInt ru_drafted' ≤ 40) → (0 ≤ Int32.toInt ru_waits' ∧ Int32.toInt ru_waits' ≤ 40) → post ru_drafted' ru_waits' ru_draft') (hKn : ∀ (x1 : Int32) (qB : Int32) (sH : Int32) (uU : Nat → Int32), (1 ≤ Int32.toInt x1 ∧ Int32.toInt x1 ≤ 4) → (0 ≤ Int32.toInt qB ∧ Int32.toInt qB ≤ 40) → (0 ≤ Int32.toInt sH ∧ Int32.toInt sH ≤ 40) → (Int32.toInt sH < n0) → next x1 qB sH uU) (x1 qB sH : Int32) (uU : Nat → Int32) (h_x1 : 1 ≤ Int32.toInt x1 ∧ Int32.toInt x1 ≤ 4) (h_ru_drafted : 0 ≤ Int32.toInt qB ∧ Int32.toInt qB ≤ 40) (h_ru_waits : 0 ≤ Int32.toInt sH ∧ Int32.toInt sH ≤ 40) (hn0 : Int32.toInt sH ≤ n0) : ws_X7_settle_0 post next sJ x1 qB sH uU := by
  have l0 := li_0
  have l1 := li_1
  have l2 := li_2
  have l3 := li_2000
  have l4 := li_256
  have l5 := li_3
  have l6 := li_4
  have l7 := li_40
  have l8 := li_42
  have l9 := li_43
  have l10 := li_45
  have l11 := li_47
  have l12 := li_60
  have l13 := li_61
  have l14 := li_62
  refine And.intro (fun c1 => ?_) (fun c1 => ?_)
  · skip
    have c1 := (fa_le _ _).mp c1
    exact hpost _ _ _ h_ru_drafted h_ru_waits
  · skip
    have c1 := mt (fa_le _ _).mpr c1
    intro v2 ev2
    have f3 : Int32.toInt (sH - 1) = Int32.toInt sH - Int32.toInt (1 : Int32) := ta_sub _ _ (by omega)
    rw [← ev2] at f3
    refine And.intro (t_in (by omega)) ?_
    intro v4 ev4
    have f5 := h_ru_waiting v2.toNatClampNeg
    have hv4 := congrArg Int32.toInt ev4
    refine And.intro (fun c6 => ?_) ?_
    · skip
      have c6 := (fa_eq _ _).mp c6
      refine And.intro (fun c7 => ?_) (fun c7 => ?_)
      · skip
        have c7 := (fa_lt _ _).mp c7
        exact hpost _ _ _ h_ru_drafted h_ru_waits
      · skip
        have c7 := mt (fa_lt _ _).mpr c7
        intro v8 ev8
        have hv8 := congrArg Int32.toInt (ev8.trans ev2.symm)
        refine And.intro (t_in (by omega)) ?_
        intro v9 ev9
        have f11 := h_ru_waiting v8.toNatClampNeg
        have f10 : Int32.toInt (2000 + (sJ v8.toNatClampNeg)) = Int32.toInt (2000 : Int32) + Int32.toInt (sJ v8.toNatClampNeg) := ta_add _ _ (by omega)
        rw [← ev9] at f10
        refine And.intro (fun c12 => ?_) (fun c12 => ?_)
        · skip
          have c12 := (fa_le _ _).mp c12
          exact hKn x1 qB v8 uU h_x1 h_ru_drafted (by omega) (by omega)
        · skip
          have c12 := mt (fa_le _ _).mpr c12
          refine And.intro (t_in (by omega)) ?_
          intro v13 ev13
          have f14 : Int32.toInt (qB + 1) = Int32.toInt qB + Int32.toInt (1 : Int32) := ta_add _ _ (by omega)
          rw [← ev13] at f14
          exact hKn x1 v13 v8 (upd uU qB.toNatClampNeg v9) h_x1 (by omega) (by omega) (by omega)
    refine And.intro (fun c15 => ?_) ?_
    · skip
      have c15 := (fa_eq _ _).mp c15
      refine And.intro (fun c16 => ?_) (fun c16 => ?_)
      · skip
        have c16 := (fa_lt _ _).mp c16
        exact hpost _ _ _ h_ru_drafted h_ru_waits
      · skip
        have c16 := mt (fa_lt _ _).mpr c16
        intro v17 ev17
        have hv17 := congrArg Int32.toInt (ev17.trans ev2.symm)
        refine And.intro (t_in (by omega)) ?_
        intro v18 ev18
        have f20 := h_ru_waiting v17.toNatClampNeg
        have f19 : Int32.toInt (2000 + (sJ v17.toNatClampNeg)) = Int32.toInt (2000 : Int32) + Int32.toInt (sJ v17.toNatClampNeg) := ta_add _ _ (by omega)
        rw [← ev18] at f19
        refine And.intro (fun c21 => ?_) (fun c21 => ?_)
        · skip
          have c21 := (fa_le _ _).mp c21
          exact hKn x1 qB v17 uU h_x1 h_ru_drafted (by omega) (by omega)
        · skip
          have c21 := mt (fa_le _ _).mpr c21
          refine And.intro (t_in (by omega)) ?_
          intro v22 ev22
          have f23 : Int32.toInt (qB + 1) = Int32.toInt qB + Int32.toInt (1 : Int32) := ta_add _ _ (by omega)
          rw [← ev22] at f23
          exact hKn x1 v22 v17 (upd uU qB.toNatClampNeg v18) h_x1 (by omega) (by omega) (by omega)
    refine And.intro (fun c24 => ?_) ?_
    · skip
      have c24 := (fa_eq _ _).mp c24
      refine And.intro (fun c25 => ?_) (fun c25 => ?_)
      · skip
        have c25 := (fa_lt _ _).mp c25
        exact hpost _ _ _ h_ru_drafted h_ru_waits
      · skip
        have c25 := mt (fa_lt _ _).mpr c25
        intro v26 ev26
        have hv26 := congrArg Int32.toInt (ev26.trans ev2.symm)
        refine And.intro (t_in (by omega)) ?_
        intro v27 ev27
        have f29 := h_ru_waiting v26.toNatClampNeg
        have f28 : Int32.toInt (2000 + (sJ v26.toNatClampNeg)) = Int32.toInt (2000 : Int32) + Int32.toInt (sJ v26.toNatClampNeg) := ta_add _ _ (by omega)
        rw [← ev27] at f28
        refine And.intro (fun c30 => ?_) (fun c30 => ?_)
        · skip
          have c30 := (fa_le _ _).mp c30
          exact hKn x1 qB v26 uU h_x1 h_ru_drafted (by omega) (by omega)
        · skip
          have c30 := mt (fa_le _ _).mpr c30
          refine And.intro (t_in (by omega)) ?_
          intro v31 ev31
          have f32 : Int32.toInt (qB + 1) = Int32.toInt qB + Int32.toInt (1 : Int32) := ta_add _ _ (by omega)
          rw [← ev31] at f32
          exact hKn x1 v31 v26 (upd uU qB.toNatClampNeg v27) h_x1 (by omega) (by omega) (by omega)
    refine And.intro (fun c33 => ?_) ?_
    · skip
      have c33 := (fa_eq _ _).mp c33
      refine And.intro (fun c34 => ?_) (fun c34 => ?_)
      · skip
        have c34 := (fa_lt _ _).mp c34
        exact hpost _ _ _ h_ru_drafted h_ru_waits
      · skip
        have c34 := mt (fa_lt _ _).mpr c34
        intro v35 ev35
        have hv35 := congrArg Int32.toInt (ev35.trans ev2.symm)
        refine And.intro (t_in (by omega)) ?_
        intro v36 ev36
        have f38 := h_ru_waiting v35.toNatClampNeg
        have f37 : Int32.toInt (2000 + (sJ v35.toNatClampNeg)) = Int32.toInt (2000 : Int32) + Int32.toInt (sJ v35.toNatClampNeg) := ta_add _ _ (by omega)
        rw [← ev36] at f37
        refine And.intro (fun c39 => ?_) (fun c39 => ?_)
        · skip
          have c39 := (fa_le _ _).mp c39
          exact hKn x1 qB v35 uU h_x1 h_ru_drafted (by omega) (by omega)
        · skip
          have c39 := mt (fa_le _ _).mpr c39
          refine And.intro (t_in (by omega)) ?_
          intro v40 ev40
          have f41 : Int32.toInt (qB + 1) = Int32.toInt qB + Int32.toInt (1 : Int32) := ta_add _ _ (by omega)
          rw [← ev40] at f41
          exact hKn x1 v40 v35 (upd uU qB.toNatClampNeg v36) h_x1 (by omega) (by omega) (by omega)
    refine And.intro (fun c42 => ?_) ?_
    · skip
      have c42 := (fa_eq _ _).mp c42
      refine And.intro (fun c43 => ?_) (fun c43 => ?_)
      · skip
        have c43 := (fa_lt _ _).mp c43
        exact hpost _ _ _ h_ru_drafted h_ru_waits
      · skip
        have c43 := mt (fa_lt _ _).mpr c43
        intro v44 ev44
        have hv44 := congrArg Int32.toInt (ev44.trans ev2.symm)
        refine And.intro (t_in (by omega)) ?_
        intro v45 ev45
        have f47 := h_ru_waiting v44.toNatClampNeg
        have f46 : Int32.toInt (2000 + (sJ v44.toNatClampNeg)) = Int32.toInt (2000 : Int32) + Int32.toInt (sJ v44.toNatClampNeg) := ta_add _ _ (by omega)
        rw [← ev45] at f46
        refine And.intro (fun c48 => ?_) (fun c48 => ?_)
        · skip
          have c48 := (fa_le _ _).mp c48
          exact hKn x1 qB v44 uU h_x1 h_ru_drafted (by omega) (by omega)
        · skip
          have c48 := mt (fa_le _ _).mpr c48
          refine And.intro (t_in (by omega)) ?_
          intro v49 ev49
          have f50 : Int32.toInt (qB + 1) = Int32.toInt qB + Int32.toInt (1 : Int32) := ta_add _ _ (by omega)
          rw [← ev49] at f50
          exact hKn x1 v49 v44 (upd uU qB.toNatClampNeg v45) h_x1 (by omega) (by omega) (by omega)
    refine And.intro (fun c51 => ?_) ?_
    · skip
      have c51 := (fa_eq _ _).mp c51
      refine And.intro (fun c52 => ?_) (fun c52 => ?_)
      · skip
        have c52 := (fa_lt _ _).mp c52
        exact hpost _ _ _ h_ru_drafted h_ru_waits
      · skip
        have c52 := mt (fa_lt _ _).mpr c52
        intro v53 ev53
        have hv53 := congrArg Int32.toInt (ev53.trans ev2.symm)
        refine And.intro (t_in (by omega)) ?_
        intro v54 ev54
        have f56 := h_ru_waiting v53.toNatClampNeg
        have f55 : Int32.toInt (2000 + (sJ v53.toNatClampNeg)) = Int32.toInt (2000 : Int32) + Int32.toInt (sJ v53.toNatClampNeg) := ta_add _ _ (by omega)
        rw [← ev54] at f55
        refine And.intro (fun c57 => ?_) (fun c57 => ?_)
        · skip
          have c57 := (fa_le _ _).mp c57
          exact hKn x1 qB v53 uU h_x1 h_ru_drafted (by omega) (by omega)
        · skip
          have c57 := mt (fa_le _ _).mpr c57
          refine And.intro (t_in (by omega)) ?_
          intro v58 ev58
          have f59 : Int32.toInt (qB + 1) = Int32.toInt qB + Int32.toInt (1 : Int32) := ta_add _ _ (by omega)
          rw [← ev58] at f59
          exact hKn x1 v58 v53 (upd uU qB.toNatClampNeg v54) h_x1 (by omega) (by omega) (by omega)
    refine And.intro (fun c60 => ?_) ?_
    · skip
      have c60 := (fa_eq _ _).mp c60
      refine And.intro (fun c61 => ?_) (fun c61 => ?_)
      · skip
        have c61 := (fa_lt _ _).mp c61
        exact hpost _ _ _ h_ru_drafted h_ru_waits
      · skip
        have c61 := mt (fa_lt _ _).mpr c61
        intro v62 ev62
        have hv62 := congrArg Int32.toInt (ev62.trans ev2.symm)
        refine And.intro (t_in (by omega)) ?_
        intro v63 ev63
        have f65 := h_ru_waiting v62.toNatClampNeg
        have f64 : Int32.toInt (2000 + (sJ v62.toNatClampNeg)) = Int32.toInt (2000 : Int32) + Int32.toInt (sJ v62.toNatClampNeg) := ta_add _ _ (by omega)
        rw [← ev63] at f64
        refine And.intro (fun c66 => ?_) (fun c66 => ?_)
        · skip
          have c66 := (fa_le _ _).mp c66
          exact hKn x1 qB v62 uU h_x1 h_ru_drafted (by omega) (by omega)
        · skip
          have c66 := mt (fa_le _ _).mpr c66
          refine And.intro (t_in (by omega)) ?_
          intro v67 ev67
          have f68 : Int32.toInt (qB + 1) = Int32.toInt qB + Int32.toInt (1 : Int32) := ta_add _ _ (by omega)
          rw [← ev67] at f68
          exact hKn x1 v67 v62 (upd uU qB.toNatClampNeg v63) h_x1 (by omega) (by omega) (by omega)
    refine And.intro (fun c69 => ?_) ?_
    · skip
      have c69 := (fa_eq _ _).mp c69
      refine And.intro (fun c70 => ?_) (fun c70 => ?_)
      · skip
        have c70 := (fa_lt _ _).mp c70
        exfalso; omega
      · skip
        have c70 := mt (fa_lt _ _).mpr c70
        intro v71 ev71
        have hv71 := congrArg Int32.toInt (ev71.trans ev2.symm)
        refine And.intro (t_in (by omega)) ?_
        intro v72 ev72
        have f74 := h_ru_waiting v71.toNatClampNeg
        have f73 : Int32.toInt (2000 + (sJ v71.toNatClampNeg)) = Int32.toInt (2000 : Int32) + Int32.toInt (sJ v71.toNatClampNeg) := ta_add _ _ (by omega)
        rw [← ev72] at f73
        refine And.intro (fun c75 => ?_) (fun c75 => ?_)
        · skip
          have c75 := (fa_le _ _).mp c75
          exact hKn x1 qB v71 uU h_x1 h_ru_drafted (by omega) (by omega)
        · skip
          have c75 := mt (fa_le _ _).mpr c75
          refine And.intro (t_in (by omega)) ?_
          intro v76 ev76
          have f77 : Int32.toInt (qB + 1) = Int32.toInt qB + Int32.toInt (1 : Int32) := ta_add _ _ (by omega)
          rw [← ev76] at f77
          exact hKn x1 v76 v71 (upd uU qB.toNatClampNeg v72) h_x1 (by omega) (by omega) (by omega)
    intro c78 c79 c80 c81 c82 c83 c84 c85
    have c78 := mt (fa_eq _ _).mpr c78
    have c79 := mt (fa_eq _ _).mpr c79
    have c80 := mt (fa_eq _ _).mpr c80
    have c81 := mt (fa_eq _ _).mpr c81
    have c82 := mt (fa_eq _ _).mpr c82
    have c83 := mt (fa_eq _ _).mpr c83
    have c84 := mt (fa_eq _ _).mpr c84
    have c85 := mt (fa_eq _ _).mpr c85
    refine And.intro (fun c86 => ?_) (fun c86 => ?_)
    · skip
      have c86 := (fa_lt _ _).mp c86
      exact hpost _ _ _ h_ru_drafted h_ru_waits
    · skip
      have c86 := mt (fa_lt _ _).mpr c86
      exfalso; omega
set_option maxHeartbeats 8000000 in
set_option maxRecDepth 200000 in
theorem tb_X7_settle_0 {post : Int32 → Int32 → (Nat → Int32) → Prop} (sJ : Nat → Int32) (h_ru_waiting : ∀ k : Nat, 0 ≤ Int32.toInt (sJ k) ∧ Int32.toInt (sJ k) ≤ 256) (hpost : ∀ (ru_drafted' : Int32) (ru_waits' : Int32) (ru_draft' : Nat → Int32), (0 ≤ Int32.toInt ru_drafted' ∧ Int32.toInt ru_drafted' ≤ 40) → (0 ≤ Int32.toInt ru_waits' ∧ Int32.toInt ru_waits' ≤ 40) → post ru_drafted' ru_waits' ru_draft') : ∀ (n : Nat) (x1 qB sH : Int32) (uU : Nat → Int32), (1 ≤ Int32.toInt x1 ∧ Int32.toInt x1 ≤ 4) → (0 ≤ Int32.toInt qB ∧ Int32.toInt qB ≤ 40) → (0 ≤ Int32.toInt sH ∧ Int32.toInt sH ≤ 40) → (Int32.toInt sH < (n : Int)) → wb_X7_settle_0 post sJ n x1 qB sH uU := by
  intro n
  induction n with
  | zero =>
    intro x1 qB sH uU h_x1 h_ru_drafted h_ru_waits hm
    exfalso; omega
  | succ n ih =>
    intro x1 qB sH uU h_x1 h_ru_drafted h_ru_waits hm
    exact ts_X7_settle_0 sJ h_ru_waiting hpost ih x1 qB sH uU h_x1 h_ru_drafted h_ru_waits (by omega)
set_option maxHeartbeats 8000000 in
set_option maxRecDepth 200000 in
theorem t_X7_settle {post : Int32 → Int32 → (Nat → Int32) → Prop} {p0 qB sH : Int32} {sJ uU : Nat → Int32} (h_p0 : 1 ≤ Int32.toInt p0 ∧ Int32.toInt p0 ≤ 4) (h_ru_drafted : 0 ≤ Int32.toInt qB ∧ Int32.toInt qB ≤ 40) (h_ru_waits : 0 ≤ Int32.toInt sH ∧ Int32.toInt sH ≤ 40) (h_ru_waiting : ∀ k : Nat, 0 ≤ Int32.toInt (sJ k) ∧ Int32.toInt (sJ k) ≤ 256) (hpost : ∀ (ru_drafted' : Int32) (ru_waits' : Int32) (ru_draft' : Nat → Int32), (0 ≤ Int32.toInt ru_drafted' ∧ Int32.toInt ru_drafted' ≤ 40) → (0 ≤ Int32.toInt ru_waits' ∧ Int32.toInt ru_waits' ≤ 40) → post ru_drafted' ru_waits' ru_draft') : wp_X7_settle post p0 qB sH sJ uU := by
  exact ⟨42, tb_X7_settle_0 sJ h_ru_waiting hpost _ p0 qB sH uU h_p0 h_ru_drafted h_ru_waits (by omega)⟩
set_option maxHeartbeats 8000000 in
set_option maxRecDepth 200000 in
theorem ts_X7_readBehindThing_105 {post : Int32 → Int32 → Int32 → Int32 → Int32 → Int32 → Int32 → (Nat → Int32) → (Nat → Int32) → Prop} (rY : Int32) (qM : Nat → Int32) (h_tx_stop : 1 ≤ Int32.toInt rY ∧ Int32.toInt rY ≤ 40) (h_tx_signs : ∀ k : Nat, 0 ≤ Int32.toInt (qM k) ∧ Int32.toInt (qM k) ≤ 65535) (hpost : ∀ (r : Int32) (tx_place' : Int32) (ru_drafted' : Int32) (ru_waits' : Int32) (ru_open' : Int32) (ru_compared' : Int32) (ru_wantsThing' : Int32) (ru_waiting' : Nat → Int32) (ru_draft' : Nat → Int32), (0 ≤ Int32.toInt r ∧ Int32.toInt r ≤ 1) → (0 ≤ Int32.toInt tx_place' ∧ Int32.toInt tx_place' ≤ 40) → (0 ≤ Int32.toInt ru_drafted' ∧ Int32.toInt ru_drafted' ≤ 40) → (0 ≤ Int32.toInt ru_waits' ∧ Int32.toInt ru_waits' ≤ 40) → (0 ≤ Int32.toInt ru_open' ∧ Int32.toInt ru_open' ≤ 4) → (0 ≤ Int32.toInt ru_compared' ∧ Int32.toInt ru_compared' ≤ 31) → (0 ≤ Int32.toInt ru_wantsThing' ∧ Int32.toInt ru_wantsThing' ≤ 1) → (∀ k : Nat, 0 ≤ Int32.toInt (ru_waiting' k) ∧ Int32.toInt (ru_waiting' k) ≤ 256) → post r tx_place' ru_drafted' ru_waits' ru_open' ru_compared' ru_wantsThing' ru_waiting' ru_draft') (x2 x3 qJ qB sH uP pQ mW : Int32) (sJ uU : Nat → Int32) (h_x2 : 42 ≤ Int32.toInt x2 ∧ Int32.toInt x2 ≤ 256) (h_x3 : 1 ≤ Int32.toInt x3 ∧ Int32.toInt x3 ≤ 4) (h_tx_place : 0 ≤ Int32.toInt qJ ∧ Int32.toInt qJ ≤ 40) (h_ru_drafted : 0 ≤ Int32.toInt qB ∧ Int32.toInt qB ≤ 40) (h_ru_waits : 0 ≤ Int32.toInt sH ∧ Int32.toInt sH ≤ 40) (h_ru_open : 0 ≤ Int32.toInt uP ∧ Int32.toInt uP ≤ 4) (h_ru_compared : 0 ≤ Int32.toInt pQ ∧ Int32.toInt pQ ≤ 31) (h_ru_wantsThing : 0 ≤ Int32.toInt mW ∧ Int32.toInt mW ≤ 0) (h_ru_waiting : ∀ k : Nat, 0 ≤ Int32.toInt (sJ k) ∧ Int32.toInt (sJ k) ≤ 256) : ws_X7_readBehindThing_105 post rY qM x2 x3 qJ qB sH uP pQ mW sJ uU := by
  have l0 := li_1
  have l1 := li_40
  refine t_X7_settle h_x3 h_ru_drafted h_ru_waits h_ru_waiting (fun ru_drafted_1 ru_waits_2 ru_draft_3 h_ru_drafted_1 h_ru_waits_2 => ?_)
  refine And.intro (fun c4 => ?_) (fun c4 => ?_)
  · skip
    have c4 := (fa_le _ _).mp c4
    refine And.intro (fun c5 => ?_) (fun c5 => ?_)
    · skip
      have c5 := (fa_le _ _).mp c5
      exact hpost _ _ _ _ _ _ _ _ _ (by omega) h_tx_place h_ru_drafted_1 h_ru_waits_2 h_ru_open h_ru_compared (by omega) h_ru_waiting
    · skip
      have c5 := mt (fa_le _ _).mpr c5
      intro v6 ev6
      have f7 : Int32.toInt (qJ + 1) = Int32.toInt qJ + Int32.toInt (1 : Int32) := ta_add _ _ (by omega)
      rw [← ev6] at f7
      exact hpost _ _ _ _ _ _ _ _ _ (by omega) (by omega) h_ru_drafted_1 h_ru_waits_2 h_ru_open h_ru_compared (by omega) h_ru_waiting
  · skip
    have c4 := mt (fa_le _ _).mpr c4
    refine And.intro (t_in (by omega)) ?_
    have a8 : ∀ k : Nat, 0 ≤ Int32.toInt ((upd sJ ru_waits_2.toNatClampNeg x2) k) ∧ Int32.toInt ((upd sJ ru_waits_2.toNatClampNeg x2) k) ≤ 256 := t_upd (fun k => by have q9 := h_ru_waiting k; omega) (by omega)
    intro v9 ev9
    have f10 : Int32.toInt (ru_waits_2 + 1) = Int32.toInt ru_waits_2 + Int32.toInt (1 : Int32) := ta_add _ _ (by omega)
    rw [← ev9] at f10
    refine And.intro (fun c11 => ?_) (fun c11 => ?_)
    · skip
      have c11 := (fa_le _ _).mp c11
      exact hpost _ _ _ _ _ _ _ _ _ (by omega) h_tx_place h_ru_drafted_1 (by omega) h_ru_open h_ru_compared (by omega) (fun k => by have q9 := a8 k; omega)
    · skip
      have c11 := mt (fa_le _ _).mpr c11
      intro v12 ev12
      have f13 : Int32.toInt (qJ + 1) = Int32.toInt qJ + Int32.toInt (1 : Int32) := ta_add _ _ (by omega)
      rw [← ev12] at f13
      exact hpost _ _ _ _ _ _ _ _ _ (by omega) (by omega) h_ru_drafted_1 (by omega) h_ru_open h_ru_compared (by omega) (fun k => by have q9 := a8 k; omega)
set_option maxHeartbeats 8000000 in
set_option maxRecDepth 200000 in
theorem ts_X7_readBehindThing_85 {post : Int32 → Int32 → Int32 → Int32 → Int32 → Int32 → Int32 → (Nat → Int32) → (Nat → Int32) → Prop} (rY : Int32) (qM : Nat → Int32) (h_tx_stop : 1 ≤ Int32.toInt rY ∧ Int32.toInt rY ≤ 40) (h_tx_signs : ∀ k : Nat, 0 ≤ Int32.toInt (qM k) ∧ Int32.toInt (qM k) ≤ 65535) (hpost : ∀ (r : Int32) (tx_place' : Int32) (ru_drafted' : Int32) (ru_waits' : Int32) (ru_open' : Int32) (ru_compared' : Int32) (ru_wantsThing' : Int32) (ru_waiting' : Nat → Int32) (ru_draft' : Nat → Int32), (0 ≤ Int32.toInt r ∧ Int32.toInt r ≤ 1) → (0 ≤ Int32.toInt tx_place' ∧ Int32.toInt tx_place' ≤ 40) → (0 ≤ Int32.toInt ru_drafted' ∧ Int32.toInt ru_drafted' ≤ 40) → (0 ≤ Int32.toInt ru_waits' ∧ Int32.toInt ru_waits' ≤ 40) → (0 ≤ Int32.toInt ru_open' ∧ Int32.toInt ru_open' ≤ 4) → (0 ≤ Int32.toInt ru_compared' ∧ Int32.toInt ru_compared' ≤ 31) → (0 ≤ Int32.toInt ru_wantsThing' ∧ Int32.toInt ru_wantsThing' ≤ 1) → (∀ k : Nat, 0 ≤ Int32.toInt (ru_waiting' k) ∧ Int32.toInt (ru_waiting' k) ≤ 256) → post r tx_place' ru_drafted' ru_waits' ru_open' ru_compared' ru_wantsThing' ru_waiting' ru_draft') (x2 x3 qJ qB sH uP pQ mW : Int32) (sJ uU : Nat → Int32) (h_x2 : 42 ≤ Int32.toInt x2 ∧ Int32.toInt x2 ≤ 256) (h_x3 : 1 ≤ Int32.toInt x3 ∧ Int32.toInt x3 ≤ 4) (h_tx_place : 0 ≤ Int32.toInt qJ ∧ Int32.toInt qJ ≤ 40) (h_ru_drafted : 0 ≤ Int32.toInt qB ∧ Int32.toInt qB ≤ 40) (h_ru_waits : 0 ≤ Int32.toInt sH ∧ Int32.toInt sH ≤ 40) (h_ru_open : 0 ≤ Int32.toInt uP ∧ Int32.toInt uP ≤ 4) (h_ru_compared : 0 ≤ Int32.toInt pQ ∧ Int32.toInt pQ ≤ 31) (h_ru_wantsThing : 0 ≤ Int32.toInt mW ∧ Int32.toInt mW ≤ 0) (h_ru_waiting : ∀ k : Nat, 0 ≤ Int32.toInt (sJ k) ∧ Int32.toInt (sJ k) ≤ 256) : ws_X7_readBehindThing_85 post rY qM x2 x3 qJ qB sH uP pQ mW sJ uU := by
  have l0 := li_1
  refine And.intro (fun c14 => ?_) (fun c14 => ?_)
  · skip
    have c14 := mt (fa_eq _ _).mpr c14
    exact ts_X7_readBehindThing_105 rY qM h_tx_stop h_tx_signs hpost x2 x3 qJ qB sH uP pQ mW sJ uU h_x2 h_x3 h_tx_place h_ru_drafted h_ru_waits h_ru_open h_ru_compared h_ru_wantsThing h_ru_waiting
  · skip
    have c14 := (fa_eq _ _).mp c14
    intro v15 ev15
    have f17 := ti_shl1 4 16 uP (by decide) (by omega)
    have f16 := ti_or 5 32 pQ (1 <<< (uP &&& 31)) (by decide) (by omega) (by omega)
    have hv15 := congrArg Int32.toInt ev15
    exact ts_X7_readBehindThing_105 rY qM h_tx_stop h_tx_signs hpost x2 x3 qJ qB sH uP v15 mW sJ uU h_x2 h_x3 h_tx_place h_ru_drafted h_ru_waits h_ru_open (by omega) h_ru_wantsThing h_ru_waiting
set_option maxHeartbeats 8000000 in
set_option maxRecDepth 200000 in
theorem t_X7_readBehindThing {post : Int32 → Int32 → Int32 → Int32 → Int32 → Int32 → Int32 → (Nat → Int32) → (Nat → Int32) → Prop} {qJ rY : Int32} {qM : Nat → Int32} {qB sH uP pQ mW : Int32} {sJ uU : Nat → Int32} (h_tx_place : 0 ≤ Int32.toInt qJ ∧ Int32.toInt qJ ≤ 40) (h_tx_stop : 1 ≤ Int32.toInt rY ∧ Int32.toInt rY ≤ 40) (h_tx_signs : ∀ k : Nat, 0 ≤ Int32.toInt (qM k) ∧ Int32.toInt (qM k) ≤ 65535) (h_ru_drafted : 0 ≤ Int32.toInt qB ∧ Int32.toInt qB ≤ 40) (h_ru_waits : 0 ≤ Int32.toInt sH ∧ Int32.toInt sH ≤ 40) (h_ru_open : 0 ≤ Int32.toInt uP ∧ Int32.toInt uP ≤ 4) (h_ru_compared : 0 ≤ Int32.toInt pQ ∧ Int32.toInt pQ ≤ 31) (h_ru_wantsThing : 0 ≤ Int32.toInt mW ∧ Int32.toInt mW ≤ 0) (h_ru_waiting : ∀ k : Nat, 0 ≤ Int32.toInt (sJ k) ∧ Int32.toInt (sJ k) ≤ 256) (hpost : ∀ (r : Int32) (tx_place' : Int32) (ru_drafted' : Int32) (ru_waits' : Int32) (ru_open' : Int32) (ru_compared' : Int32) (ru_wantsThing' : Int32) (ru_waiting' : Nat → Int32) (ru_draft' : Nat → Int32), (0 ≤ Int32.toInt r ∧ Int32.toInt r ≤ 1) → (0 ≤ Int32.toInt tx_place' ∧ Int32.toInt tx_place' ≤ 40) → (0 ≤ Int32.toInt ru_drafted' ∧ Int32.toInt ru_drafted' ≤ 40) → (0 ≤ Int32.toInt ru_waits' ∧ Int32.toInt ru_waits' ≤ 40) → (0 ≤ Int32.toInt ru_open' ∧ Int32.toInt ru_open' ≤ 4) → (0 ≤ Int32.toInt ru_compared' ∧ Int32.toInt ru_compared' ≤ 31) → (0 ≤ Int32.toInt ru_wantsThing' ∧ Int32.toInt ru_wantsThing' ≤ 1) → (∀ k : Nat, 0 ≤ Int32.toInt (ru_waiting' k) ∧ Int32.toInt (ru_waiting' k) ≤ 256) → post r tx_place' ru_drafted' ru_waits' ru_open' ru_compared' ru_wantsThing' ru_waiting' ru_draft') : wp_X7_readBehindThing post qJ rY qM qB sH uP pQ mW sJ uU := by
  have l0 := li_m1
  have l1 := li_0
  have l2 := li_1
  have l3 := li_2
  have l4 := li_256
  have l5 := li_3
  have l6 := li_4
  have l7 := li_41
  have l8 := li_42
  have l9 := li_43
  have l10 := li_45
  have l11 := li_47
  have l12 := li_60
  have l13 := li_61
  have l14 := li_62
  refine And.intro (fun c18 => ?_) (fun c18 => ?_)
  · skip
    have c18 := (fa_le _ _).mp c18
    refine And.intro (fun _ => ?_) (fun h9 => absurd h9 (by decide))
    refine And.intro (fun c19 => ?_) ?_
    · skip
      have c19 := (fa_eq _ _).mp c19
      exfalso; omega
    refine And.intro (fun c20 => ?_) ?_
    · skip
      have c20 := (fa_eq _ _).mp c20
      exfalso; omega
    refine And.intro (fun c21 => ?_) ?_
    · skip
      have c21 := (fa_eq _ _).mp c21
      exfalso; omega
    refine And.intro (fun c22 => ?_) ?_
    · skip
      have c22 := (fa_eq _ _).mp c22
      exfalso; omega
    refine And.intro (fun c23 => ?_) ?_
    · skip
      have c23 := (fa_eq _ _).mp c23
      exfalso; omega
    refine And.intro (fun c24 => ?_) ?_
    · skip
      have c24 := (fa_eq _ _).mp c24
      exfalso; omega
    refine And.intro (fun c25 => ?_) ?_
    · skip
      have c25 := (fa_eq _ _).mp c25
      exfalso; omega
    refine And.intro (fun c26 => ?_) ?_
    · skip
      have c26 := (fa_eq _ _).mp c26
      exfalso; omega
    intro c27 c28 c29 c30 c31 c32 c33 c34
    have c27 := mt (fa_eq _ _).mpr c27
    have c28 := mt (fa_eq _ _).mpr c28
    have c29 := mt (fa_eq _ _).mpr c29
    have c30 := mt (fa_eq _ _).mpr c30
    have c31 := mt (fa_eq _ _).mpr c31
    have c32 := mt (fa_eq _ _).mpr c32
    have c33 := mt (fa_eq _ _).mpr c33
    have c34 := mt (fa_eq _ _).mpr c34
    refine And.intro (fun _ => ?_) (fun h9 => absurd h9 (by decide))
    exact hpost _ _ _ _ _ _ _ _ _ (by omega) h_tx_place h_ru_drafted h_ru_waits h_ru_open h_ru_compared (by omega) h_ru_waiting
  · skip
    have c18 := mt (fa_le _ _).mpr c18
    refine And.intro (t_in (by omega)) ?_
    intro v35 ev35
    have f36 := h_tx_signs qJ.toNatClampNeg
    have hv35 := congrArg Int32.toInt ev35
    refine And.intro (fun c37 => ?_) (fun c37 => ?_)
    · skip
      have c37 := mt (fa_eq _ _).mpr c37
      refine And.intro (fun c38 => ?_) ?_
      · skip
        have c38 := (fa_eq _ _).mp c38
        refine And.intro (fun h9 => absurd h9 (by decide)) (fun _ => ?_)
        refine And.intro (fun _ => ?_) (fun h9 => absurd h9 (by decide))
        exact ts_X7_readBehindThing_85 rY qM h_tx_stop h_tx_signs hpost v35 3 qJ qB sH uP pQ mW sJ uU (by omega) (by omega) h_tx_place h_ru_drafted h_ru_waits h_ru_open h_ru_compared h_ru_wantsThing h_ru_waiting
      refine And.intro (fun c39 => ?_) ?_
      · skip
        have c39 := (fa_eq _ _).mp c39
        refine And.intro (fun h9 => absurd h9 (by decide)) (fun _ => ?_)
        refine And.intro (fun _ => ?_) (fun h9 => absurd h9 (by decide))
        exact ts_X7_readBehindThing_85 rY qM h_tx_stop h_tx_signs hpost v35 2 qJ qB sH uP pQ mW sJ uU (by omega) (by omega) h_tx_place h_ru_drafted h_ru_waits h_ru_open h_ru_compared h_ru_wantsThing h_ru_waiting
      refine And.intro (fun c40 => ?_) ?_
      · skip
        have c40 := (fa_eq _ _).mp c40
        refine And.intro (fun h9 => absurd h9 (by decide)) (fun _ => ?_)
        refine And.intro (fun _ => ?_) (fun h9 => absurd h9 (by decide))
        exact ts_X7_readBehindThing_85 rY qM h_tx_stop h_tx_signs hpost v35 2 qJ qB sH uP pQ mW sJ uU (by omega) (by omega) h_tx_place h_ru_drafted h_ru_waits h_ru_open h_ru_compared h_ru_wantsThing h_ru_waiting
      refine And.intro (fun c41 => ?_) ?_
      · skip
        have c41 := (fa_eq _ _).mp c41
        refine And.intro (fun h9 => absurd h9 (by decide)) (fun _ => ?_)
        refine And.intro (fun _ => ?_) (fun h9 => absurd h9 (by decide))
        exact ts_X7_readBehindThing_85 rY qM h_tx_stop h_tx_signs hpost v35 3 qJ qB sH uP pQ mW sJ uU (by omega) (by omega) h_tx_place h_ru_drafted h_ru_waits h_ru_open h_ru_compared h_ru_wantsThing h_ru_waiting
      refine And.intro (fun c42 => ?_) ?_
      · skip
        have c42 := (fa_eq _ _).mp c42
        refine And.intro (fun h9 => absurd h9 (by decide)) (fun _ => ?_)
        refine And.intro (fun h9 => absurd h9 (by decide)) (fun _ => ?_)
        intro v43 ev43
        have f44 := ti_shr pQ uP (by omega)
        have hv43 := congrArg Int32.toInt ev43
        have f46 := ti_andr v43 1 (by omega)
        have f47 := ti_andl v43 1 (by omega)
        refine And.intro (fun c45 => ?_) (fun c45 => ?_)
        · skip
          have c45 := (fa_eq _ _).mp c45
          exact ts_X7_readBehindThing_85 rY qM h_tx_stop h_tx_signs hpost v35 1 qJ qB sH uP pQ mW sJ uU (by omega) (by omega) h_tx_place h_ru_drafted h_ru_waits h_ru_open h_ru_compared h_ru_wantsThing h_ru_waiting
        · skip
          have c45 := mt (fa_eq _ _).mpr c45
          exact hpost _ _ _ _ _ _ _ _ _ (by omega) h_tx_place h_ru_drafted h_ru_waits h_ru_open h_ru_compared (by omega) h_ru_waiting
      refine And.intro (fun c48 => ?_) ?_
      · skip
        have c48 := (fa_eq _ _).mp c48
        refine And.intro (fun h9 => absurd h9 (by decide)) (fun _ => ?_)
        refine And.intro (fun h9 => absurd h9 (by decide)) (fun _ => ?_)
        intro v49 ev49
        have f50 := ti_shr pQ uP (by omega)
        have hv49 := congrArg Int32.toInt ev49
        have f52 := ti_andr v49 1 (by omega)
        have f53 := ti_andl v49 1 (by omega)
        refine And.intro (fun c51 => ?_) (fun c51 => ?_)
        · skip
          have c51 := (fa_eq _ _).mp c51
          exact ts_X7_readBehindThing_85 rY qM h_tx_stop h_tx_signs hpost v35 1 qJ qB sH uP pQ mW sJ uU (by omega) (by omega) h_tx_place h_ru_drafted h_ru_waits h_ru_open h_ru_compared h_ru_wantsThing h_ru_waiting
        · skip
          have c51 := mt (fa_eq _ _).mpr c51
          exact hpost _ _ _ _ _ _ _ _ _ (by omega) h_tx_place h_ru_drafted h_ru_waits h_ru_open h_ru_compared (by omega) h_ru_waiting
      refine And.intro (fun c54 => ?_) ?_
      · skip
        have c54 := (fa_eq _ _).mp c54
        refine And.intro (fun h9 => absurd h9 (by decide)) (fun _ => ?_)
        refine And.intro (fun h9 => absurd h9 (by decide)) (fun _ => ?_)
        intro v55 ev55
        have f56 := ti_shr pQ uP (by omega)
        have hv55 := congrArg Int32.toInt ev55
        have f58 := ti_andr v55 1 (by omega)
        have f59 := ti_andl v55 1 (by omega)
        refine And.intro (fun c57 => ?_) (fun c57 => ?_)
        · skip
          have c57 := (fa_eq _ _).mp c57
          exact ts_X7_readBehindThing_85 rY qM h_tx_stop h_tx_signs hpost v35 1 qJ qB sH uP pQ mW sJ uU (by omega) (by omega) h_tx_place h_ru_drafted h_ru_waits h_ru_open h_ru_compared h_ru_wantsThing h_ru_waiting
        · skip
          have c57 := mt (fa_eq _ _).mpr c57
          exact hpost _ _ _ _ _ _ _ _ _ (by omega) h_tx_place h_ru_drafted h_ru_waits h_ru_open h_ru_compared (by omega) h_ru_waiting
      refine And.intro (fun c60 => ?_) ?_
      · skip
        have c60 := (fa_eq _ _).mp c60
        refine And.intro (fun h9 => absurd h9 (by decide)) (fun _ => ?_)
        refine And.intro (fun _ => ?_) (fun h9 => absurd h9 (by decide))
        exact ts_X7_readBehindThing_85 rY qM h_tx_stop h_tx_signs hpost v35 4 qJ qB sH uP pQ mW sJ uU (by omega) (by omega) h_tx_place h_ru_drafted h_ru_waits h_ru_open h_ru_compared h_ru_wantsThing h_ru_waiting
      intro c61 c62 c63 c64 c65 c66 c67 c68
      have c61 := mt (fa_eq _ _).mpr c61
      have c62 := mt (fa_eq _ _).mpr c62
      have c63 := mt (fa_eq _ _).mpr c63
      have c64 := mt (fa_eq _ _).mpr c64
      have c65 := mt (fa_eq _ _).mpr c65
      have c66 := mt (fa_eq _ _).mpr c66
      have c67 := mt (fa_eq _ _).mpr c67
      have c68 := mt (fa_eq _ _).mpr c68
      refine And.intro (fun _ => ?_) (fun h9 => absurd h9 (by decide))
      exact hpost _ _ _ _ _ _ _ _ _ (by omega) h_tx_place h_ru_drafted h_ru_waits h_ru_open h_ru_compared (by omega) h_ru_waiting
    · skip
      have c37 := (fa_eq _ _).mp c37
      refine And.intro (fun c69 => ?_) (fun c69 => ?_)
      · skip
        have c69 := mt (fa_eq _ _).mpr c69
        refine t_X7_settle (by omega) h_ru_drafted h_ru_waits h_ru_waiting (fun ru_drafted_70 ru_waits_71 ru_draft_72 h_ru_drafted_70 h_ru_waits_71 => ?_)
        intro v73 ev73
        have f74 : Int32.toInt (ru_waits_71 - 1) = Int32.toInt ru_waits_71 - Int32.toInt (1 : Int32) := ta_sub _ _ (by omega)
        rw [← ev73] at f74
        intro v75 ev75
        have f76 := ti_max (0 : Int32) v73
        have hv75 := congrArg Int32.toInt ev75
        intro v77 ev77
        have f78 : Int32.toInt (uP - 1) = Int32.toInt uP - Int32.toInt (1 : Int32) := ta_sub _ _ (by omega)
        rw [← ev77] at f78
        refine And.intro (fun c79 => ?_) (fun c79 => ?_)
        · skip
          have c79 := (fa_le _ _).mp c79
          exact hpost _ _ _ _ _ _ _ _ _ (by omega) h_tx_place h_ru_drafted_70 (by omega) (by omega) h_ru_compared (by omega) h_ru_waiting
        · skip
          have c79 := mt (fa_le _ _).mpr c79
          intro v80 ev80
          have f81 : Int32.toInt (qJ + 1) = Int32.toInt qJ + Int32.toInt (1 : Int32) := ta_add _ _ (by omega)
          rw [← ev80] at f81
          exact hpost _ _ _ _ _ _ _ _ _ (by omega) (by omega) h_ru_drafted_70 (by omega) (by omega) h_ru_compared (by omega) h_ru_waiting
      · skip
        have c69 := (fa_eq _ _).mp c69
        exact hpost _ _ _ _ _ _ _ _ _ (by omega) h_tx_place h_ru_drafted h_ru_waits h_ru_open h_ru_compared (by omega) h_ru_waiting
set_option maxHeartbeats 8000000 in
set_option maxRecDepth 200000 in
theorem ts_X7_read_75 {post : Int32 → Int32 → Int32 → Int32 → Int32 → Int32 → Int32 → Int32 → (Nat → Int32) → (Nat → Int32) → (Nat → Int32) → Prop} (qI rY : Int32) (qM : Nat → Int32) (h_tx_length : 1 ≤ Int32.toInt qI ∧ Int32.toInt qI ≤ 80) (h_tx_stop : 0 ≤ Int32.toInt rY ∧ Int32.toInt rY ≤ 40) (h_tx_signs : ∀ k : Nat, 0 ≤ Int32.toInt (qM k) ∧ Int32.toInt (qM k) ≤ 65535) (hpost : ∀ (r : Int32) (tx_place' : Int32) (ru_length' : Int32) (ru_drafted' : Int32) (ru_waits' : Int32) (ru_open' : Int32) (ru_compared' : Int32) (ru_wantsThing' : Int32) (ru_waiting' : Nat → Int32) (ru_program' : Nat → Int32) (ru_draft' : Nat → Int32), (0 ≤ Int32.toInt r ∧ Int32.toInt r ≤ 1) → (0 ≤ Int32.toInt tx_place' ∧ Int32.toInt tx_place' ≤ 80) → (0 ≤ Int32.toInt ru_length' ∧ Int32.toInt ru_length' ≤ 40) → (0 ≤ Int32.toInt ru_drafted' ∧ Int32.toInt ru_drafted' ≤ 40) → (0 ≤ Int32.toInt ru_waits' ∧ Int32.toInt ru_waits' ≤ 40) → (0 ≤ Int32.toInt ru_open' ∧ Int32.toInt ru_open' ≤ 4) → (0 ≤ Int32.toInt ru_compared' ∧ Int32.toInt ru_compared' ≤ 31) → (0 ≤ Int32.toInt ru_wantsThing' ∧ Int32.toInt ru_wantsThing' ≤ 1) → (∀ k : Nat, 0 ≤ Int32.toInt (ru_waiting' k) ∧ Int32.toInt (ru_waiting' k) ≤ 256) → post r tx_place' ru_length' ru_drafted' ru_waits' ru_open' ru_compared' ru_wantsThing' ru_waiting' ru_program' ru_draft') (qJ pG qB sH uP pQ mW : Int32) (sJ oF uU : Nat → Int32) (h_tx_place : 0 ≤ Int32.toInt qJ ∧ Int32.toInt qJ ≤ 80) (h_ru_length : 0 ≤ Int32.toInt pG ∧ Int32.toInt pG ≤ 40) (h_ru_drafted : 0 ≤ Int32.toInt qB ∧ Int32.toInt qB ≤ 40) (h_ru_waits : 0 ≤ Int32.toInt sH ∧ Int32.toInt sH ≤ 40) (h_ru_open : 0 ≤ Int32.toInt uP ∧ Int32.toInt uP ≤ 4) (h_ru_compared : 0 ≤ Int32.toInt pQ ∧ Int32.toInt pQ ≤ 31) (h_ru_wantsThing : 0 ≤ Int32.toInt mW ∧ Int32.toInt mW ≤ 1) (h_ru_waiting : ∀ k : Nat, 0 ≤ Int32.toInt (sJ k) ∧ Int32.toInt (sJ k) ≤ 256) : ws_X7_read_75 post qI rY qM qJ pG qB sH uP pQ mW sJ oF uU := by
  have l0 := li_0
  have l1 := li_1
  refine And.intro (fun c1 => ?_) (fun c1 => ?_)
  · skip
    have c1 := mt (fa_eq _ _).mpr c1
    exact hpost _ _ _ _ _ _ _ _ _ _ _ (by omega) h_tx_place h_ru_length h_ru_drafted h_ru_waits h_ru_open h_ru_compared h_ru_wantsThing h_ru_waiting
  · skip
    have c1 := (fa_eq _ _).mp c1
    refine And.intro (fun c2 => ?_) (fun c2 => ?_)
    · skip
      have c2 := (fa_lt _ _).mp c2
      exact hpost _ _ _ _ _ _ _ _ _ _ _ (by omega) h_tx_place h_ru_length h_ru_drafted h_ru_waits h_ru_open h_ru_compared h_ru_wantsThing h_ru_waiting
    · skip
      have c2 := mt (fa_lt _ _).mpr c2
      refine And.intro (fun c3 => ?_) (fun c3 => ?_)
      · skip
        have c3 := mt (fa_eq _ _).mpr c3
        refine And.intro (fun h9 => absurd h9 (by decide)) (fun _ => ?_)
        exact hpost _ _ _ _ _ _ _ _ _ _ _ (by omega) h_tx_place h_ru_length h_ru_drafted h_ru_waits h_ru_open h_ru_compared h_ru_wantsThing h_ru_waiting
      · skip
        have c3 := (fa_eq _ _).mp c3
        refine And.intro (fun _ => ?_) (fun h9 => absurd h9 (by decide))
        refine t_X7_settle (by omega) h_ru_drafted h_ru_waits h_ru_waiting (fun ru_drafted_4 ru_waits_5 ru_draft_6 h_ru_drafted_4 h_ru_waits_5 => ?_)
        exact hpost _ _ _ _ _ _ _ _ _ _ _ (by omega) h_tx_place h_ru_drafted_4 h_ru_drafted_4 h_ru_waits_5 h_ru_open h_ru_compared h_ru_wantsThing h_ru_waiting
set_option maxHeartbeats 8000000 in
set_option maxRecDepth 200000 in
theorem ts_X7_read_69 {post K27 : Int32 → Int32 → Int32 → Int32 → Int32 → Int32 → Int32 → Int32 → (Nat → Int32) → (Nat → Int32) → (Nat → Int32) → Prop} {n27 : Int} (qI rY : Int32) (qM : Nat → Int32) (h_tx_length : 1 ≤ Int32.toInt qI ∧ Int32.toInt qI ≤ 80) (h_tx_stop : 0 ≤ Int32.toInt rY ∧ Int32.toInt rY ≤ 40) (h_tx_signs : ∀ k : Nat, 0 ≤ Int32.toInt (qM k) ∧ Int32.toInt (qM k) ≤ 65535) (hpost : ∀ (r : Int32) (tx_place' : Int32) (ru_length' : Int32) (ru_drafted' : Int32) (ru_waits' : Int32) (ru_open' : Int32) (ru_compared' : Int32) (ru_wantsThing' : Int32) (ru_waiting' : Nat → Int32) (ru_program' : Nat → Int32) (ru_draft' : Nat → Int32), (0 ≤ Int32.toInt r ∧ Int32.toInt r ≤ 1) → (0 ≤ Int32.toInt tx_place' ∧ Int32.toInt tx_place' ≤ 80) → (0 ≤ Int32.toInt ru_length' ∧ Int32.toInt ru_length' ≤ 40) → (0 ≤ Int32.toInt ru_drafted' ∧ Int32.toInt ru_drafted' ≤ 40) → (0 ≤ Int32.toInt ru_waits' ∧ Int32.toInt ru_waits' ≤ 40) → (0 ≤ Int32.toInt ru_open' ∧ Int32.toInt ru_open' ≤ 4) → (0 ≤ Int32.toInt ru_compared' ∧ Int32.toInt ru_compared' ≤ 31) → (0 ≤ Int32.toInt ru_wantsThing' ∧ Int32.toInt ru_wantsThing' ≤ 1) → (∀ k : Nat, 0 ≤ Int32.toInt (ru_waiting' k) ∧ Int32.toInt (ru_waiting' k) ≤ 256) → post r tx_place' ru_length' ru_drafted' ru_waits' ru_open' ru_compared' ru_wantsThing' ru_waiting' ru_program' ru_draft') (hK27 : ∀ (x2 : Int32) (qJ : Int32) (pG : Int32) (qB : Int32) (sH : Int32) (uP : Int32) (pQ : Int32) (mW : Int32) (sJ : Nat → Int32) (oF : Nat → Int32) (uU : Nat → Int32), (0 ≤ Int32.toInt x2 ∧ Int32.toInt x2 ≤ 48) → (0 ≤ Int32.toInt qJ ∧ Int32.toInt qJ ≤ 80) → (0 ≤ Int32.toInt pG ∧ Int32.toInt pG ≤ 40) → (0 ≤ Int32.toInt qB ∧ Int32.toInt qB ≤ 40) → (0 ≤ Int32.toInt sH ∧ Int32.toInt sH ≤ 40) → (0 ≤ Int32.toInt uP ∧ Int32.toInt uP ≤ 4) → (0 ≤ Int32.toInt pQ ∧ Int32.toInt pQ ≤ 31) → (0 ≤ Int32.toInt mW ∧ Int32.toInt mW ≤ 1) → (∀ k : Nat, 0 ≤ Int32.toInt (sJ k) ∧ Int32.toInt (sJ k) ≤ 256) → (48 - Int32.toInt x2 < n27) → K27 x2 qJ pG qB sH uP pQ mW sJ oF uU) (x2 qJ pG qB sH uP pQ mW : Int32) (sJ oF uU : Nat → Int32) (h_x2 : 0 ≤ Int32.toInt x2 ∧ Int32.toInt x2 ≤ 40) (h_tx_place : 0 ≤ Int32.toInt qJ ∧ Int32.toInt qJ ≤ 80) (h_ru_length : 0 ≤ Int32.toInt pG ∧ Int32.toInt pG ≤ 40) (h_ru_drafted : 0 ≤ Int32.toInt qB ∧ Int32.toInt qB ≤ 40) (h_ru_waits : 0 ≤ Int32.toInt sH ∧ Int32.toInt sH ≤ 40) (h_ru_open : 0 ≤ Int32.toInt uP ∧ Int32.toInt uP ≤ 4) (h_ru_compared : 0 ≤ Int32.toInt pQ ∧ Int32.toInt pQ ≤ 31) (h_ru_wantsThing : 0 ≤ Int32.toInt mW ∧ Int32.toInt mW ≤ 1) (h_ru_waiting : ∀ k : Nat, 0 ≤ Int32.toInt (sJ k) ∧ Int32.toInt (sJ k) ≤ 256) (hn27 : 48 - Int32.toInt x2 ≤ n27) : ws_X7_read_69 post K27 qI rY qM x2 qJ pG qB sH uP pQ mW sJ oF uU := by
  have l0 := li_1
  intro v7 ev7
  have f8 : Int32.toInt (x2 + 1) = Int32.toInt x2 + Int32.toInt (1 : Int32) := ta_add _ _ (by omega)
  rw [← ev7] at f8
  exact hK27 v7 qJ pG qB sH uP pQ mW sJ oF uU (by omega) h_tx_place h_ru_length h_ru_drafted h_ru_waits h_ru_open h_ru_compared h_ru_wantsThing h_ru_waiting (by omega)
set_option maxHeartbeats 8000000 in
set_option maxRecDepth 200000 in
theorem ts_X7_read_27 {post next : Int32 → Int32 → Int32 → Int32 → Int32 → Int32 → Int32 → Int32 → (Nat → Int32) → (Nat → Int32) → (Nat → Int32) → Prop} {n27 : Int} (qI rY : Int32) (qM : Nat → Int32) (h_tx_length : 1 ≤ Int32.toInt qI ∧ Int32.toInt qI ≤ 80) (h_tx_stop : 0 ≤ Int32.toInt rY ∧ Int32.toInt rY ≤ 40) (h_tx_signs : ∀ k : Nat, 0 ≤ Int32.toInt (qM k) ∧ Int32.toInt (qM k) ≤ 65535) (hpost : ∀ (r : Int32) (tx_place' : Int32) (ru_length' : Int32) (ru_drafted' : Int32) (ru_waits' : Int32) (ru_open' : Int32) (ru_compared' : Int32) (ru_wantsThing' : Int32) (ru_waiting' : Nat → Int32) (ru_program' : Nat → Int32) (ru_draft' : Nat → Int32), (0 ≤ Int32.toInt r ∧ Int32.toInt r ≤ 1) → (0 ≤ Int32.toInt tx_place' ∧ Int32.toInt tx_place' ≤ 80) → (0 ≤ Int32.toInt ru_length' ∧ Int32.toInt ru_length' ≤ 40) → (0 ≤ Int32.toInt ru_drafted' ∧ Int32.toInt ru_drafted' ≤ 40) → (0 ≤ Int32.toInt ru_waits' ∧ Int32.toInt ru_waits' ≤ 40) → (0 ≤ Int32.toInt ru_open' ∧ Int32.toInt ru_open' ≤ 4) → (0 ≤ Int32.toInt ru_compared' ∧ Int32.toInt ru_compared' ≤ 31) → (0 ≤ Int32.toInt ru_wantsThing' ∧ Int32.toInt ru_wantsThing' ≤ 1) → (∀ k : Nat, 0 ≤ Int32.toInt (ru_waiting' k) ∧ Int32.toInt (ru_waiting' k) ≤ 256) → post r tx_place' ru_length' ru_drafted' ru_waits' ru_open' ru_compared' ru_wantsThing' ru_waiting' ru_program' ru_draft') (hKn : ∀ (x2 : Int32) (qJ : Int32) (pG : Int32) (qB : Int32) (sH : Int32) (uP : Int32) (pQ : Int32) (mW : Int32) (sJ : Nat → Int32) (oF : Nat → Int32) (uU : Nat → Int32), (0 ≤ Int32.toInt x2 ∧ Int32.toInt x2 ≤ 48) → (0 ≤ Int32.toInt qJ ∧ Int32.toInt qJ ≤ 80) → (0 ≤ Int32.toInt pG ∧ Int32.toInt pG ≤ 40) → (0 ≤ Int32.toInt qB ∧ Int32.toInt qB ≤ 40) → (0 ≤ Int32.toInt sH ∧ Int32.toInt sH ≤ 40) → (0 ≤ Int32.toInt uP ∧ Int32.toInt uP ≤ 4) → (0 ≤ Int32.toInt pQ ∧ Int32.toInt pQ ≤ 31) → (0 ≤ Int32.toInt mW ∧ Int32.toInt mW ≤ 1) → (∀ k : Nat, 0 ≤ Int32.toInt (sJ k) ∧ Int32.toInt (sJ k) ≤ 256) → (48 - Int32.toInt x2 < n27) → next x2 qJ pG qB sH uP pQ mW sJ oF uU) (x2 qJ pG qB sH uP pQ mW : Int32) (sJ oF uU : Nat → Int32) (h_x2 : 0 ≤ Int32.toInt x2 ∧ Int32.toInt x2 ≤ 48) (h_tx_place : 0 ≤ Int32.toInt qJ ∧ Int32.toInt qJ ≤ 80) (h_ru_length : 0 ≤ Int32.toInt pG ∧ Int32.toInt pG ≤ 40) (h_ru_drafted : 0 ≤ Int32.toInt qB ∧ Int32.toInt qB ≤ 40) (h_ru_waits : 0 ≤ Int32.toInt sH ∧ Int32.toInt sH ≤ 40) (h_ru_open : 0 ≤ Int32.toInt uP ∧ Int32.toInt uP ≤ 4) (h_ru_compared : 0 ≤ Int32.toInt pQ ∧ Int32.toInt pQ ≤ 31) (h_ru_wantsThing : 0 ≤ Int32.toInt mW ∧ Int32.toInt mW ≤ 1) (h_ru_waiting : ∀ k : Nat, 0 ≤ Int32.toInt (sJ k) ∧ Int32.toInt (sJ k) ≤ 256) (hn27 : 48 - Int32.toInt x2 ≤ n27) : ws_X7_read_27 post next qI rY qM x2 qJ pG qB sH uP pQ mW sJ oF uU := by
  have l0 := li_m1
  have l1 := li_0
  have l2 := li_40
  refine And.intro (fun c9 => ?_) (fun c9 => ?_)
  · skip
    have c9 := (fa_le _ _).mp c9
    exact ts_X7_read_75 qI rY qM h_tx_length h_tx_stop h_tx_signs hpost qJ pG qB sH uP pQ mW sJ oF uU h_tx_place h_ru_length h_ru_drafted h_ru_waits h_ru_open h_ru_compared h_ru_wantsThing h_ru_waiting
  · skip
    have c9 := mt (fa_le _ _).mpr c9
    refine And.intro (fun c10 => ?_) (fun c10 => ?_)
    · skip
      have c10 := (fa_le _ _).mp c10
      refine And.intro (fun _ => ?_) (fun h9 => absurd h9 (by decide))
      exact ts_X7_read_75 qI rY qM h_tx_length h_tx_stop h_tx_signs hpost qJ pG qB sH uP pQ mW sJ oF uU h_tx_place h_ru_length h_ru_drafted h_ru_waits h_ru_open h_ru_compared h_ru_wantsThing h_ru_waiting
    · skip
      have c10 := mt (fa_le _ _).mpr c10
      refine And.intro (t_in (by omega)) ?_
      intro v11 ev11
      have f12 := h_tx_signs qJ.toNatClampNeg
      have hv11 := congrArg Int32.toInt ev11
      refine And.intro (fun c13 => ?_) (fun c13 => ?_)
      · skip
        have c13 := (fa_eq _ _).mp c13
        exfalso; omega
      · skip
        have c13 := mt (fa_eq _ _).mpr c13
        refine And.intro (fun c14 => ?_) (fun c14 => ?_)
        · skip
          have c14 := (fa_eq _ _).mp c14
          refine t_X7_readBehindThing (by omega) (by omega) h_tx_signs h_ru_drafted h_ru_waits h_ru_open h_ru_compared (by omega) h_ru_waiting (fun r23 tx_place_15 ru_drafted_16 ru_waits_17 ru_open_18 ru_compared_19 ru_wantsThing_20 ru_waiting_21 ru_draft_22 h_r23 h_tx_place_15 h_ru_drafted_16 h_ru_waits_17 h_ru_open_18 h_ru_compared_19 h_ru_wantsThing_20 h_ru_waiting_21 => ?_)
          refine And.intro (fun c24 => ?_) (fun c24 => ?_)
          · skip
            have c24 := mt (fa_eq _ _).mpr c24
            exact ts_X7_read_69 qI rY qM h_tx_length h_tx_stop h_tx_signs hpost hKn x2 tx_place_15 pG ru_drafted_16 ru_waits_17 ru_open_18 ru_compared_19 ru_wantsThing_20 ru_waiting_21 oF ru_draft_22 (by omega) (by omega) h_ru_length h_ru_drafted_16 h_ru_waits_17 h_ru_open_18 h_ru_compared_19 h_ru_wantsThing_20 h_ru_waiting_21 hn27
          · skip
            have c24 := (fa_eq _ _).mp c24
            exact hpost _ _ _ _ _ _ _ _ _ _ _ (by omega) (by omega) h_ru_length h_ru_drafted_16 h_ru_waits_17 h_ru_open_18 h_ru_compared_19 h_ru_wantsThing_20 h_ru_waiting_21
        · skip
          have c14 := mt (fa_eq _ _).mpr c14
          refine t_X7_readThing (by omega) (by omega) h_tx_signs h_ru_drafted h_ru_waits h_ru_open h_ru_compared (by omega) h_ru_waiting (fun r33 tx_place_25 ru_drafted_26 ru_waits_27 ru_open_28 ru_compared_29 ru_wantsThing_30 ru_waiting_31 ru_draft_32 h_r33 h_tx_place_25 h_ru_drafted_26 h_ru_waits_27 h_ru_open_28 h_ru_compared_29 h_ru_wantsThing_30 h_ru_waiting_31 => ?_)
          refine And.intro (fun c34 => ?_) (fun c34 => ?_)
          · skip
            have c34 := (fa_eq _ _).mp c34
            exact hpost _ _ _ _ _ _ _ _ _ _ _ (by omega) h_tx_place_25 h_ru_length h_ru_drafted_26 h_ru_waits_27 h_ru_open_28 h_ru_compared_29 h_ru_wantsThing_30 h_ru_waiting_31
          · skip
            have c34 := mt (fa_eq _ _).mpr c34
            exact ts_X7_read_69 qI rY qM h_tx_length h_tx_stop h_tx_signs hpost hKn x2 tx_place_25 pG ru_drafted_26 ru_waits_27 ru_open_28 ru_compared_29 ru_wantsThing_30 ru_waiting_31 oF ru_draft_32 (by omega) h_tx_place_25 h_ru_length h_ru_drafted_26 h_ru_waits_27 h_ru_open_28 h_ru_compared_29 h_ru_wantsThing_30 h_ru_waiting_31 hn27
set_option maxHeartbeats 8000000 in
set_option maxRecDepth 200000 in
theorem tb_X7_read_27 {post : Int32 → Int32 → Int32 → Int32 → Int32 → Int32 → Int32 → Int32 → (Nat → Int32) → (Nat → Int32) → (Nat → Int32) → Prop} (qI rY : Int32) (qM : Nat → Int32) (h_tx_length : 1 ≤ Int32.toInt qI ∧ Int32.toInt qI ≤ 80) (h_tx_stop : 0 ≤ Int32.toInt rY ∧ Int32.toInt rY ≤ 40) (h_tx_signs : ∀ k : Nat, 0 ≤ Int32.toInt (qM k) ∧ Int32.toInt (qM k) ≤ 65535) (hpost : ∀ (r : Int32) (tx_place' : Int32) (ru_length' : Int32) (ru_drafted' : Int32) (ru_waits' : Int32) (ru_open' : Int32) (ru_compared' : Int32) (ru_wantsThing' : Int32) (ru_waiting' : Nat → Int32) (ru_program' : Nat → Int32) (ru_draft' : Nat → Int32), (0 ≤ Int32.toInt r ∧ Int32.toInt r ≤ 1) → (0 ≤ Int32.toInt tx_place' ∧ Int32.toInt tx_place' ≤ 80) → (0 ≤ Int32.toInt ru_length' ∧ Int32.toInt ru_length' ≤ 40) → (0 ≤ Int32.toInt ru_drafted' ∧ Int32.toInt ru_drafted' ≤ 40) → (0 ≤ Int32.toInt ru_waits' ∧ Int32.toInt ru_waits' ≤ 40) → (0 ≤ Int32.toInt ru_open' ∧ Int32.toInt ru_open' ≤ 4) → (0 ≤ Int32.toInt ru_compared' ∧ Int32.toInt ru_compared' ≤ 31) → (0 ≤ Int32.toInt ru_wantsThing' ∧ Int32.toInt ru_wantsThing' ≤ 1) → (∀ k : Nat, 0 ≤ Int32.toInt (ru_waiting' k) ∧ Int32.toInt (ru_waiting' k) ≤ 256) → post r tx_place' ru_length' ru_drafted' ru_waits' ru_open' ru_compared' ru_wantsThing' ru_waiting' ru_program' ru_draft') : ∀ (n : Nat) (x2 qJ pG qB sH uP pQ mW : Int32) (sJ oF uU : Nat → Int32), (0 ≤ Int32.toInt x2 ∧ Int32.toInt x2 ≤ 48) → (0 ≤ Int32.toInt qJ ∧ Int32.toInt qJ ≤ 80) → (0 ≤ Int32.toInt pG ∧ Int32.toInt pG ≤ 40) → (0 ≤ Int32.toInt qB ∧ Int32.toInt qB ≤ 40) → (0 ≤ Int32.toInt sH ∧ Int32.toInt sH ≤ 40) → (0 ≤ Int32.toInt uP ∧ Int32.toInt uP ≤ 4) → (0 ≤ Int32.toInt pQ ∧ Int32.toInt pQ ≤ 31) → (0 ≤ Int32.toInt mW ∧ Int32.toInt mW ≤ 1) → (∀ k : Nat, 0 ≤ Int32.toInt (sJ k) ∧ Int32.toInt (sJ k) ≤ 256) → (48 - Int32.toInt x2 < (n : Int)) → wb_X7_read_27 post qI rY qM n x2 qJ pG qB sH uP pQ mW sJ oF uU := by
  intro n
  induction n with
  | zero =>
    intro x2 qJ pG qB sH uP pQ mW sJ oF uU h_x2 h_tx_place h_ru_length h_ru_drafted h_ru_waits h_ru_open h_ru_compared h_ru_wantsThing h_ru_waiting hm
    exfalso; omega
  | succ n ih =>
    intro x2 qJ pG qB sH uP pQ mW sJ oF uU h_x2 h_tx_place h_ru_length h_ru_drafted h_ru_waits h_ru_open h_ru_compared h_ru_wantsThing h_ru_waiting hm
    exact ts_X7_read_27 qI rY qM h_tx_length h_tx_stop h_tx_signs hpost ih x2 qJ pG qB sH uP pQ mW sJ oF uU h_x2 h_tx_place h_ru_length h_ru_drafted h_ru_waits h_ru_open h_ru_compared h_ru_wantsThing h_ru_waiting (by omega)
set_option maxHeartbeats 8000000 in
set_option maxRecDepth 200000 in
theorem t_X7_read {post : Int32 → Int32 → Int32 → Int32 → Int32 → Int32 → Int32 → Int32 → (Nat → Int32) → (Nat → Int32) → (Nat → Int32) → Prop} {qI qJ rY : Int32} {qM : Nat → Int32} {pG qB sH uP pQ mW : Int32} {sJ oF uU : Nat → Int32} (h_tx_length : 1 ≤ Int32.toInt qI ∧ Int32.toInt qI ≤ 80) (h_tx_place : 0 ≤ Int32.toInt qJ ∧ Int32.toInt qJ ≤ 0) (h_tx_stop : 0 ≤ Int32.toInt rY ∧ Int32.toInt rY ≤ 40) (h_tx_signs : ∀ k : Nat, 0 ≤ Int32.toInt (qM k) ∧ Int32.toInt (qM k) ≤ 65535) (h_ru_length : 0 ≤ Int32.toInt pG ∧ Int32.toInt pG ≤ 40) (h_ru_drafted : 0 ≤ Int32.toInt qB ∧ Int32.toInt qB ≤ 40) (h_ru_waits : 0 ≤ Int32.toInt sH ∧ Int32.toInt sH ≤ 40) (h_ru_open : 0 ≤ Int32.toInt uP ∧ Int32.toInt uP ≤ 4) (h_ru_compared : 0 ≤ Int32.toInt pQ ∧ Int32.toInt pQ ≤ 31) (h_ru_wantsThing : 0 ≤ Int32.toInt mW ∧ Int32.toInt mW ≤ 1) (h_ru_waiting : ∀ k : Nat, 0 ≤ Int32.toInt (sJ k) ∧ Int32.toInt (sJ k) ≤ 256) (hpost : ∀ (r : Int32) (tx_place' : Int32) (ru_length' : Int32) (ru_drafted' : Int32) (ru_waits' : Int32) (ru_open' : Int32) (ru_compared' : Int32) (ru_wantsThing' : Int32) (ru_waiting' : Nat → Int32) (ru_program' : Nat → Int32) (ru_draft' : Nat → Int32), (0 ≤ Int32.toInt r ∧ Int32.toInt r ≤ 1) → (0 ≤ Int32.toInt tx_place' ∧ Int32.toInt tx_place' ≤ 80) → (0 ≤ Int32.toInt ru_length' ∧ Int32.toInt ru_length' ≤ 40) → (0 ≤ Int32.toInt ru_drafted' ∧ Int32.toInt ru_drafted' ≤ 40) → (0 ≤ Int32.toInt ru_waits' ∧ Int32.toInt ru_waits' ≤ 40) → (0 ≤ Int32.toInt ru_open' ∧ Int32.toInt ru_open' ≤ 4) → (0 ≤ Int32.toInt ru_compared' ∧ Int32.toInt ru_compared' ≤ 31) → (0 ≤ Int32.toInt ru_wantsThing' ∧ Int32.toInt ru_wantsThing' ≤ 1) → (∀ k : Nat, 0 ≤ Int32.toInt (ru_waiting' k) ∧ Int32.toInt (ru_waiting' k) ≤ 256) → post r tx_place' ru_length' ru_drafted' ru_waits' ru_open' ru_compared' ru_wantsThing' ru_waiting' ru_program' ru_draft') : wp_X7_read post qI qJ rY qM pG qB sH uP pQ mW sJ oF uU := by
  have l0 := li_0
  have l1 := li_1
  exact ⟨50, tb_X7_read_27 qI rY qM h_tx_length h_tx_stop h_tx_signs hpost _ 0 qJ pG 0 0 0 0 1 sJ oF uU (by omega) (by omega) h_ru_length (by omega) (by omega) (by omega) (by omega) (by omega) h_ru_waiting (by omega)⟩
set_option maxHeartbeats 8000000 in
set_option maxRecDepth 200000 in
theorem ts_X9_rule_59 {post : Int32 → Int32 → Int32 → Int32 → Int32 → Int32 → Int32 → Int32 → Int32 → Int32 → (Nat → Int32) → (Nat → Int32) → (Nat → Int32) → Prop} (qM : Nat → Int32) (h_tx_signs : ∀ k : Nat, 0 ≤ Int32.toInt (qM k) ∧ Int32.toInt (qM k) ≤ 65535) (hpost : ∀ (r : Int32) (tx_length' : Int32) (tx_place' : Int32) (tx_stop' : Int32) (ru_length' : Int32) (ru_drafted' : Int32) (ru_waits' : Int32) (ru_open' : Int32) (ru_compared' : Int32) (ru_wantsThing' : Int32) (ru_waiting' : Nat → Int32) (ru_program' : Nat → Int32) (ru_draft' : Nat → Int32), (-100 ≤ Int32.toInt r ∧ Int32.toInt r ≤ 0) → (0 ≤ Int32.toInt tx_length' ∧ Int32.toInt tx_length' ≤ 0) → (0 ≤ Int32.toInt tx_place' ∧ Int32.toInt tx_place' ≤ 80) → (0 ≤ Int32.toInt tx_stop' ∧ Int32.toInt tx_stop' ≤ 40) → (0 ≤ Int32.toInt ru_length' ∧ Int32.toInt ru_length' ≤ 40) → (0 ≤ Int32.toInt ru_drafted' ∧ Int32.toInt ru_drafted' ≤ 40) → (0 ≤ Int32.toInt ru_waits' ∧ Int32.toInt ru_waits' ≤ 40) → (0 ≤ Int32.toInt ru_open' ∧ Int32.toInt ru_open' ≤ 4) → (0 ≤ Int32.toInt ru_compared' ∧ Int32.toInt ru_compared' ≤ 31) → (0 ≤ Int32.toInt ru_wantsThing' ∧ Int32.toInt ru_wantsThing' ≤ 1) → (∀ k : Nat, 0 ≤ Int32.toInt (ru_waiting' k) ∧ Int32.toInt (ru_waiting' k) ≤ 256) → post r tx_length' tx_place' tx_stop' ru_length' ru_drafted' ru_waits' ru_open' ru_compared' ru_wantsThing' ru_waiting' ru_program' ru_draft') (x1 qI qJ rY pG qB sH uP pQ mW : Int32) (sJ oF uU : Nat → Int32) (h_x1 : -100 ≤ Int32.toInt x1 ∧ Int32.toInt x1 ≤ 0) (h_tx_length : 0 ≤ Int32.toInt qI ∧ Int32.toInt qI ≤ 80) (h_tx_place : 0 ≤ Int32.toInt qJ ∧ Int32.toInt qJ ≤ 80) (h_tx_stop : 0 ≤ Int32.toInt rY ∧ Int32.toInt rY ≤ 40) (h_ru_length : 0 ≤ Int32.toInt pG ∧ Int32.toInt pG ≤ 40) (h_ru_drafted : 0 ≤ Int32.toInt qB ∧ Int32.toInt qB ≤ 40) (h_ru_waits : 0 ≤ Int32.toInt sH ∧ Int32.toInt sH ≤ 40) (h_ru_open : 0 ≤ Int32.toInt uP ∧ Int32.toInt uP ≤ 4) (h_ru_compared : 0 ≤ Int32.toInt pQ ∧ Int32.toInt pQ ≤ 31) (h_ru_wantsThing : 0 ≤ Int32.toInt mW ∧ Int32.toInt mW ≤ 1) (h_ru_waiting : ∀ k : Nat, 0 ≤ Int32.toInt (sJ k) ∧ Int32.toInt (sJ k) ≤ 256) : ws_X9_rule_59 post qM x1 qI qJ rY pG qB sH uP pQ mW sJ oF uU := by
  have l0 := li_0
  exact hpost _ _ _ _ _ _ _ _ _ _ _ _ _ h_x1 (by omega) h_tx_place h_tx_stop h_ru_length h_ru_drafted h_ru_waits h_ru_open h_ru_compared h_ru_wantsThing h_ru_waiting
set_option maxHeartbeats 8000000 in
set_option maxRecDepth 200000 in
theorem t_X9_rule {post : Int32 → Int32 → Int32 → Int32 → Int32 → Int32 → Int32 → Int32 → Int32 → Int32 → (Nat → Int32) → (Nat → Int32) → (Nat → Int32) → Prop} {qI qJ rY : Int32} {qM : Nat → Int32} {pG qB sH uP pQ mW : Int32} {sJ oF uU : Nat → Int32} (h_tx_length : 0 ≤ Int32.toInt qI ∧ Int32.toInt qI ≤ 80) (h_tx_place : 0 ≤ Int32.toInt qJ ∧ Int32.toInt qJ ≤ 80) (h_tx_stop : 0 ≤ Int32.toInt rY ∧ Int32.toInt rY ≤ 80) (h_tx_signs : ∀ k : Nat, 0 ≤ Int32.toInt (qM k) ∧ Int32.toInt (qM k) ≤ 65535) (h_ru_length : 0 ≤ Int32.toInt pG ∧ Int32.toInt pG ≤ 40) (h_ru_drafted : 0 ≤ Int32.toInt qB ∧ Int32.toInt qB ≤ 40) (h_ru_waits : 0 ≤ Int32.toInt sH ∧ Int32.toInt sH ≤ 40) (h_ru_open : 0 ≤ Int32.toInt uP ∧ Int32.toInt uP ≤ 4) (h_ru_compared : 0 ≤ Int32.toInt pQ ∧ Int32.toInt pQ ≤ 31) (h_ru_wantsThing : 0 ≤ Int32.toInt mW ∧ Int32.toInt mW ≤ 1) (h_ru_waiting : ∀ k : Nat, 0 ≤ Int32.toInt (sJ k) ∧ Int32.toInt (sJ k) ≤ 256) (hpost : ∀ (r : Int32) (tx_length' : Int32) (tx_place' : Int32) (tx_stop' : Int32) (ru_length' : Int32) (ru_drafted' : Int32) (ru_waits' : Int32) (ru_open' : Int32) (ru_compared' : Int32) (ru_wantsThing' : Int32) (ru_waiting' : Nat → Int32) (ru_program' : Nat → Int32) (ru_draft' : Nat → Int32), (-100 ≤ Int32.toInt r ∧ Int32.toInt r ≤ 0) → (0 ≤ Int32.toInt tx_length' ∧ Int32.toInt tx_length' ≤ 0) → (0 ≤ Int32.toInt tx_place' ∧ Int32.toInt tx_place' ≤ 80) → (0 ≤ Int32.toInt tx_stop' ∧ Int32.toInt tx_stop' ≤ 40) → (0 ≤ Int32.toInt ru_length' ∧ Int32.toInt ru_length' ≤ 40) → (0 ≤ Int32.toInt ru_drafted' ∧ Int32.toInt ru_drafted' ≤ 40) → (0 ≤ Int32.toInt ru_waits' ∧ Int32.toInt ru_waits' ≤ 40) → (0 ≤ Int32.toInt ru_open' ∧ Int32.toInt ru_open' ≤ 4) → (0 ≤ Int32.toInt ru_compared' ∧ Int32.toInt ru_compared' ≤ 31) → (0 ≤ Int32.toInt ru_wantsThing' ∧ Int32.toInt ru_wantsThing' ≤ 1) → (∀ k : Nat, 0 ≤ Int32.toInt (ru_waiting' k) ∧ Int32.toInt (ru_waiting' k) ≤ 256) → post r tx_length' tx_place' tx_stop' ru_length' ru_drafted' ru_waits' ru_open' ru_compared' ru_wantsThing' ru_waiting' ru_program' ru_draft') : wp_X9_rule post qI qJ rY qM pG qB sH uP pQ mW sJ oF uU := by
  have l0 := li_m1
  have l1 := li_0
  have l2 := li_40
  intro v1 ev1
  have f2 := ti_min qI (40 : Int32)
  have hv1 := congrArg Int32.toInt ev1
  refine And.intro (fun c3 => ?_) (fun c3 => ?_)
  · skip
    have c3 := mt (fa_eq _ _).mpr c3
    refine t_X7_read (by omega) (by omega) (by omega) h_tx_signs h_ru_length h_ru_drafted h_ru_waits h_ru_open h_ru_compared h_ru_wantsThing h_ru_waiting (fun r14 xU aDw aAR aF2 aIw aBW aA5 aAM aBX aAH h_r14 h_tx_place_4 h_ru_length_5 h_ru_drafted_6 h_ru_waits_7 h_ru_open_8 h_ru_compared_9 h_ru_wantsThing_10 h_ru_waiting_11 => ?_)
    refine And.intro (fun c15 => ?_) (fun c15 => ?_)
    · skip
      have c15 := mt (fa_eq _ _).mpr c15
      exact ts_X9_rule_59 qM h_tx_signs hpost 0 qI xU v1 aDw aAR aF2 aIw aBW aA5 aAM aBX aAH (by omega) h_tx_length h_tx_place_4 (by omega) h_ru_length_5 h_ru_drafted_6 h_ru_waits_7 h_ru_open_8 h_ru_compared_9 h_ru_wantsThing_10 h_ru_waiting_11
    · skip
      have c15 := (fa_eq _ _).mp c15
      have f16 : Int32.toInt ((-1) - xU) = Int32.toInt ((-1) : Int32) - Int32.toInt xU := ta_sub _ _ (by omega)
      obtain ⟨w17, ew17⟩ : ∃ w9 : Int32, w9 = (-1) - xU := ⟨_, rfl⟩
      rw [← ew17] at f16
      have key9 := ts_X9_rule_59 qM h_tx_signs hpost w17 qI xU v1 aDw aAR aF2 aIw aBW aA5 aAM aBX aAH (by omega) h_tx_length h_tx_place_4 (by omega) h_ru_length_5 h_ru_drafted_6 h_ru_waits_7 h_ru_open_8 h_ru_compared_9 h_ru_wantsThing_10 h_ru_waiting_11
      subst ew17
      exact key9
  · skip
    have c3 := (fa_eq _ _).mp c3
    exact ts_X9_rule_59 qM h_tx_signs hpost 0 qI 0 v1 0 qB sH uP pQ mW sJ oF uU (by omega) h_tx_length (by omega) (by omega) (by omega) h_ru_drafted h_ru_waits h_ru_open h_ru_compared h_ru_wantsThing h_ru_waiting
set_option maxHeartbeats 8000000 in
set_option maxRecDepth 200000 in
theorem ts_X3_lowerThan_89 {post : Int32 → Prop} {K15 : Int32 → Int32 → Int32 → Int32 → Prop} {n15 : Int} (bZ : Int32) (wD gF : Nat → Int32) (h_tr_fruits : 1 ≤ Int32.toInt bZ ∧ Int32.toInt bZ ≤ 16) (hpost : ∀ (r : Int32) , (0 ≤ Int32.toInt r ∧ Int32.toInt r ≤ 65535) → post r) (hK15 : ∀ (x1 : Int32) (x2 : Int32) (x3 : Int32) (x4 : Int32), (0 ≤ Int32.toInt x1 ∧ Int32.toInt x1 ≤ 15) → (0 ≤ Int32.toInt x2 ∧ Int32.toInt x2 ≤ 65535) → (0 ≤ Int32.toInt x3 ∧ Int32.toInt x3 ≤ 65535) → (0 ≤ Int32.toInt x4 ∧ Int32.toInt x4 ≤ 16) → (16 - Int32.toInt x4 < n15) → K15 x1 x2 x3 x4) (x1 x2 x3 x4 : Int32) (h_x1 : 0 ≤ Int32.toInt x1 ∧ Int32.toInt x1 ≤ 15) (h_x2 : 0 ≤ Int32.toInt x2 ∧ Int32.toInt x2 ≤ 65535) (h_x3 : 0 ≤ Int32.toInt x3 ∧ Int32.toInt x3 ≤ 65535) (h_x4 : 0 ≤ Int32.toInt x4 ∧ Int32.toInt x4 ≤ 15) (hn15 : 16 - Int32.toInt x4 ≤ n15) : ws_X3_lowerThan_89 post K15 bZ wD gF x1 x2 x3 x4 := by
  have l0 := li_1
  intro v1 ev1
  have f2 : Int32.toInt (x4 + 1) = Int32.toInt x4 + Int32.toInt (1 : Int32) := ta_add _ _ (by omega)
  rw [← ev1] at f2
  exact hK15 x1 x2 x3 v1 h_x1 h_x2 h_x3 (by omega) (by omega)
set_option maxHeartbeats 8000000 in
set_option maxRecDepth 200000 in
theorem ts_X3_lowerThan_66 {post : Int32 → Prop} {K15 : Int32 → Int32 → Int32 → Int32 → Prop} {n15 : Int} (bZ : Int32) (wD gF : Nat → Int32) (h_tr_fruits : 1 ≤ Int32.toInt bZ ∧ Int32.toInt bZ ≤ 16) (hpost : ∀ (r : Int32) , (0 ≤ Int32.toInt r ∧ Int32.toInt r ≤ 65535) → post r) (hK15 : ∀ (x1 : Int32) (x2 : Int32) (x3 : Int32) (x4 : Int32), (0 ≤ Int32.toInt x1 ∧ Int32.toInt x1 ≤ 15) → (0 ≤ Int32.toInt x2 ∧ Int32.toInt x2 ≤ 65535) → (0 ≤ Int32.toInt x3 ∧ Int32.toInt x3 ≤ 65535) → (0 ≤ Int32.toInt x4 ∧ Int32.toInt x4 ≤ 16) → (16 - Int32.toInt x4 < n15) → K15 x1 x2 x3 x4) (x1 x2 x3 x4 k0 : Int32) (h_x1 : 0 ≤ Int32.toInt x1 ∧ Int32.toInt x1 ≤ 15) (h_x2 : 0 ≤ Int32.toInt x2 ∧ Int32.toInt x2 ≤ 65535) (h_x3 : 0 ≤ Int32.toInt x3 ∧ Int32.toInt x3 ≤ 65535) (h_x4 : 0 ≤ Int32.toInt x4 ∧ Int32.toInt x4 ≤ 15) (h_k0 : 0 ≤ Int32.toInt k0 ∧ Int32.toInt k0 ≤ 1) (hn15 : 16 - Int32.toInt x4 ≤ n15) : ws_X3_lowerThan_66 post K15 bZ wD gF x1 x2 x3 x4 k0 := by
  have l0 := li_0
  have l1 := li_1
  refine And.intro (fun c3 => ?_) (fun c3 => ?_)
  · skip
    have c3 := (fa_eq _ _).mp c3
    exact ts_X3_lowerThan_89 bZ wD gF h_tr_fruits hpost hK15 x1 x2 x3 x4 h_x1 h_x2 h_x3 h_x4 hn15
  · skip
    have c3 := mt (fa_eq _ _).mpr c3
    intro v4 ev4
    have f5 := ti_shr x2 x4 (by omega)
    have hv4 := congrArg Int32.toInt ev4
    have f7 := ti_andr v4 1 (by omega)
    have f8 := ti_andl v4 1 (by omega)
    refine And.intro (fun c6 => ?_) (fun c6 => ?_)
    · skip
      have c6 := (fa_eq _ _).mp c6
      exact ts_X3_lowerThan_89 bZ wD gF h_tr_fruits hpost hK15 x1 x2 x3 x4 h_x1 h_x2 h_x3 h_x4 hn15
    · skip
      have c6 := mt (fa_eq _ _).mpr c6
      intro v9 ev9
      have f11 := ti_shl1 15 32768 x4 (by decide) (by omega)
      have f10 := ti_or 16 65536 x3 (1 <<< (x4 &&& 31)) (by decide) (by omega) (by omega)
      have hv9 := congrArg Int32.toInt ev9
      exact ts_X3_lowerThan_89 bZ wD gF h_tr_fruits hpost hK15 x1 x2 v9 x4 h_x1 h_x2 (by omega) h_x4 hn15
set_option maxHeartbeats 8000000 in
set_option maxRecDepth 200000 in
theorem ts_X3_lowerThan_65 {post : Int32 → Prop} {K15 : Int32 → Int32 → Int32 → Int32 → Prop} {n15 : Int} (bZ : Int32) (wD gF : Nat → Int32) (h_tr_fruits : 1 ≤ Int32.toInt bZ ∧ Int32.toInt bZ ≤ 16) (hpost : ∀ (r : Int32) , (0 ≤ Int32.toInt r ∧ Int32.toInt r ≤ 65535) → post r) (hK15 : ∀ (x1 : Int32) (x2 : Int32) (x3 : Int32) (x4 : Int32), (0 ≤ Int32.toInt x1 ∧ Int32.toInt x1 ≤ 15) → (0 ≤ Int32.toInt x2 ∧ Int32.toInt x2 ≤ 65535) → (0 ≤ Int32.toInt x3 ∧ Int32.toInt x3 ≤ 65535) → (0 ≤ Int32.toInt x4 ∧ Int32.toInt x4 ≤ 16) → (16 - Int32.toInt x4 < n15) → K15 x1 x2 x3 x4) (x1 x2 x3 x4 : Int32) (h_x1 : 0 ≤ Int32.toInt x1 ∧ Int32.toInt x1 ≤ 15) (h_x2 : 0 ≤ Int32.toInt x2 ∧ Int32.toInt x2 ≤ 65535) (h_x3 : 0 ≤ Int32.toInt x3 ∧ Int32.toInt x3 ≤ 65535) (h_x4 : 0 ≤ Int32.toInt x4 ∧ Int32.toInt x4 ≤ 15) (hn15 : 16 - Int32.toInt x4 ≤ n15) : ws_X3_lowerThan_65 post K15 bZ wD gF x1 x2 x3 x4 := by
  have l0 := li_0
  exact ts_X3_lowerThan_66 bZ wD gF h_tr_fruits hpost hK15 x1 x2 x3 x4 0 h_x1 h_x2 h_x3 h_x4 (by omega) hn15
set_option maxHeartbeats 8000000 in
set_option maxRecDepth 200000 in
theorem ts_X3_lowerThan_15 {post : Int32 → Prop} {next : Int32 → Int32 → Int32 → Int32 → Prop} {n15 : Int} (bZ : Int32) (wD gF : Nat → Int32) (h_tr_fruits : 1 ≤ Int32.toInt bZ ∧ Int32.toInt bZ ≤ 16) (hpost : ∀ (r : Int32) , (0 ≤ Int32.toInt r ∧ Int32.toInt r ≤ 65535) → post r) (hKn : ∀ (x1 : Int32) (x2 : Int32) (x3 : Int32) (x4 : Int32), (0 ≤ Int32.toInt x1 ∧ Int32.toInt x1 ≤ 15) → (0 ≤ Int32.toInt x2 ∧ Int32.toInt x2 ≤ 65535) → (0 ≤ Int32.toInt x3 ∧ Int32.toInt x3 ≤ 65535) → (0 ≤ Int32.toInt x4 ∧ Int32.toInt x4 ≤ 16) → (16 - Int32.toInt x4 < n15) → next x1 x2 x3 x4) (x1 x2 x3 x4 : Int32) (h_x1 : 0 ≤ Int32.toInt x1 ∧ Int32.toInt x1 ≤ 15) (h_x2 : 0 ≤ Int32.toInt x2 ∧ Int32.toInt x2 ≤ 65535) (h_x3 : 0 ≤ Int32.toInt x3 ∧ Int32.toInt x3 ≤ 65535) (h_x4 : 0 ≤ Int32.toInt x4 ∧ Int32.toInt x4 ≤ 16) (hn15 : 16 - Int32.toInt x4 ≤ n15) : ws_X3_lowerThan_15 post next bZ wD gF x1 x2 x3 x4 := by
  have l0 := li_1
  refine And.intro (fun c12 => ?_) (fun c12 => ?_)
  · skip
    have c12 := (fa_le _ _).mp c12
    exact hpost _ h_x3
  · skip
    have c12 := mt (fa_le _ _).mpr c12
    refine And.intro (t_in (by omega)) ?_
    intro v13 ev13
    have hv13 := congrArg Int32.toInt ev13
    refine And.intro (t_in (by omega)) ?_
    intro v15 ev15
    have hv15 := congrArg Int32.toInt ev15
    intro v17 ev17
    have hv17 := congrArg Int32.toInt ev17
    have f20 := tp_r v17
    refine And.intro (fun c19 => ?_) (fun c19 => ?_)
    · skip
      have c19 := (fa_lt _ _).mp c19
      exact ts_X3_lowerThan_65 bZ wD gF h_tr_fruits hpost hKn x1 x2 x3 x4 h_x1 h_x2 h_x3 (by omega) hn15
    · skip
      have c19 := mt (fa_lt _ _).mpr c19
      refine And.intro (t_in (by omega)) ?_
      intro v21 ev21
      have hv21 := congrArg Int32.toInt ev21
      refine And.intro (t_in (by omega)) ?_
      have f24 := tp_r v21
      refine And.intro (fun c23 => ?_) (fun c23 => ?_)
      · skip
        have c23 := (fa_le _ _).mp c23
        exact ts_X3_lowerThan_65 bZ wD gF h_tr_fruits hpost hKn x1 x2 x3 x4 h_x1 h_x2 h_x3 (by omega) hn15
      · skip
        have c23 := mt (fa_le _ _).mpr c23
        exact ts_X3_lowerThan_66 bZ wD gF h_tr_fruits hpost hKn x1 x2 x3 x4 1 h_x1 h_x2 h_x3 (by omega) (by omega) hn15
set_option maxHeartbeats 8000000 in
set_option maxRecDepth 200000 in
theorem tb_X3_lowerThan_15 {post : Int32 → Prop} (bZ : Int32) (wD gF : Nat → Int32) (h_tr_fruits : 1 ≤ Int32.toInt bZ ∧ Int32.toInt bZ ≤ 16) (hpost : ∀ (r : Int32) , (0 ≤ Int32.toInt r ∧ Int32.toInt r ≤ 65535) → post r) : ∀ (n : Nat) (x1 x2 x3 x4 : Int32), (0 ≤ Int32.toInt x1 ∧ Int32.toInt x1 ≤ 15) → (0 ≤ Int32.toInt x2 ∧ Int32.toInt x2 ≤ 65535) → (0 ≤ Int32.toInt x3 ∧ Int32.toInt x3 ≤ 65535) → (0 ≤ Int32.toInt x4 ∧ Int32.toInt x4 ≤ 16) → (16 - Int32.toInt x4 < (n : Int)) → wb_X3_lowerThan_15 post bZ wD gF n x1 x2 x3 x4 := by
  intro n
  induction n with
  | zero =>
    intro x1 x2 x3 x4 h_x1 h_x2 h_x3 h_x4 hm
    exfalso; omega
  | succ n ih =>
    intro x1 x2 x3 x4 h_x1 h_x2 h_x3 h_x4 hm
    exact ts_X3_lowerThan_15 bZ wD gF h_tr_fruits hpost ih x1 x2 x3 x4 h_x1 h_x2 h_x3 h_x4 (by omega)
set_option maxHeartbeats 8000000 in
set_option maxRecDepth 200000 in
theorem t_X3_lowerThan {post : Int32 → Prop} {p0 p1 bZ : Int32} {wD gF : Nat → Int32} (h_p0 : 0 ≤ Int32.toInt p0 ∧ Int32.toInt p0 ≤ 15) (h_p1 : 0 ≤ Int32.toInt p1 ∧ Int32.toInt p1 ≤ 65535) (h_tr_fruits : 1 ≤ Int32.toInt bZ ∧ Int32.toInt bZ ≤ 16) (hpost : ∀ (r : Int32) , (0 ≤ Int32.toInt r ∧ Int32.toInt r ≤ 65535) → post r) : wp_X3_lowerThan post p0 p1 bZ wD gF := by
  have l0 := li_0
  have l1 := li_1
  intro v26 ev26
  have f27 := ti_shr p1 p0 (by omega)
  have hv26 := congrArg Int32.toInt ev26
  have f29 := ti_andr v26 1 (by omega)
  have f30 := ti_andl v26 1 (by omega)
  refine And.intro (fun c28 => ?_) (fun c28 => ?_)
  · skip
    have c28 := mt (fa_eq _ _).mpr c28
    exact ⟨18, tb_X3_lowerThan_15 bZ wD gF h_tr_fruits hpost _ p0 p1 0 0 h_p0 h_p1 (by omega) (by omega) (by omega)⟩
  · skip
    have c28 := (fa_eq _ _).mp c28
    exact hpost _ (by omega)
set_option maxHeartbeats 8000000 in
set_option maxRecDepth 200000 in
theorem t_X9_fruit {post : Int32 → Prop} {postx : Prop} {p0 p1 bZ : Int32} {wD gF pE qA : Nat → Int32} {jC eO eW dO : Int32} (h_tr_fruits : 0 ≤ Int32.toInt bZ ∧ Int32.toInt bZ ≤ 16) (hpost : ∀ (r : Int32) , post r) (hpx : postx) : wp_X9_fruit post postx p0 p1 bZ wD gF pE qA jC eO eW dO := by
  have l0 := li_0
  have l1 := li_1
  have l2 := li_2
  have l3 := li_3
  have l4 := li_4
  have l5 := li_5
  have l6 := li_6
  have f2 := tp_r p0
  refine And.intro (fun c1 => ?_) (fun c1 => ?_)
  · skip
    have c1 := (fa_lt _ _).mp c1
    refine And.intro (fun h9 => absurd h9 (by decide)) (fun _ => ?_)
    exact hpx
  · skip
    have c1 := mt (fa_lt _ _).mpr c1
    refine And.intro (fun c3 => ?_) (fun c3 => ?_)
    · skip
      have c3 := (fa_le _ _).mp c3
      refine And.intro (fun h9 => absurd h9 (by decide)) (fun _ => ?_)
      exact hpx
    · skip
      have c3 := mt (fa_le _ _).mpr c3
      refine And.intro (fun _ => ?_) (fun h9 => absurd h9 (by decide))
      have f4 := tp_r p1
      refine And.intro (fun c5 => ?_) ?_
      · skip
        have c5 := (fa_eq _ _).mp c5
        refine And.intro (t_in (by omega)) ?_
        exact hpost _ 
      refine And.intro (fun c6 => ?_) ?_
      · skip
        have c6 := (fa_eq _ _).mp c6
        refine And.intro (t_in (by omega)) ?_
        exact hpost _ 
      refine And.intro (fun c7 => ?_) ?_
      · skip
        have c7 := (fa_eq _ _).mp c7
        refine And.intro (t_in (by omega)) ?_
        exact hpost _ 
      refine And.intro (fun c8 => ?_) ?_
      · skip
        have c8 := (fa_eq _ _).mp c8
        refine And.intro (t_in (by omega)) ?_
        exact hpost _ 
      refine And.intro (fun c9 => ?_) ?_
      · skip
        have c9 := (fa_eq _ _).mp c9
        intro v10 ev10
        intro v11 ev11
        have f12 := ti_andr v10 1 (by omega)
        have hv11 := congrArg Int32.toInt ev11
        intro v13 ev13
        intro v14 ev14
        have f17 := ti_andr v13 1 (by omega)
        have f16 : Int32.toInt (2 * (v13 &&& 1)) = Int32.toInt (v13 &&& 1) * 2 := ta_cmul _ _ (by decide) (by omega)
        have f15 : Int32.toInt (v11 + (2 * (v13 &&& 1))) = Int32.toInt v11 + Int32.toInt (2 * (v13 &&& 1)) := ta_add _ _ (by omega)
        rw [← ev14] at f15
        intro v18 ev18
        exact hpost _ 
      refine And.intro (fun c19 => ?_) ?_
      · skip
        have c19 := (fa_eq _ _).mp c19
        intro v20 ev20
        exact hpost _ 
      refine And.intro (fun c21 => ?_) ?_
      · skip
        have c21 := (fa_eq _ _).mp c21
        intro v22 ev22
        have f23 := ti_shl1 16 65536 bZ (by decide) (by omega)
        have hv22 := congrArg Int32.toInt ev22
        intro v24 ev24
        intro v25 ev25
        have f28 : Int32.toInt (v22 - 1) = Int32.toInt v22 - Int32.toInt (1 : Int32) := ta_sub _ _ (by omega)
        have f29 := ti_andl (v22 - 1) (v25 ^^^ (-1)) (by omega)
        refine t_X3_lowerThan (by omega) (by omega) (by omega) (fun r26 h_r26 => ?_)
        exact hpost _ 
      intro c30 c31 c32 c33 c34 c35 c36
      have c30 := mt (fa_eq _ _).mpr c30
      have c31 := mt (fa_eq _ _).mpr c31
      have c32 := mt (fa_eq _ _).mpr c32
      have c33 := mt (fa_eq _ _).mpr c33
      have c34 := mt (fa_eq _ _).mpr c34
      have c35 := mt (fa_eq _ _).mpr c35
      have c36 := mt (fa_eq _ _).mpr c36
      exact hpx
set_option maxHeartbeats 8000000 in
set_option maxRecDepth 200000 in
theorem t_X9_standing {post : Int32 → Prop} {postx : Prop} {p0 p1 bD : Int32} {nJ nY : Nat → Int32} (h_tr_standings : 0 ≤ Int32.toInt bD ∧ Int32.toInt bD ≤ 8) (hpost : ∀ (r : Int32) , post r) (hpx : postx) : wp_X9_standing post postx p0 p1 bD nJ nY := by
  have l0 := li_0
  have l1 := li_1
  have l2 := li_2
  have f2 := tp_r p0
  refine And.intro (fun c1 => ?_) (fun c1 => ?_)
  · skip
    have c1 := (fa_lt _ _).mp c1
    refine And.intro (fun h9 => absurd h9 (by decide)) (fun _ => ?_)
    exact hpx
  · skip
    have c1 := mt (fa_lt _ _).mpr c1
    refine And.intro (fun c3 => ?_) (fun c3 => ?_)
    · skip
      have c3 := (fa_le _ _).mp c3
      refine And.intro (fun h9 => absurd h9 (by decide)) (fun _ => ?_)
      exact hpx
    · skip
      have c3 := mt (fa_le _ _).mpr c3
      refine And.intro (fun _ => ?_) (fun h9 => absurd h9 (by decide))
      have f4 := tp_r p1
      refine And.intro (fun c5 => ?_) ?_
      · skip
        have c5 := (fa_eq _ _).mp c5
        refine And.intro (t_in (by omega)) ?_
        exact hpost _ 
      refine And.intro (fun c6 => ?_) ?_
      · skip
        have c6 := (fa_eq _ _).mp c6
        refine And.intro (t_in (by omega)) ?_
        exact hpost _ 
      refine And.intro (fun c7 => ?_) ?_
      · skip
        have c7 := (fa_eq _ _).mp c7
        refine And.intro (t_in (by omega)) ?_
        intro v8 ev8
        have hv8 := congrArg Int32.toInt ev8
        intro v10 ev10
        have hv10 := congrArg Int32.toInt ev10
        exact hpost _ 
      intro c12 c13 c14
      have c12 := mt (fa_eq _ _).mpr c12
      have c13 := mt (fa_eq _ _).mpr c13
      have c14 := mt (fa_eq _ _).mpr c14
      exact hpx
set_option maxHeartbeats 8000000 in
set_option maxRecDepth 200000 in
theorem t_X9_set {post : Int32 → (Nat → Int32) → Prop} {p0 p1 : Int32} {dQ : Nat → Int32} (hpost : ∀ (r : Int32) (tr_settings' : Nat → Int32), post r tr_settings') : wp_X9_set post p0 p1 dQ := by
  have l0 := li_0
  have l1 := li_4
  have f2 := tp_r p0
  refine And.intro (fun c1 => ?_) (fun c1 => ?_)
  · skip
    have c1 := (fa_lt _ _).mp c1
    exact hpost _ _ 
  · skip
    have c1 := mt (fa_lt _ _).mpr c1
    refine And.intro (fun c3 => ?_) (fun c3 => ?_)
    · skip
      have c3 := (fa_lt _ _).mp c3
      exact hpost _ _ 
    · skip
      have c3 := mt (fa_lt _ _).mpr c3
      refine And.intro (t_in (by omega)) ?_
      have f5 := tp_r p1
      refine And.intro (fun c4 => ?_) (fun c4 => ?_)
      · skip
        have c4 := (fa_lt _ _).mp c4
        exact hpost _ _ 
      · skip
        have c4 := mt (fa_lt _ _).mpr c4
        refine And.intro (t_in (by omega)) ?_
        refine And.intro (fun c7 => ?_) (fun c7 => ?_)
        · skip
          have c7 := (fa_le _ _).mp c7
          refine And.intro (t_in (by omega)) ?_
          intro v9 ev9
          have hv9 := congrArg Int32.toInt ev9
          refine And.intro (t_in (by omega)) ?_
          exact hpost _ _ 
        · skip
          have c7 := mt (fa_le _ _).mpr c7
          exact hpost _ _ 
set_option maxHeartbeats 8000000 in
set_option maxRecDepth 200000 in
theorem ts_X3_fillWorths_70 {post : Int32 → (Nat → Int32) → Prop} {K9 : Int32 → Int32 → Int32 → Int32 → Int32 → Int32 → (Nat → Int32) → Prop} {n9 : Int} (bZ : Int32) (h_tr_fruits : 0 ≤ Int32.toInt bZ ∧ Int32.toInt bZ ≤ 16) (hpost : ∀ (r : Int32) (tr_worth' : Nat → Int32), post r tr_worth') (hK9 : ∀ (x1 : Int32) (x2 : Int32) (x4 : Int32) (x5 : Int32) (x6 : Int32) (x7 : Int32) (pE : Nat → Int32), (0 ≤ Int32.toInt x1 ∧ Int32.toInt x1 ≤ 2) → (0 ≤ Int32.toInt x2 ∧ Int32.toInt x2 ≤ 16) → (0 ≤ Int32.toInt x7 ∧ Int32.toInt x7 ≤ 16) → (16 - Int32.toInt x7 < n9) → K9 x1 x2 x4 x5 x6 x7 pE) (x1 x2 x4 x5 x6 x7 k1 k2 : Int32) (pE : Nat → Int32) (h_x1 : 0 ≤ Int32.toInt x1 ∧ Int32.toInt x1 ≤ 2) (h_x2 : 0 ≤ Int32.toInt x2 ∧ Int32.toInt x2 ≤ 16) (h_x7 : 0 ≤ Int32.toInt x7 ∧ Int32.toInt x7 ≤ 15) (h_k1 : 0 ≤ Int32.toInt k1 ∧ Int32.toInt k1 ≤ 15) (h_k2 : 0 ≤ Int32.toInt k2 ∧ Int32.toInt k2 ≤ 9) (hn9 : 16 - Int32.toInt x7 ≤ n9) : ws_X3_fillWorths_70 post K9 bZ x1 x2 x4 x5 x6 x7 k1 k2 pE := by
  have l0 := li_1
  refine And.intro (t_in (by omega)) ?_
  refine And.intro (t_in (by omega)) ?_
  intro v1 ev1
  have hv1 := congrArg Int32.toInt ev1
  intro v3 ev3
  have hv3 := congrArg Int32.toInt ev3
  intro v5 ev5
  have f6 : Int32.toInt (x7 + 1) = Int32.toInt x7 + Int32.toInt (1 : Int32) := ta_add _ _ (by omega)
  rw [← ev5] at f6
  have f7 := tp_r x4
  have f8 := tp_r v1
  have f9 := tp_r v3
  exact hK9 x1 x2 x4 v1 v3 v5 (upd pE k1.toNatClampNeg k2) h_x1 h_x2 (by omega) (by omega)
set_option maxHeartbeats 8000000 in
set_option maxRecDepth 200000 in
theorem ts_X3_fillWorths_41 {post : Int32 → (Nat → Int32) → Prop} {K9 : Int32 → Int32 → Int32 → Int32 → Int32 → Int32 → (Nat → Int32) → Prop} {n9 : Int} (bZ : Int32) (h_tr_fruits : 0 ≤ Int32.toInt bZ ∧ Int32.toInt bZ ≤ 16) (hpost : ∀ (r : Int32) (tr_worth' : Nat → Int32), post r tr_worth') (hK9 : ∀ (x1 : Int32) (x2 : Int32) (x4 : Int32) (x5 : Int32) (x6 : Int32) (x7 : Int32) (pE : Nat → Int32), (0 ≤ Int32.toInt x1 ∧ Int32.toInt x1 ≤ 2) → (0 ≤ Int32.toInt x2 ∧ Int32.toInt x2 ≤ 16) → (0 ≤ Int32.toInt x7 ∧ Int32.toInt x7 ≤ 16) → (16 - Int32.toInt x7 < n9) → K9 x1 x2 x4 x5 x6 x7 pE) (x1 x2 x4 x5 x6 x7 k0 : Int32) (pE : Nat → Int32) (h_x1 : 0 ≤ Int32.toInt x1 ∧ Int32.toInt x1 ≤ 2) (h_x2 : 0 ≤ Int32.toInt x2 ∧ Int32.toInt x2 ≤ 16) (h_x7 : 0 ≤ Int32.toInt x7 ∧ Int32.toInt x7 ≤ 15) (hn9 : 16 - Int32.toInt x7 ≤ n9) : ws_X3_fillWorths_41 post K9 bZ x1 x2 x4 x5 x6 x7 k0 pE := by
  have l0 := li_0
  have l1 := li_9
  refine And.intro (fun c10 => ?_) (fun c10 => ?_)
  · skip
    have c10 := (fa_le _ _).mp c10
    have f11 := tp_r x4
    have f12 := tp_r x5
    have f13 := tp_r x6
    exact ts_X3_fillWorths_70 bZ h_tr_fruits hpost hK9 x1 x2 x4 x5 x6 x7 x7 0 pE h_x1 h_x2 h_x7 h_x7 (by omega) hn9
  · skip
    have c10 := mt (fa_le _ _).mpr c10
    intro v14 ev14
    have f15 := tp_r (if k0 < 9 then k0 else 9)
    have f17 := tp_r k0
    have f16 := ti_min (9 : Int32) k0
    have hv14 := congrArg Int32.toInt ev14
    intro v18 ev18
    have f20 := tp_r v14
    have f19 := ti_max (0 : Int32) v14
    have hv18 := congrArg Int32.toInt ev18
    have f21 := tp_r x4
    have f22 := tp_r x5
    have f23 := tp_r x6
    exact ts_X3_fillWorths_70 bZ h_tr_fruits hpost hK9 x1 x2 x4 x5 x6 x7 x7 v18 pE h_x1 h_x2 h_x7 h_x7 (by omega) hn9
set_option maxHeartbeats 8000000 in
set_option maxRecDepth 200000 in
theorem ts_X3_fillWorths_9 {post : Int32 → (Nat → Int32) → Prop} {next : Int32 → Int32 → Int32 → Int32 → Int32 → Int32 → (Nat → Int32) → Prop} {n9 : Int} (bZ : Int32) (h_tr_fruits : 0 ≤ Int32.toInt bZ ∧ Int32.toInt bZ ≤ 16) (hpost : ∀ (r : Int32) (tr_worth' : Nat → Int32), post r tr_worth') (hKn : ∀ (x1 : Int32) (x2 : Int32) (x4 : Int32) (x5 : Int32) (x6 : Int32) (x7 : Int32) (pE : Nat → Int32), (0 ≤ Int32.toInt x1 ∧ Int32.toInt x1 ≤ 2) → (0 ≤ Int32.toInt x2 ∧ Int32.toInt x2 ≤ 16) → (0 ≤ Int32.toInt x7 ∧ Int32.toInt x7 ≤ 16) → (16 - Int32.toInt x7 < n9) → next x1 x2 x4 x5 x6 x7 pE) (x1 x2 x4 x5 x6 x7 : Int32) (pE : Nat → Int32) (h_x1 : 0 ≤ Int32.toInt x1 ∧ Int32.toInt x1 ≤ 2) (h_x2 : 0 ≤ Int32.toInt x2 ∧ Int32.toInt x2 ≤ 16) (h_x7 : 0 ≤ Int32.toInt x7 ∧ Int32.toInt x7 ≤ 16) (hn9 : 16 - Int32.toInt x7 ≤ n9) : ws_X3_fillWorths_9 post next bZ x1 x2 x4 x5 x6 x7 pE := by
  have l0 := li_0
  have l1 := li_1
  refine And.intro (fun c24 => ?_) (fun c24 => ?_)
  · skip
    have c24 := (fa_le _ _).mp c24
    exact hpost _ _ 
  · skip
    have c24 := mt (fa_le _ _).mpr c24
    refine And.intro (fun c25 => ?_) (fun c25 => ?_)
    · skip
      have c25 := mt (fa_eq _ _).mpr c25
      refine And.intro (fun c26 => ?_) (fun c26 => ?_)
      · skip
        have c26 := mt (fa_eq _ _).mpr c26
        have f27 := tp_r x4
        have f28 := tp_r x5
        have f29 := tp_r x6
        exact ts_X3_fillWorths_41 bZ h_tr_fruits hpost hKn x1 x2 x4 x5 x6 x7 x6 pE h_x1 h_x2 (by omega) hn9
      · skip
        have c26 := (fa_eq _ _).mp c26
        intro v30 ev30
        have hv30 := ti_i2s x6
        rw [← ev30] at hv30
        have f31 := tp_r x4
        have f32 := tp_r x5
        have f33 := tp_r x6
        exact ts_X3_fillWorths_41 bZ h_tr_fruits hpost hKn x1 x2 x4 x5 x6 x7 v30 pE h_x1 h_x2 (by omega) hn9
    · skip
      have c25 := (fa_eq _ _).mp c25
      intro v34 ev34
      have hv34 := ti_i2b x6
      rw [← ev34] at hv34
      have f35 := tp_r x4
      have f36 := tp_r x5
      have f37 := tp_r x6
      exact ts_X3_fillWorths_41 bZ h_tr_fruits hpost hKn x1 x2 x4 x5 x6 x7 v34 pE h_x1 h_x2 (by omega) hn9
set_option maxHeartbeats 8000000 in
set_option maxRecDepth 200000 in
theorem tb_X3_fillWorths_9 {post : Int32 → (Nat → Int32) → Prop} (bZ : Int32) (h_tr_fruits : 0 ≤ Int32.toInt bZ ∧ Int32.toInt bZ ≤ 16) (hpost : ∀ (r : Int32) (tr_worth' : Nat → Int32), post r tr_worth') : ∀ (n : Nat) (x1 x2 x4 x5 x6 x7 : Int32) (pE : Nat → Int32), (0 ≤ Int32.toInt x1 ∧ Int32.toInt x1 ≤ 2) → (0 ≤ Int32.toInt x2 ∧ Int32.toInt x2 ≤ 16) → (0 ≤ Int32.toInt x7 ∧ Int32.toInt x7 ≤ 16) → (16 - Int32.toInt x7 < (n : Int)) → wb_X3_fillWorths_9 post bZ n x1 x2 x4 x5 x6 x7 pE := by
  intro n
  induction n with
  | zero =>
    intro x1 x2 x4 x5 x6 x7 pE h_x1 h_x2 h_x7 hm
    exfalso; omega
  | succ n ih =>
    intro x1 x2 x4 x5 x6 x7 pE h_x1 h_x2 h_x7 hm
    exact ts_X3_fillWorths_9 bZ h_tr_fruits hpost ih x1 x2 x4 x5 x6 x7 pE h_x1 h_x2 h_x7 (by omega)
set_option maxHeartbeats 8000000 in
set_option maxRecDepth 200000 in
theorem t_X3_fillWorths {post : Int32 → (Nat → Int32) → Prop} {p0 p1 p2 p3 bZ : Int32} {pE : Nat → Int32} (h_p0 : 0 ≤ Int32.toInt p0 ∧ Int32.toInt p0 ≤ 2) (h_p1 : 0 ≤ Int32.toInt p1 ∧ Int32.toInt p1 ≤ 16) (h_tr_fruits : 0 ≤ Int32.toInt bZ ∧ Int32.toInt bZ ≤ 16) (hpost : ∀ (r : Int32) (tr_worth' : Nat → Int32), post r tr_worth') : wp_X3_fillWorths post p0 p1 p2 p3 bZ pE := by
  have l0 := li_0
  have f38 := tp_r p3
  have f39 := tp_r p2
  exact ⟨18, tb_X3_fillWorths_9 bZ h_tr_fruits hpost _ p0 p1 p3 0 p2 0 pE h_p0 h_p1 (by omega) (by omega)⟩
set_option maxHeartbeats 8000000 in
set_option maxRecDepth 200000 in
theorem t_X9_sheet {post : Int32 → (Nat → Int32) → Prop} {p0 p1 p2 p3 bZ : Int32} {pE : Nat → Int32} (h_tr_fruits : 0 ≤ Int32.toInt bZ ∧ Int32.toInt bZ ≤ 16) (hpost : ∀ (r : Int32) (tr_worth' : Nat → Int32), post r tr_worth') : wp_X9_sheet post p0 p1 p2 p3 bZ pE := by
  have l0 := li_0
  have l1 := li_16
  have l2 := li_2
  have l3 := li_3
  have f2 := tp_r p0
  refine And.intro (fun c1 => ?_) (fun c1 => ?_)
  · skip
    have c1 := (fa_lt _ _).mp c1
    exact hpost _ _ 
  · skip
    have c1 := mt (fa_lt _ _).mpr c1
    refine And.intro (fun c3 => ?_) (fun c3 => ?_)
    · skip
      have c3 := (fa_lt _ _).mp c3
      exact hpost _ _ 
    · skip
      have c3 := mt (fa_lt _ _).mpr c3
      have f5 := tp_r p1
      refine And.intro (fun c4 => ?_) (fun c4 => ?_)
      · skip
        have c4 := (fa_le _ _).mp c4
        refine And.intro (fun c6 => ?_) (fun c6 => ?_)
        · skip
          have c6 := mt (fa_eq _ _).mpr c6
          refine And.intro (fun c7 => ?_) (fun c7 => ?_)
          · skip
            have c7 := (fa_le _ _).mp c7
            refine t_X3_fillWorths (by omega) (by omega) h_tr_fruits (fun r9 tr_worth_8 => ?_)
            exact hpost _ _ 
          · skip
            have c7 := mt (fa_le _ _).mpr c7
            exact hpost _ _ 
        · skip
          have c6 := (fa_eq _ _).mp c6
          refine t_X3_fillWorths (by omega) (by omega) h_tr_fruits (fun r11 tr_worth_10 => ?_)
          exact hpost _ _ 
      · skip
        have c4 := mt (fa_le _ _).mpr c4
        exact hpost _ _ 
set_option maxHeartbeats 8000000 in
set_option maxRecDepth 200000 in
theorem ts_X0_setLadder_81 {post : Int32 → Int32 → Int32 → Int32 → Int32 → Prop} (bD : Int32) (nJ nY dQ : Nat → Int32) (h_tr_standings : 0 ≤ Int32.toInt bD ∧ Int32.toInt bD ≤ 8) (hpost : ∀ (r : Int32) (no_apron' : Int32) (no_basket' : Int32) (no_ladder' : Int32) (no_clock' : Int32), (-1 ≤ Int32.toInt no_ladder' ∧ Int32.toInt no_ladder' ≤ 7) → post r no_apron' no_basket' no_ladder' no_clock') (x1 x2 jC eO fJ nG : Int32) (h_x1 : 0 ≤ Int32.toInt x1 ∧ Int32.toInt x1 ≤ 7) (h_no_ladder : -1 ≤ Int32.toInt fJ ∧ Int32.toInt fJ ≤ 7) : ws_X0_setLadder_81 post bD nJ nY dQ x1 x2 jC eO fJ nG := by
  have l0 := li_9999
  intro v1 ev1
  intro v2 ev2
  have hv2 := congrArg Int32.toInt ev2
  intro v4 ev4
  have f5 := tp_r (if v2 < 9999 then v2 else 9999)
  have f7 := tp_r v2
  have f6 := ti_min (9999 : Int32) v2
  have hv4 := congrArg Int32.toInt ev4
  exact hpost _ _ _ _ _ (by omega)
set_option maxHeartbeats 8000000 in
set_option maxRecDepth 200000 in
theorem t_X0_setLadder {post : Int32 → Int32 → Int32 → Int32 → Int32 → Prop} {p0 bD : Int32} {nJ nY dQ : Nat → Int32} {jC eO fJ nG : Int32} (h_tr_standings : 0 ≤ Int32.toInt bD ∧ Int32.toInt bD ≤ 8) (h_no_ladder : -1 ≤ Int32.toInt fJ ∧ Int32.toInt fJ ≤ 7) (hpost : ∀ (r : Int32) (no_apron' : Int32) (no_basket' : Int32) (no_ladder' : Int32) (no_clock' : Int32), (-1 ≤ Int32.toInt no_ladder' ∧ Int32.toInt no_ladder' ≤ 7) → post r no_apron' no_basket' no_ladder' no_clock') : wp_X0_setLadder post p0 bD nJ nY dQ jC eO fJ nG := by
  have l0 := li_m1
  have l1 := li_0
  have l2 := li_3
  have l3 := li_9
  have f9 := tp_r p0
  refine And.intro (fun c8 => ?_) (fun c8 => ?_)
  · skip
    have c8 := (fa_lt _ _).mp c8
    refine And.intro (fun h9 => absurd h9 (by decide)) (fun _ => ?_)
    exact hpost _ _ _ _ _ h_no_ladder
  · skip
    have c8 := mt (fa_lt _ _).mpr c8
    refine And.intro (fun c10 => ?_) (fun c10 => ?_)
    · skip
      have c10 := (fa_le _ _).mp c10
      refine And.intro (fun h9 => absurd h9 (by decide)) (fun _ => ?_)
      exact hpost _ _ _ _ _ h_no_ladder
    · skip
      have c10 := mt (fa_le _ _).mpr c10
      refine And.intro (fun _ => ?_) (fun h9 => absurd h9 (by decide))
      refine And.intro (fun c11 => ?_) (fun c11 => ?_)
      · skip
        have c11 := mt (fa_eq _ _).mpr c11
        refine And.intro (fun c12 => ?_) (fun c12 => ?_)
        · skip
          have c12 := mt (fa_eq _ _).mpr c12
          intro v13 ev13
          have hv13 := congrArg Int32.toInt ev13
          refine And.intro (t_in (by omega)) ?_
          intro v15 ev15
          have hv15 := congrArg Int32.toInt ev15
          refine And.intro (t_in (by omega)) ?_
          intro v17 ev17
          have hv17 := congrArg Int32.toInt ev17
          intro v19 ev19
          have hv19 := congrArg Int32.toInt ev19
          have f22 := tp_r jC
          refine And.intro (fun c21 => ?_) (fun c21 => ?_)
          · skip
            have c21 := (fa_eq _ _).mp c21
            have f24 := tp_r eO
            have f25 := tp_r nG
            exact ts_X0_setLadder_81 bD nJ nY dQ h_tr_standings hpost p0 (9 + (v13 * v19)) jC eO fJ nG (by omega) h_no_ladder
          · skip
            have c21 := mt (fa_eq _ _).mpr c21
            refine And.intro (fun c26 => ?_) (fun c26 => ?_)
            · skip
              have c26 := (fa_eq _ _).mp c26
              exfalso; omega
            · skip
              have c26 := mt (fa_eq _ _).mpr c26
              refine And.intro (t_in (by omega)) ?_
              intro v27 ev27
              have hv27 := congrArg Int32.toInt ev27
              intro v29 ev29
              have hv29 := congrArg Int32.toInt ev29
              intro v31 ev31
              have hv31 := congrArg Int32.toInt ev31
              have f33 := tp_r v31
              have f34 := tp_r eO
              have f35 := tp_r nG
              exact ts_X0_setLadder_81 bD nJ nY dQ h_tr_standings hpost p0 v31 jC eO fJ nG (by omega) h_no_ladder
        · skip
          have c12 := (fa_eq _ _).mp c12
          have f37 := tp_r jC
          refine And.intro (fun c36 => ?_) (fun c36 => ?_)
          · skip
            have c36 := (fa_eq _ _).mp c36
            have f38 := tp_r eO
            have f39 := tp_r nG
            exact ts_X0_setLadder_81 bD nJ nY dQ h_tr_standings hpost p0 9 jC eO fJ nG (by omega) h_no_ladder
          · skip
            have c36 := mt (fa_eq _ _).mpr c36
            refine And.intro (fun c40 => ?_) (fun c40 => ?_)
            · skip
              have c40 := (fa_eq _ _).mp c40
              have f41 := tp_r eO
              have f42 := tp_r nG
              exact ts_X0_setLadder_81 bD nJ nY dQ h_tr_standings hpost p0 9 jC eO fJ nG (by omega) h_no_ladder
            · skip
              have c40 := mt (fa_eq _ _).mpr c40
              exfalso; omega
      · skip
        have c11 := (fa_eq _ _).mp c11
        exact hpost _ _ _ _ _ h_no_ladder
set_option maxHeartbeats 8000000 in
set_option maxRecDepth 200000 in
theorem t_X9_move {post : Int32 → Int32 → Int32 → Int32 → Int32 → Int32 → Int32 → (Nat → Int32) → Prop} {p0 bD : Int32} {nJ nY dQ : Nat → Int32} {jC eO eW dO fJ fY jD nG oE uF : Int32} {sG : Nat → Int32} (h_tr_standings : 0 ≤ Int32.toInt bD ∧ Int32.toInt bD ≤ 8) (h_no_ladder : -1 ≤ Int32.toInt fJ ∧ Int32.toInt fJ ≤ 7) (h_no_today : 0 ≤ Int32.toInt jD ∧ Int32.toInt jD ≤ 9) (h_pa_undoable : 0 ≤ Int32.toInt oE ∧ Int32.toInt oE ≤ 12) (h_pa_free : 0 ≤ Int32.toInt uF ∧ Int32.toInt uF ≤ 12) (e0_pa_cells : ∀ k : Nat, k % 8 = 4 → -1 ≤ Int32.toInt (sG k) ∧ Int32.toInt (sG k) ≤ 7) (e1_pa_cells : ∀ k : Nat, k % 8 = 6 → 0 ≤ Int32.toInt (sG k) ∧ Int32.toInt (sG k) ≤ 9) (hpost : ∀ (r : Int32) (no_apron' : Int32) (no_basket' : Int32) (no_ladder' : Int32) (no_clock' : Int32) (pa_undoable' : Int32) (pa_free' : Int32) (pa_cells' : Nat → Int32), (-1 ≤ Int32.toInt no_ladder' ∧ Int32.toInt no_ladder' ≤ 7) → (0 ≤ Int32.toInt pa_undoable' ∧ Int32.toInt pa_undoable' ≤ 12) → (0 ≤ Int32.toInt pa_free' ∧ Int32.toInt pa_free' ≤ 12) → (∀ k : Nat, k % 8 = 4 → -1 ≤ Int32.toInt (pa_cells' k) ∧ Int32.toInt (pa_cells' k) ≤ 7) → (∀ k : Nat, k % 8 = 6 → 0 ≤ Int32.toInt (pa_cells' k) ∧ Int32.toInt (pa_cells' k) ≤ 9) → post r no_apron' no_basket' no_ladder' no_clock' pa_undoable' pa_free' pa_cells') : wp_X9_move post p0 bD nJ nY dQ jC eO eW dO fJ fY jD nG oE uF sG := by
  have l0 := li_0
  have l1 := li_1
  have l2 := li_104
  have l3 := li_12
  have l4 := li_13
  have l5 := li_2
  have l6 := li_3
  have l7 := li_4
  have l8 := li_5
  have l9 := li_6
  have l10 := li_7
  have l11 := li_8
  intro v1 ev1
  have f2 : Int32.toInt (uF * 8) = Int32.toInt uF * 8 := ta_mulc _ _ (by decide) (by omega)
  rw [← ev1] at f2
  refine And.intro (fun c3 => ?_) (fun c3 => ?_)
  · skip
    have c3 := (fa_lt _ _).mp c3
    exfalso; omega
  · skip
    have c3 := mt (fa_lt _ _).mpr c3
    have f5 : Int32.toInt (104 - 8) = Int32.toInt (104 : Int32) - Int32.toInt (8 : Int32) := ta_sub _ _ (by omega)
    refine And.intro (fun c4 => ?_) (fun c4 => ?_)
    · skip
      have c4 := (fa_le _ _).mp c4
      refine And.intro (t_in (by omega)) ?_
      have f7 := tp_r jC
      have e6 : ∀ k : Nat, k % 8 = 4 → -1 ≤ Int32.toInt ((upd sG v1.toNatClampNeg jC) k) ∧ Int32.toInt ((upd sG v1.toNatClampNeg jC) k) ≤ 7 := t_updc (C := fun k => k % 8 = 4) e0_pa_cells (fun hk => by have e9 : v1.toNatClampNeg = (Int32.toInt v1).toNat := rfl; have hk : v1.toNatClampNeg % 8 = 4 := hk; omega)
      have e8 : ∀ k : Nat, k % 8 = 6 → 0 ≤ Int32.toInt ((upd sG v1.toNatClampNeg jC) k) ∧ Int32.toInt ((upd sG v1.toNatClampNeg jC) k) ≤ 9 := t_updc (C := fun k => k % 8 = 6) e1_pa_cells (fun hk => by have e9 : v1.toNatClampNeg = (Int32.toInt v1).toNat := rfl; have hk : v1.toNatClampNeg % 8 = 6 := hk; omega)
      intro v9 ev9
      have f10 : Int32.toInt (v1 + 1) = Int32.toInt v1 + Int32.toInt (1 : Int32) := ta_add _ _ (by omega)
      rw [← ev9] at f10
      refine And.intro (t_in (by omega)) ?_
      have f12 := tp_r eO
      have e11 : ∀ k : Nat, k % 8 = 4 → -1 ≤ Int32.toInt ((upd (upd sG v1.toNatClampNeg jC) v9.toNatClampNeg eO) k) ∧ Int32.toInt ((upd (upd sG v1.toNatClampNeg jC) v9.toNatClampNeg eO) k) ≤ 7 := t_updc (C := fun k => k % 8 = 4) e6 (fun hk => by have e9 : v9.toNatClampNeg = (Int32.toInt v9).toNat := rfl; have hk : v9.toNatClampNeg % 8 = 4 := hk; omega)
      have e13 : ∀ k : Nat, k % 8 = 6 → 0 ≤ Int32.toInt ((upd (upd sG v1.toNatClampNeg jC) v9.toNatClampNeg eO) k) ∧ Int32.toInt ((upd (upd sG v1.toNatClampNeg jC) v9.toNatClampNeg eO) k) ≤ 9 := t_updc (C := fun k => k % 8 = 6) e8 (fun hk => by have e9 : v9.toNatClampNeg = (Int32.toInt v9).toNat := rfl; have hk : v9.toNatClampNeg % 8 = 6 := hk; omega)
      intro v14 ev14
      have f15 : Int32.toInt (v1 + 2) = Int32.toInt v1 + Int32.toInt (2 : Int32) := ta_add _ _ (by omega)
      rw [← ev14] at f15
      refine And.intro (t_in (by omega)) ?_
      have f17 := tp_r eW
      have e16 : ∀ k : Nat, k % 8 = 4 → -1 ≤ Int32.toInt ((upd (upd (upd sG v1.toNatClampNeg jC) v9.toNatClampNeg eO) v14.toNatClampNeg eW) k) ∧ Int32.toInt ((upd (upd (upd sG v1.toNatClampNeg jC) v9.toNatClampNeg eO) v14.toNatClampNeg eW) k) ≤ 7 := t_updc (C := fun k => k % 8 = 4) e11 (fun hk => by have e9 : v14.toNatClampNeg = (Int32.toInt v14).toNat := rfl; have hk : v14.toNatClampNeg % 8 = 4 := hk; omega)
      have e18 : ∀ k : Nat, k % 8 = 6 → 0 ≤ Int32.toInt ((upd (upd (upd sG v1.toNatClampNeg jC) v9.toNatClampNeg eO) v14.toNatClampNeg eW) k) ∧ Int32.toInt ((upd (upd (upd sG v1.toNatClampNeg jC) v9.toNatClampNeg eO) v14.toNatClampNeg eW) k) ≤ 9 := t_updc (C := fun k => k % 8 = 6) e13 (fun hk => by have e9 : v14.toNatClampNeg = (Int32.toInt v14).toNat := rfl; have hk : v14.toNatClampNeg % 8 = 6 := hk; omega)
      intro v19 ev19
      have f20 : Int32.toInt (v1 + 3) = Int32.toInt v1 + Int32.toInt (3 : Int32) := ta_add _ _ (by omega)
      rw [← ev19] at f20
      refine And.intro (t_in (by omega)) ?_
      have f22 := tp_r dO
      have e21 : ∀ k : Nat, k % 8 = 4 → -1 ≤ Int32.toInt ((upd (upd (upd (upd sG v1.toNatClampNeg jC) v9.toNatClampNeg eO) v14.toNatClampNeg eW) v19.toNatClampNeg dO) k) ∧ Int32.toInt ((upd (upd (upd (upd sG v1.toNatClampNeg jC) v9.toNatClampNeg eO) v14.toNatClampNeg eW) v19.toNatClampNeg dO) k) ≤ 7 := t_updc (C := fun k => k % 8 = 4) e16 (fun hk => by have e9 : v19.toNatClampNeg = (Int32.toInt v19).toNat := rfl; have hk : v19.toNatClampNeg % 8 = 4 := hk; omega)
      have e23 : ∀ k : Nat, k % 8 = 6 → 0 ≤ Int32.toInt ((upd (upd (upd (upd sG v1.toNatClampNeg jC) v9.toNatClampNeg eO) v14.toNatClampNeg eW) v19.toNatClampNeg dO) k) ∧ Int32.toInt ((upd (upd (upd (upd sG v1.toNatClampNeg jC) v9.toNatClampNeg eO) v14.toNatClampNeg eW) v19.toNatClampNeg dO) k) ≤ 9 := t_updc (C := fun k => k % 8 = 6) e18 (fun hk => by have e9 : v19.toNatClampNeg = (Int32.toInt v19).toNat := rfl; have hk : v19.toNatClampNeg % 8 = 6 := hk; omega)
      intro v24 ev24
      have f25 : Int32.toInt (v1 + 4) = Int32.toInt v1 + Int32.toInt (4 : Int32) := ta_add _ _ (by omega)
      rw [← ev24] at f25
      refine And.intro (t_in (by omega)) ?_
      have e26 : ∀ k : Nat, k % 8 = 4 → -1 ≤ Int32.toInt ((upd (upd (upd (upd (upd sG v1.toNatClampNeg jC) v9.toNatClampNeg eO) v14.toNatClampNeg eW) v19.toNatClampNeg dO) v24.toNatClampNeg fJ) k) ∧ Int32.toInt ((upd (upd (upd (upd (upd sG v1.toNatClampNeg jC) v9.toNatClampNeg eO) v14.toNatClampNeg eW) v19.toNatClampNeg dO) v24.toNatClampNeg fJ) k) ≤ 7 := t_updc (C := fun k => k % 8 = 4) e21 (fun hk => by have e9 : v24.toNatClampNeg = (Int32.toInt v24).toNat := rfl; have hk : v24.toNatClampNeg % 8 = 4 := hk; omega)
      have e27 : ∀ k : Nat, k % 8 = 6 → 0 ≤ Int32.toInt ((upd (upd (upd (upd (upd sG v1.toNatClampNeg jC) v9.toNatClampNeg eO) v14.toNatClampNeg eW) v19.toNatClampNeg dO) v24.toNatClampNeg fJ) k) ∧ Int32.toInt ((upd (upd (upd (upd (upd sG v1.toNatClampNeg jC) v9.toNatClampNeg eO) v14.toNatClampNeg eW) v19.toNatClampNeg dO) v24.toNatClampNeg fJ) k) ≤ 9 := t_updc (C := fun k => k % 8 = 6) e23 (fun hk => by have e9 : v24.toNatClampNeg = (Int32.toInt v24).toNat := rfl; have hk : v24.toNatClampNeg % 8 = 6 := hk; omega)
      intro v28 ev28
      have f29 : Int32.toInt (v1 + 5) = Int32.toInt v1 + Int32.toInt (5 : Int32) := ta_add _ _ (by omega)
      rw [← ev28] at f29
      refine And.intro (t_in (by omega)) ?_
      have f31 := tp_r fY
      have e30 : ∀ k : Nat, k % 8 = 4 → -1 ≤ Int32.toInt ((upd (upd (upd (upd (upd (upd sG v1.toNatClampNeg jC) v9.toNatClampNeg eO) v14.toNatClampNeg eW) v19.toNatClampNeg dO) v24.toNatClampNeg fJ) v28.toNatClampNeg fY) k) ∧ Int32.toInt ((upd (upd (upd (upd (upd (upd sG v1.toNatClampNeg jC) v9.toNatClampNeg eO) v14.toNatClampNeg eW) v19.toNatClampNeg dO) v24.toNatClampNeg fJ) v28.toNatClampNeg fY) k) ≤ 7 := t_updc (C := fun k => k % 8 = 4) e26 (fun hk => by have e9 : v28.toNatClampNeg = (Int32.toInt v28).toNat := rfl; have hk : v28.toNatClampNeg % 8 = 4 := hk; omega)
      have e32 : ∀ k : Nat, k % 8 = 6 → 0 ≤ Int32.toInt ((upd (upd (upd (upd (upd (upd sG v1.toNatClampNeg jC) v9.toNatClampNeg eO) v14.toNatClampNeg eW) v19.toNatClampNeg dO) v24.toNatClampNeg fJ) v28.toNatClampNeg fY) k) ∧ Int32.toInt ((upd (upd (upd (upd (upd (upd sG v1.toNatClampNeg jC) v9.toNatClampNeg eO) v14.toNatClampNeg eW) v19.toNatClampNeg dO) v24.toNatClampNeg fJ) v28.toNatClampNeg fY) k) ≤ 9 := t_updc (C := fun k => k % 8 = 6) e27 (fun hk => by have e9 : v28.toNatClampNeg = (Int32.toInt v28).toNat := rfl; have hk : v28.toNatClampNeg % 8 = 6 := hk; omega)
      intro v33 ev33
      have f34 : Int32.toInt (v1 + 6) = Int32.toInt v1 + Int32.toInt (6 : Int32) := ta_add _ _ (by omega)
      rw [← ev33] at f34
      refine And.intro (t_in (by omega)) ?_
      have e35 : ∀ k : Nat, k % 8 = 4 → -1 ≤ Int32.toInt ((upd (upd (upd (upd (upd (upd (upd sG v1.toNatClampNeg jC) v9.toNatClampNeg eO) v14.toNatClampNeg eW) v19.toNatClampNeg dO) v24.toNatClampNeg fJ) v28.toNatClampNeg fY) v33.toNatClampNeg jD) k) ∧ Int32.toInt ((upd (upd (upd (upd (upd (upd (upd sG v1.toNatClampNeg jC) v9.toNatClampNeg eO) v14.toNatClampNeg eW) v19.toNatClampNeg dO) v24.toNatClampNeg fJ) v28.toNatClampNeg fY) v33.toNatClampNeg jD) k) ≤ 7 := t_updc (C := fun k => k % 8 = 4) e30 (fun hk => by have e9 : v33.toNatClampNeg = (Int32.toInt v33).toNat := rfl; have hk : v33.toNatClampNeg % 8 = 4 := hk; omega)
      have e36 : ∀ k : Nat, k % 8 = 6 → 0 ≤ Int32.toInt ((upd (upd (upd (upd (upd (upd (upd sG v1.toNatClampNeg jC) v9.toNatClampNeg eO) v14.toNatClampNeg eW) v19.toNatClampNeg dO) v24.toNatClampNeg fJ) v28.toNatClampNeg fY) v33.toNatClampNeg jD) k) ∧ Int32.toInt ((upd (upd (upd (upd (upd (upd (upd sG v1.toNatClampNeg jC) v9.toNatClampNeg eO) v14.toNatClampNeg eW) v19.toNatClampNeg dO) v24.toNatClampNeg fJ) v28.toNatClampNeg fY) v33.toNatClampNeg jD) k) ≤ 9 := t_updc (C := fun k => k % 8 = 6) e32 (fun hk => by have e9 : v33.toNatClampNeg = (Int32.toInt v33).toNat := rfl; have hk : v33.toNatClampNeg % 8 = 6 := hk; omega)
      intro v37 ev37
      have f38 : Int32.toInt (v1 + 7) = Int32.toInt v1 + Int32.toInt (7 : Int32) := ta_add _ _ (by omega)
      rw [← ev37] at f38
      refine And.intro (t_in (by omega)) ?_
      have f40 := tp_r nG
      have e39 : ∀ k : Nat, k % 8 = 4 → -1 ≤ Int32.toInt ((upd (upd (upd (upd (upd (upd (upd (upd sG v1.toNatClampNeg jC) v9.toNatClampNeg eO) v14.toNatClampNeg eW) v19.toNatClampNeg dO) v24.toNatClampNeg fJ) v28.toNatClampNeg fY) v33.toNatClampNeg jD) v37.toNatClampNeg nG) k) ∧ Int32.toInt ((upd (upd (upd (upd (upd (upd (upd (upd sG v1.toNatClampNeg jC) v9.toNatClampNeg eO) v14.toNatClampNeg eW) v19.toNatClampNeg dO) v24.toNatClampNeg fJ) v28.toNatClampNeg fY) v33.toNatClampNeg jD) v37.toNatClampNeg nG) k) ≤ 7 := t_updc (C := fun k => k % 8 = 4) e35 (fun hk => by have e9 : v37.toNatClampNeg = (Int32.toInt v37).toNat := rfl; have hk : v37.toNatClampNeg % 8 = 4 := hk; omega)
      have e41 : ∀ k : Nat, k % 8 = 6 → 0 ≤ Int32.toInt ((upd (upd (upd (upd (upd (upd (upd (upd sG v1.toNatClampNeg jC) v9.toNatClampNeg eO) v14.toNatClampNeg eW) v19.toNatClampNeg dO) v24.toNatClampNeg fJ) v28.toNatClampNeg fY) v33.toNatClampNeg jD) v37.toNatClampNeg nG) k) ∧ Int32.toInt ((upd (upd (upd (upd (upd (upd (upd (upd sG v1.toNatClampNeg jC) v9.toNatClampNeg eO) v14.toNatClampNeg eW) v19.toNatClampNeg dO) v24.toNatClampNeg fJ) v28.toNatClampNeg fY) v33.toNatClampNeg jD) v37.toNatClampNeg nG) k) ≤ 9 := t_updc (C := fun k => k % 8 = 6) e36 (fun hk => by have e9 : v37.toNatClampNeg = (Int32.toInt v37).toNat := rfl; have hk : v37.toNatClampNeg % 8 = 6 := hk; omega)
      refine t_X0_setLadder h_tr_standings h_no_ladder (fun r46 no_apron_42 no_basket_43 no_ladder_44 no_clock_45 h_no_ladder_44 => ?_)
      have f48 := tp_r r46
      refine And.intro (fun c47 => ?_) (fun c47 => ?_)
      · skip
        have c47 := (fa_lt _ _).mp c47
        exact hpost _ _ _ _ _ _ _ _ h_no_ladder_44 h_pa_undoable h_pa_free e39 e41
      · skip
        have c47 := mt (fa_lt _ _).mpr c47
        intro v49 ev49
        have f50 : Int32.toInt (uF + 1) = Int32.toInt uF + Int32.toInt (1 : Int32) := ta_add _ _ (by omega)
        rw [← ev49] at f50
        intro v51 ev51
        have f52 : Int32.toInt (v49 - v49 / 13 * 13) = Int32.toInt v49 % 13 := ti_rem _ _ (by decide) (by omega) (by decide)
        rw [← ev51] at f52
        intro v53 ev53
        have f54 : Int32.toInt (oE + 1) = Int32.toInt oE + Int32.toInt (1 : Int32) := ta_add _ _ (by omega)
        rw [← ev53] at f54
        intro v55 ev55
        have f56 := ti_min (12 : Int32) v53
        have hv55 := congrArg Int32.toInt ev55
        exact hpost _ _ _ _ _ _ _ _ h_no_ladder_44 (by omega) (by omega) e39 e41
    · skip
      have c4 := mt (fa_le _ _).mpr c4
      exfalso; omega
set_option maxHeartbeats 8000000 in
set_option maxRecDepth 200000 in
theorem ts_X9_isYesOrNo_9 {post : Int32 → Prop} (hpost : ∀ (r : Int32) , (0 ≤ Int32.toInt r ∧ Int32.toInt r ≤ 1) → post r) : ws_X9_isYesOrNo_9 post := by
  have l0 := li_1
  exact hpost _ (by omega)
set_option maxHeartbeats 8000000 in
set_option maxRecDepth 200000 in
theorem t_X9_isYesOrNo {post : Int32 → Prop} {p0 : Int32} (hpost : ∀ (r : Int32) , (0 ≤ Int32.toInt r ∧ Int32.toInt r ≤ 1) → post r) : wp_X9_isYesOrNo post p0 := by
  have l0 := li_0
  have l1 := li_1
  have f2 := tp_r p0
  refine And.intro (fun c1 => ?_) (fun c1 => ?_)
  · skip
    have c1 := (fa_eq _ _).mp c1
    exact ts_X9_isYesOrNo_9 hpost 
  · skip
    have c1 := mt (fa_eq _ _).mpr c1
    refine And.intro (fun c3 => ?_) (fun c3 => ?_)
    · skip
      have c3 := mt (fa_eq _ _).mpr c3
      exact hpost _ (by omega)
    · skip
      have c3 := (fa_eq _ _).mp c3
      exact ts_X9_isYesOrNo_9 hpost 
set_option maxHeartbeats 8000000 in
set_option maxRecDepth 200000 in
theorem t_X9_foot {post : Int32 → Int32 → Int32 → Int32 → (Nat → Int32) → Prop} {p0 jC eO eW dO fJ fY jD nG oE uF : Int32} {sG : Nat → Int32} (h_no_ladder : -1 ≤ Int32.toInt fJ ∧ Int32.toInt fJ ≤ 7) (h_no_today : 0 ≤ Int32.toInt jD ∧ Int32.toInt jD ≤ 9) (h_pa_undoable : 0 ≤ Int32.toInt oE ∧ Int32.toInt oE ≤ 12) (h_pa_free : 0 ≤ Int32.toInt uF ∧ Int32.toInt uF ≤ 12) (e0_pa_cells : ∀ k : Nat, k % 8 = 4 → -1 ≤ Int32.toInt (sG k) ∧ Int32.toInt (sG k) ≤ 7) (e1_pa_cells : ∀ k : Nat, k % 8 = 6 → 0 ≤ Int32.toInt (sG k) ∧ Int32.toInt (sG k) ≤ 9) (hpost : ∀ (r : Int32) (no_helper' : Int32) (pa_undoable' : Int32) (pa_free' : Int32) (pa_cells' : Nat → Int32), (0 ≤ Int32.toInt pa_undoable' ∧ Int32.toInt pa_undoable' ≤ 12) → (0 ≤ Int32.toInt pa_free' ∧ Int32.toInt pa_free' ≤ 12) → (∀ k : Nat, k % 8 = 4 → -1 ≤ Int32.toInt (pa_cells' k) ∧ Int32.toInt (pa_cells' k) ≤ 7) → (∀ k : Nat, k % 8 = 6 → 0 ≤ Int32.toInt (pa_cells' k) ∧ Int32.toInt (pa_cells' k) ≤ 9) → post r no_helper' pa_undoable' pa_free' pa_cells') : wp_X9_foot post p0 jC eO eW dO fJ fY jD nG oE uF sG := by
  have l0 := li_0
  have l1 := li_1
  have l2 := li_104
  have l3 := li_12
  have l4 := li_13
  have l5 := li_2
  have l6 := li_3
  have l7 := li_4
  have l8 := li_5
  have l9 := li_6
  have l10 := li_7
  have l11 := li_8
  intro v1 ev1
  have f2 : Int32.toInt (uF * 8) = Int32.toInt uF * 8 := ta_mulc _ _ (by decide) (by omega)
  rw [← ev1] at f2
  refine And.intro (fun c3 => ?_) (fun c3 => ?_)
  · skip
    have c3 := (fa_lt _ _).mp c3
    exfalso; omega
  · skip
    have c3 := mt (fa_lt _ _).mpr c3
    have f5 : Int32.toInt (104 - 8) = Int32.toInt (104 : Int32) - Int32.toInt (8 : Int32) := ta_sub _ _ (by omega)
    refine And.intro (fun c4 => ?_) (fun c4 => ?_)
    · skip
      have c4 := (fa_le _ _).mp c4
      refine And.intro (t_in (by omega)) ?_
      have f7 := tp_r jC
      have e6 : ∀ k : Nat, k % 8 = 4 → -1 ≤ Int32.toInt ((upd sG v1.toNatClampNeg jC) k) ∧ Int32.toInt ((upd sG v1.toNatClampNeg jC) k) ≤ 7 := t_updc (C := fun k => k % 8 = 4) e0_pa_cells (fun hk => by have e9 : v1.toNatClampNeg = (Int32.toInt v1).toNat := rfl; have hk : v1.toNatClampNeg % 8 = 4 := hk; omega)
      have e8 : ∀ k : Nat, k % 8 = 6 → 0 ≤ Int32.toInt ((upd sG v1.toNatClampNeg jC) k) ∧ Int32.toInt ((upd sG v1.toNatClampNeg jC) k) ≤ 9 := t_updc (C := fun k => k % 8 = 6) e1_pa_cells (fun hk => by have e9 : v1.toNatClampNeg = (Int32.toInt v1).toNat := rfl; have hk : v1.toNatClampNeg % 8 = 6 := hk; omega)
      intro v9 ev9
      have f10 : Int32.toInt (v1 + 1) = Int32.toInt v1 + Int32.toInt (1 : Int32) := ta_add _ _ (by omega)
      rw [← ev9] at f10
      refine And.intro (t_in (by omega)) ?_
      have f12 := tp_r eO
      have e11 : ∀ k : Nat, k % 8 = 4 → -1 ≤ Int32.toInt ((upd (upd sG v1.toNatClampNeg jC) v9.toNatClampNeg eO) k) ∧ Int32.toInt ((upd (upd sG v1.toNatClampNeg jC) v9.toNatClampNeg eO) k) ≤ 7 := t_updc (C := fun k => k % 8 = 4) e6 (fun hk => by have e9 : v9.toNatClampNeg = (Int32.toInt v9).toNat := rfl; have hk : v9.toNatClampNeg % 8 = 4 := hk; omega)
      have e13 : ∀ k : Nat, k % 8 = 6 → 0 ≤ Int32.toInt ((upd (upd sG v1.toNatClampNeg jC) v9.toNatClampNeg eO) k) ∧ Int32.toInt ((upd (upd sG v1.toNatClampNeg jC) v9.toNatClampNeg eO) k) ≤ 9 := t_updc (C := fun k => k % 8 = 6) e8 (fun hk => by have e9 : v9.toNatClampNeg = (Int32.toInt v9).toNat := rfl; have hk : v9.toNatClampNeg % 8 = 6 := hk; omega)
      intro v14 ev14
      have f15 : Int32.toInt (v1 + 2) = Int32.toInt v1 + Int32.toInt (2 : Int32) := ta_add _ _ (by omega)
      rw [← ev14] at f15
      refine And.intro (t_in (by omega)) ?_
      have f17 := tp_r eW
      have e16 : ∀ k : Nat, k % 8 = 4 → -1 ≤ Int32.toInt ((upd (upd (upd sG v1.toNatClampNeg jC) v9.toNatClampNeg eO) v14.toNatClampNeg eW) k) ∧ Int32.toInt ((upd (upd (upd sG v1.toNatClampNeg jC) v9.toNatClampNeg eO) v14.toNatClampNeg eW) k) ≤ 7 := t_updc (C := fun k => k % 8 = 4) e11 (fun hk => by have e9 : v14.toNatClampNeg = (Int32.toInt v14).toNat := rfl; have hk : v14.toNatClampNeg % 8 = 4 := hk; omega)
      have e18 : ∀ k : Nat, k % 8 = 6 → 0 ≤ Int32.toInt ((upd (upd (upd sG v1.toNatClampNeg jC) v9.toNatClampNeg eO) v14.toNatClampNeg eW) k) ∧ Int32.toInt ((upd (upd (upd sG v1.toNatClampNeg jC) v9.toNatClampNeg eO) v14.toNatClampNeg eW) k) ≤ 9 := t_updc (C := fun k => k % 8 = 6) e13 (fun hk => by have e9 : v14.toNatClampNeg = (Int32.toInt v14).toNat := rfl; have hk : v14.toNatClampNeg % 8 = 6 := hk; omega)
      intro v19 ev19
      have f20 : Int32.toInt (v1 + 3) = Int32.toInt v1 + Int32.toInt (3 : Int32) := ta_add _ _ (by omega)
      rw [← ev19] at f20
      refine And.intro (t_in (by omega)) ?_
      have f22 := tp_r dO
      have e21 : ∀ k : Nat, k % 8 = 4 → -1 ≤ Int32.toInt ((upd (upd (upd (upd sG v1.toNatClampNeg jC) v9.toNatClampNeg eO) v14.toNatClampNeg eW) v19.toNatClampNeg dO) k) ∧ Int32.toInt ((upd (upd (upd (upd sG v1.toNatClampNeg jC) v9.toNatClampNeg eO) v14.toNatClampNeg eW) v19.toNatClampNeg dO) k) ≤ 7 := t_updc (C := fun k => k % 8 = 4) e16 (fun hk => by have e9 : v19.toNatClampNeg = (Int32.toInt v19).toNat := rfl; have hk : v19.toNatClampNeg % 8 = 4 := hk; omega)
      have e23 : ∀ k : Nat, k % 8 = 6 → 0 ≤ Int32.toInt ((upd (upd (upd (upd sG v1.toNatClampNeg jC) v9.toNatClampNeg eO) v14.toNatClampNeg eW) v19.toNatClampNeg dO) k) ∧ Int32.toInt ((upd (upd (upd (upd sG v1.toNatClampNeg jC) v9.toNatClampNeg eO) v14.toNatClampNeg eW) v19.toNatClampNeg dO) k) ≤ 9 := t_updc (C := fun k => k % 8 = 6) e18 (fun hk => by have e9 : v19.toNatClampNeg = (Int32.toInt v19).toNat := rfl; have hk : v19.toNatClampNeg % 8 = 6 := hk; omega)
      intro v24 ev24
      have f25 : Int32.toInt (v1 + 4) = Int32.toInt v1 + Int32.toInt (4 : Int32) := ta_add _ _ (by omega)
      rw [← ev24] at f25
      refine And.intro (t_in (by omega)) ?_
      have e26 : ∀ k : Nat, k % 8 = 4 → -1 ≤ Int32.toInt ((upd (upd (upd (upd (upd sG v1.toNatClampNeg jC) v9.toNatClampNeg eO) v14.toNatClampNeg eW) v19.toNatClampNeg dO) v24.toNatClampNeg fJ) k) ∧ Int32.toInt ((upd (upd (upd (upd (upd sG v1.toNatClampNeg jC) v9.toNatClampNeg eO) v14.toNatClampNeg eW) v19.toNatClampNeg dO) v24.toNatClampNeg fJ) k) ≤ 7 := t_updc (C := fun k => k % 8 = 4) e21 (fun hk => by have e9 : v24.toNatClampNeg = (Int32.toInt v24).toNat := rfl; have hk : v24.toNatClampNeg % 8 = 4 := hk; omega)
      have e27 : ∀ k : Nat, k % 8 = 6 → 0 ≤ Int32.toInt ((upd (upd (upd (upd (upd sG v1.toNatClampNeg jC) v9.toNatClampNeg eO) v14.toNatClampNeg eW) v19.toNatClampNeg dO) v24.toNatClampNeg fJ) k) ∧ Int32.toInt ((upd (upd (upd (upd (upd sG v1.toNatClampNeg jC) v9.toNatClampNeg eO) v14.toNatClampNeg eW) v19.toNatClampNeg dO) v24.toNatClampNeg fJ) k) ≤ 9 := t_updc (C := fun k => k % 8 = 6) e23 (fun hk => by have e9 : v24.toNatClampNeg = (Int32.toInt v24).toNat := rfl; have hk : v24.toNatClampNeg % 8 = 6 := hk; omega)
      intro v28 ev28
      have f29 : Int32.toInt (v1 + 5) = Int32.toInt v1 + Int32.toInt (5 : Int32) := ta_add _ _ (by omega)
      rw [← ev28] at f29
      refine And.intro (t_in (by omega)) ?_
      have f31 := tp_r fY
      have e30 : ∀ k : Nat, k % 8 = 4 → -1 ≤ Int32.toInt ((upd (upd (upd (upd (upd (upd sG v1.toNatClampNeg jC) v9.toNatClampNeg eO) v14.toNatClampNeg eW) v19.toNatClampNeg dO) v24.toNatClampNeg fJ) v28.toNatClampNeg fY) k) ∧ Int32.toInt ((upd (upd (upd (upd (upd (upd sG v1.toNatClampNeg jC) v9.toNatClampNeg eO) v14.toNatClampNeg eW) v19.toNatClampNeg dO) v24.toNatClampNeg fJ) v28.toNatClampNeg fY) k) ≤ 7 := t_updc (C := fun k => k % 8 = 4) e26 (fun hk => by have e9 : v28.toNatClampNeg = (Int32.toInt v28).toNat := rfl; have hk : v28.toNatClampNeg % 8 = 4 := hk; omega)
      have e32 : ∀ k : Nat, k % 8 = 6 → 0 ≤ Int32.toInt ((upd (upd (upd (upd (upd (upd sG v1.toNatClampNeg jC) v9.toNatClampNeg eO) v14.toNatClampNeg eW) v19.toNatClampNeg dO) v24.toNatClampNeg fJ) v28.toNatClampNeg fY) k) ∧ Int32.toInt ((upd (upd (upd (upd (upd (upd sG v1.toNatClampNeg jC) v9.toNatClampNeg eO) v14.toNatClampNeg eW) v19.toNatClampNeg dO) v24.toNatClampNeg fJ) v28.toNatClampNeg fY) k) ≤ 9 := t_updc (C := fun k => k % 8 = 6) e27 (fun hk => by have e9 : v28.toNatClampNeg = (Int32.toInt v28).toNat := rfl; have hk : v28.toNatClampNeg % 8 = 6 := hk; omega)
      intro v33 ev33
      have f34 : Int32.toInt (v1 + 6) = Int32.toInt v1 + Int32.toInt (6 : Int32) := ta_add _ _ (by omega)
      rw [← ev33] at f34
      refine And.intro (t_in (by omega)) ?_
      have e35 : ∀ k : Nat, k % 8 = 4 → -1 ≤ Int32.toInt ((upd (upd (upd (upd (upd (upd (upd sG v1.toNatClampNeg jC) v9.toNatClampNeg eO) v14.toNatClampNeg eW) v19.toNatClampNeg dO) v24.toNatClampNeg fJ) v28.toNatClampNeg fY) v33.toNatClampNeg jD) k) ∧ Int32.toInt ((upd (upd (upd (upd (upd (upd (upd sG v1.toNatClampNeg jC) v9.toNatClampNeg eO) v14.toNatClampNeg eW) v19.toNatClampNeg dO) v24.toNatClampNeg fJ) v28.toNatClampNeg fY) v33.toNatClampNeg jD) k) ≤ 7 := t_updc (C := fun k => k % 8 = 4) e30 (fun hk => by have e9 : v33.toNatClampNeg = (Int32.toInt v33).toNat := rfl; have hk : v33.toNatClampNeg % 8 = 4 := hk; omega)
      have e36 : ∀ k : Nat, k % 8 = 6 → 0 ≤ Int32.toInt ((upd (upd (upd (upd (upd (upd (upd sG v1.toNatClampNeg jC) v9.toNatClampNeg eO) v14.toNatClampNeg eW) v19.toNatClampNeg dO) v24.toNatClampNeg fJ) v28.toNatClampNeg fY) v33.toNatClampNeg jD) k) ∧ Int32.toInt ((upd (upd (upd (upd (upd (upd (upd sG v1.toNatClampNeg jC) v9.toNatClampNeg eO) v14.toNatClampNeg eW) v19.toNatClampNeg dO) v24.toNatClampNeg fJ) v28.toNatClampNeg fY) v33.toNatClampNeg jD) k) ≤ 9 := t_updc (C := fun k => k % 8 = 6) e32 (fun hk => by have e9 : v33.toNatClampNeg = (Int32.toInt v33).toNat := rfl; have hk : v33.toNatClampNeg % 8 = 6 := hk; omega)
      intro v37 ev37
      have f38 : Int32.toInt (v1 + 7) = Int32.toInt v1 + Int32.toInt (7 : Int32) := ta_add _ _ (by omega)
      rw [← ev37] at f38
      refine And.intro (t_in (by omega)) ?_
      have f40 := tp_r nG
      have e39 : ∀ k : Nat, k % 8 = 4 → -1 ≤ Int32.toInt ((upd (upd (upd (upd (upd (upd (upd (upd sG v1.toNatClampNeg jC) v9.toNatClampNeg eO) v14.toNatClampNeg eW) v19.toNatClampNeg dO) v24.toNatClampNeg fJ) v28.toNatClampNeg fY) v33.toNatClampNeg jD) v37.toNatClampNeg nG) k) ∧ Int32.toInt ((upd (upd (upd (upd (upd (upd (upd (upd sG v1.toNatClampNeg jC) v9.toNatClampNeg eO) v14.toNatClampNeg eW) v19.toNatClampNeg dO) v24.toNatClampNeg fJ) v28.toNatClampNeg fY) v33.toNatClampNeg jD) v37.toNatClampNeg nG) k) ≤ 7 := t_updc (C := fun k => k % 8 = 4) e35 (fun hk => by have e9 : v37.toNatClampNeg = (Int32.toInt v37).toNat := rfl; have hk : v37.toNatClampNeg % 8 = 4 := hk; omega)
      have e41 : ∀ k : Nat, k % 8 = 6 → 0 ≤ Int32.toInt ((upd (upd (upd (upd (upd (upd (upd (upd sG v1.toNatClampNeg jC) v9.toNatClampNeg eO) v14.toNatClampNeg eW) v19.toNatClampNeg dO) v24.toNatClampNeg fJ) v28.toNatClampNeg fY) v33.toNatClampNeg jD) v37.toNatClampNeg nG) k) ∧ Int32.toInt ((upd (upd (upd (upd (upd (upd (upd (upd sG v1.toNatClampNeg jC) v9.toNatClampNeg eO) v14.toNatClampNeg eW) v19.toNatClampNeg dO) v24.toNatClampNeg fJ) v28.toNatClampNeg fY) v33.toNatClampNeg jD) v37.toNatClampNeg nG) k) ≤ 9 := t_updc (C := fun k => k % 8 = 6) e36 (fun hk => by have e9 : v37.toNatClampNeg = (Int32.toInt v37).toNat := rfl; have hk : v37.toNatClampNeg % 8 = 6 := hk; omega)
      refine t_X9_isYesOrNo  (fun r42 h_r42 => ?_)
      refine And.intro (fun c43 => ?_) (fun c43 => ?_)
      · skip
        have c43 := mt (fa_eq _ _).mpr c43
        refine And.intro (fun c44 => ?_) (fun c44 => ?_)
        · skip
          have c44 := (fa_lt _ _).mp c44
          exact hpost _ _ _ _ _ h_pa_undoable h_pa_free e39 e41
        · skip
          have c44 := mt (fa_lt _ _).mpr c44
          intro v45 ev45
          have f46 : Int32.toInt (uF + 1) = Int32.toInt uF + Int32.toInt (1 : Int32) := ta_add _ _ (by omega)
          rw [← ev45] at f46
          intro v47 ev47
          have f48 : Int32.toInt (v45 - v45 / 13 * 13) = Int32.toInt v45 % 13 := ti_rem _ _ (by decide) (by omega) (by decide)
          rw [← ev47] at f48
          intro v49 ev49
          have f50 : Int32.toInt (oE + 1) = Int32.toInt oE + Int32.toInt (1 : Int32) := ta_add _ _ (by omega)
          rw [← ev49] at f50
          intro v51 ev51
          have f52 := ti_min (12 : Int32) v49
          have hv51 := congrArg Int32.toInt ev51
          exact hpost _ _ _ _ _ (by omega) (by omega) e39 e41
      · skip
        have c43 := (fa_eq _ _).mp c43
        refine And.intro (fun _ => ?_) (fun h9 => absurd h9 (by decide))
        exact hpost _ _ _ _ _ h_pa_undoable h_pa_free e39 e41
    · skip
      have c4 := mt (fa_le _ _).mpr c4
      exfalso; omega
set_option maxHeartbeats 8000000 in
set_option maxRecDepth 200000 in
theorem ts_X3_worthOf_54 {post : Int32 → Prop} {K5 : Int32 → Int32 → Int32 → Int32 → Prop} {n5 : Int} (bZ : Int32) (pE : Nat → Int32) (h_tr_fruits : 0 ≤ Int32.toInt bZ ∧ Int32.toInt bZ ≤ 16) (hpost : ∀ (r : Int32) , post r) (hK5 : ∀ (x1 : Int32) (x2 : Int32) (x3 : Int32) (x4 : Int32), (0 ≤ Int32.toInt x4 ∧ Int32.toInt x4 ≤ 16) → (16 - Int32.toInt x4 < n5) → K5 x1 x2 x3 x4) (x1 x2 x3 x4 : Int32) (h_x4 : 0 ≤ Int32.toInt x4 ∧ Int32.toInt x4 ≤ 15) (hn5 : 16 - Int32.toInt x4 ≤ n5) : ws_X3_worthOf_54 post K5 bZ pE x1 x2 x3 x4 := by
  have l0 := li_1
  intro v1 ev1
  have f2 : Int32.toInt (x4 + 1) = Int32.toInt x4 + Int32.toInt (1 : Int32) := ta_add _ _ (by omega)
  rw [← ev1] at f2
  have f3 := tp_r x1
  have f4 := tp_r x2
  have f5 := tp_r x3
  exact hK5 x1 x2 x3 v1 (by omega) (by omega)
set_option maxHeartbeats 8000000 in
set_option maxRecDepth 200000 in
theorem ts_X3_worthOf_52 {post : Int32 → Prop} {K5 : Int32 → Int32 → Int32 → Int32 → Prop} {n5 : Int} (bZ : Int32) (pE : Nat → Int32) (h_tr_fruits : 0 ≤ Int32.toInt bZ ∧ Int32.toInt bZ ≤ 16) (hpost : ∀ (r : Int32) , post r) (hK5 : ∀ (x1 : Int32) (x2 : Int32) (x3 : Int32) (x4 : Int32), (0 ≤ Int32.toInt x4 ∧ Int32.toInt x4 ≤ 16) → (16 - Int32.toInt x4 < n5) → K5 x1 x2 x3 x4) (x1 x2 x4 k0 k1 : Int32) (h_x4 : 0 ≤ Int32.toInt x4 ∧ Int32.toInt x4 ≤ 15) (hn5 : 16 - Int32.toInt x4 ≤ n5) : ws_X3_worthOf_52 post K5 bZ pE x1 x2 x4 k0 k1 := by
  intro v6 ev6
  have hv6 := congrArg Int32.toInt ev6
  have f8 := tp_r x1
  have f9 := tp_r x2
  have f10 := tp_r v6
  exact ts_X3_worthOf_54 bZ pE h_tr_fruits hpost hK5 x1 x2 v6 x4 h_x4 hn5
set_option maxHeartbeats 8000000 in
set_option maxRecDepth 200000 in
theorem ts_X3_worthOf_5 {post : Int32 → Prop} {next : Int32 → Int32 → Int32 → Int32 → Prop} {n5 : Int} (bZ : Int32) (pE : Nat → Int32) (h_tr_fruits : 0 ≤ Int32.toInt bZ ∧ Int32.toInt bZ ≤ 16) (hpost : ∀ (r : Int32) , post r) (hKn : ∀ (x1 : Int32) (x2 : Int32) (x3 : Int32) (x4 : Int32), (0 ≤ Int32.toInt x4 ∧ Int32.toInt x4 ≤ 16) → (16 - Int32.toInt x4 < n5) → next x1 x2 x3 x4) (x1 x2 x3 x4 : Int32) (h_x4 : 0 ≤ Int32.toInt x4 ∧ Int32.toInt x4 ≤ 16) (hn5 : 16 - Int32.toInt x4 ≤ n5) : ws_X3_worthOf_5 post next bZ pE x1 x2 x3 x4 := by
  have l0 := li_0
  have l1 := li_1
  refine And.intro (fun c11 => ?_) (fun c11 => ?_)
  · skip
    have c11 := (fa_le _ _).mp c11
    exact hpost _ 
  · skip
    have c11 := mt (fa_le _ _).mpr c11
    intro v12 ev12
    have f14 := ti_andr v12 1 (by omega)
    refine And.intro (fun c13 => ?_) (fun c13 => ?_)
    · skip
      have c13 := (fa_eq _ _).mp c13
      have f15 := tp_r x1
      have f16 := tp_r x2
      have f17 := tp_r x3
      exact ts_X3_worthOf_54 bZ pE h_tr_fruits hpost hKn x1 x2 x3 x4 (by omega) hn5
    · skip
      have c13 := mt (fa_eq _ _).mpr c13
      intro v18 ev18
      have f20 := ti_andr v18 1 (by omega)
      refine And.intro (fun c19 => ?_) (fun c19 => ?_)
      · skip
        have c19 := (fa_eq _ _).mp c19
        refine And.intro (t_in (by omega)) ?_
        intro v21 ev21
        have hv21 := congrArg Int32.toInt ev21
        have f23 := tp_r x1
        have f24 := tp_r x2
        have f25 := tp_r x3
        have f26 := tp_r v21
        exact ts_X3_worthOf_52 bZ pE h_tr_fruits hpost hKn x1 x2 x4 x3 v21 (by omega) hn5
      · skip
        have c19 := mt (fa_eq _ _).mpr c19
        refine And.intro (t_in (by omega)) ?_
        intro v27 ev27
        have hv27 := congrArg Int32.toInt ev27
        intro v29 ev29
        have f30 := tp_r x1
        have f31 := tp_r x2
        have f32 := tp_r x3
        have f33 := tp_r v29
        exact ts_X3_worthOf_52 bZ pE h_tr_fruits hpost hKn x1 x2 x4 x3 v29 (by omega) hn5
set_option maxHeartbeats 8000000 in
set_option maxRecDepth 200000 in
theorem tb_X3_worthOf_5 {post : Int32 → Prop} (bZ : Int32) (pE : Nat → Int32) (h_tr_fruits : 0 ≤ Int32.toInt bZ ∧ Int32.toInt bZ ≤ 16) (hpost : ∀ (r : Int32) , post r) : ∀ (n : Nat) (x1 x2 x3 x4 : Int32), (0 ≤ Int32.toInt x4 ∧ Int32.toInt x4 ≤ 16) → (16 - Int32.toInt x4 < (n : Int)) → wb_X3_worthOf_5 post bZ pE n x1 x2 x3 x4 := by
  intro n
  induction n with
  | zero =>
    intro x1 x2 x3 x4 h_x4 hm
    exfalso; omega
  | succ n ih =>
    intro x1 x2 x3 x4 h_x4 hm
    exact ts_X3_worthOf_5 bZ pE h_tr_fruits hpost ih x1 x2 x3 x4 h_x4 (by omega)
set_option maxHeartbeats 8000000 in
set_option maxRecDepth 200000 in
theorem t_X3_worthOf {post : Int32 → Prop} {p0 p1 bZ : Int32} {pE : Nat → Int32} (h_tr_fruits : 0 ≤ Int32.toInt bZ ∧ Int32.toInt bZ ≤ 16) (hpost : ∀ (r : Int32) , post r) : wp_X3_worthOf post p0 p1 bZ pE := by
  have l0 := li_0
  have f34 := tp_r p0
  have f35 := tp_r p1
  exact ⟨18, tb_X3_worthOf_5 bZ pE h_tr_fruits hpost _ p0 p1 0 0 (by omega) (by omega)⟩
set_option maxHeartbeats 8000000 in
set_option maxRecDepth 200000 in
theorem ts_X7_reckon_136 {post : Int32 → (Nat → Int32) → Prop} (pG : Int32) (qO oF : Nat → Int32) (h_ru_length : 1 ≤ Int32.toInt pG ∧ Int32.toInt pG ≤ 40) (hpost : ∀ (r : Int32) (ru_stack' : Nat → Int32), post r ru_stack') (x1 : Int32) (qQ : Nat → Int32) (h_x1 : 0 ≤ Int32.toInt x1 ∧ Int32.toInt x1 ≤ 40) : ws_X7_reckon_136 post pG qO oF x1 qQ := by
  have l0 := li_0
  have l1 := li_1
  refine And.intro (fun c1 => ?_) (fun c1 => ?_)
  · skip
    have c1 := (fa_le _ _).mp c1
    exact hpost _ _ 
  · skip
    have c1 := mt (fa_le _ _).mpr c1
    intro v2 ev2
    have f3 : Int32.toInt (x1 - 1) = Int32.toInt x1 - Int32.toInt (1 : Int32) := ta_sub _ _ (by omega)
    rw [← ev2] at f3
    refine And.intro (t_in (by omega)) ?_
    intro v4 ev4
    have hv4 := congrArg Int32.toInt ev4
    exact hpost _ _ 
set_option maxHeartbeats 8000000 in
set_option maxRecDepth 200000 in
theorem ts_X7_reckon_130 {post : Int32 → (Nat → Int32) → Prop} {K4 : Int32 → Int32 → (Nat → Int32) → Prop} {n4 : Int} (pG : Int32) (qO oF : Nat → Int32) (h_ru_length : 1 ≤ Int32.toInt pG ∧ Int32.toInt pG ≤ 40) (hpost : ∀ (r : Int32) (ru_stack' : Nat → Int32), post r ru_stack') (hK4 : ∀ (x1 : Int32) (x2 : Int32) (qQ : Nat → Int32), (0 ≤ Int32.toInt x1 ∧ Int32.toInt x1 ≤ 40) → (0 ≤ Int32.toInt x2 ∧ Int32.toInt x2 ≤ 48) → (48 - Int32.toInt x2 < n4) → K4 x1 x2 qQ) (x1 x2 : Int32) (qQ : Nat → Int32) (h_x1 : 0 ≤ Int32.toInt x1 ∧ Int32.toInt x1 ≤ 40) (h_x2 : 0 ≤ Int32.toInt x2 ∧ Int32.toInt x2 ≤ 40) (hn4 : 48 - Int32.toInt x2 ≤ n4) : ws_X7_reckon_130 post K4 pG qO oF x1 x2 qQ := by
  have l0 := li_1
  intro v6 ev6
  have f7 : Int32.toInt (x2 + 1) = Int32.toInt x2 + Int32.toInt (1 : Int32) := ta_add _ _ (by omega)
  rw [← ev6] at f7
  exact hK4 x1 v6 qQ h_x1 (by omega) (by omega)
set_option maxHeartbeats 8000000 in
set_option maxRecDepth 200000 in
theorem ts_X7_reckon_4 {post : Int32 → (Nat → Int32) → Prop} {next : Int32 → Int32 → (Nat → Int32) → Prop} {n4 : Int} (pG : Int32) (qO oF : Nat → Int32) (h_ru_length : 1 ≤ Int32.toInt pG ∧ Int32.toInt pG ≤ 40) (hpost : ∀ (r : Int32) (ru_stack' : Nat → Int32), post r ru_stack') (hKn : ∀ (x1 : Int32) (x2 : Int32) (qQ : Nat → Int32), (0 ≤ Int32.toInt x1 ∧ Int32.toInt x1 ≤ 40) → (0 ≤ Int32.toInt x2 ∧ Int32.toInt x2 ≤ 48) → (48 - Int32.toInt x2 < n4) → next x1 x2 qQ) (x1 x2 : Int32) (qQ : Nat → Int32) (h_x1 : 0 ≤ Int32.toInt x1 ∧ Int32.toInt x1 ≤ 40) (h_x2 : 0 ≤ Int32.toInt x2 ∧ Int32.toInt x2 ≤ 48) (hn4 : 48 - Int32.toInt x2 ≤ n4) : ws_X7_reckon_4 post next pG qO oF x1 x2 qQ := by
  have l0 := li_m1
  have l1 := li_0
  have l2 := li_1
  have l3 := li_2000
  have l4 := li_2256
  have l5 := li_40
  have l6 := li_42
  have l7 := li_43
  have l8 := li_45
  have l9 := li_60
  have l10 := li_61
  have l11 := li_62
  have l12 := li_7
  refine And.intro (fun c8 => ?_) (fun c8 => ?_)
  · skip
    have c8 := (fa_le _ _).mp c8
    exact ts_X7_reckon_136 pG qO oF h_ru_length hpost x1 qQ h_x1
  · skip
    have c8 := mt (fa_le _ _).mpr c8
    refine And.intro (fun c9 => ?_) (fun c9 => ?_)
    · skip
      have c9 := (fa_le _ _).mp c9
      exfalso; omega
    · skip
      have c9 := mt (fa_le _ _).mpr c9
      refine And.intro (t_in (by omega)) ?_
      intro v10 ev10
      have hv10 := congrArg Int32.toInt ev10
      have f13 := tp_r v10
      refine And.intro (fun c12 => ?_) (fun c12 => ?_)
      · skip
        have c12 := (fa_le _ _).mp c12
        refine And.intro (fun c14 => ?_) (fun c14 => ?_)
        · skip
          have c14 := mt (fa_eq _ _).mpr c14
          refine And.intro (fun c15 => ?_) (fun c15 => ?_)
          · skip
            have c15 := (fa_le _ _).mp c15
            exact ts_X7_reckon_130 pG qO oF h_ru_length hpost hKn x1 x2 qQ h_x1 (by omega) hn4
          · skip
            have c15 := mt (fa_le _ _).mpr c15
            intro v16 ev16
            have f17 : Int32.toInt (x1 + (-1)) = Int32.toInt x1 + Int32.toInt ((-1) : Int32) := ta_add _ _ (by omega)
            rw [← ev16] at f17
            intro v18 ev18
            have f19 : Int32.toInt (v16 - 1) = Int32.toInt v16 - Int32.toInt (1 : Int32) := ta_sub _ _ (by omega)
            rw [← ev18] at f19
            intro v20 ev20
            have f21 : Int32.toInt (v10 - 2000) = Int32.toInt v10 - Int32.toInt (2000 : Int32) := ta_sub _ _ (by omega)
            rw [← ev20] at f21
            intro v22 ev22
            have hv22 := congrArg Int32.toInt (ev22.trans ev18.symm)
            refine And.intro (t_in (by omega)) ?_
            intro v23 ev23
            have hv23 := congrArg Int32.toInt ev23
            refine And.intro (t_in (by omega)) ?_
            intro v25 ev25
            have hv25 := congrArg Int32.toInt ev25
            refine And.intro (fun c27 => ?_) ?_
            · skip
              have c27 := (fa_eq _ _).mp c27
              refine And.intro (t_in (by omega)) ?_
              exact ts_X7_reckon_130 pG qO oF h_ru_length hpost hKn v16 x2 (upd qQ v18.toNatClampNeg (v23 * v25)) (by omega) (by omega) hn4
            refine And.intro (fun c28 => ?_) ?_
            · skip
              have c28 := (fa_eq _ _).mp c28
              refine And.intro (t_in (by omega)) ?_
              exact ts_X7_reckon_130 pG qO oF h_ru_length hpost hKn v16 x2 (upd qQ v18.toNatClampNeg (v23 + v25)) (by omega) (by omega) hn4
            refine And.intro (fun c29 => ?_) ?_
            · skip
              have c29 := (fa_eq _ _).mp c29
              refine And.intro (t_in (by omega)) ?_
              exact ts_X7_reckon_130 pG qO oF h_ru_length hpost hKn v16 x2 (upd qQ v18.toNatClampNeg (v23 - v25)) (by omega) (by omega) hn4
            refine And.intro (fun c30 => ?_) ?_
            · skip
              have c30 := (fa_eq _ _).mp c30
              have f32 := tp_r v23
              have f33 := tp_r v25
              refine And.intro (fun c31 => ?_) (fun c31 => ?_)
              · skip
                have c31 := (fa_le _ _).mp c31
                refine And.intro (t_in (by omega)) ?_
                exact ts_X7_reckon_130 pG qO oF h_ru_length hpost hKn v16 x2 (upd qQ v18.toNatClampNeg 0) (by omega) (by omega) hn4
              · skip
                have c31 := mt (fa_le _ _).mpr c31
                refine And.intro (t_in (by omega)) ?_
                exact ts_X7_reckon_130 pG qO oF h_ru_length hpost hKn v16 x2 (upd qQ v18.toNatClampNeg 1) (by omega) (by omega) hn4
            refine And.intro (fun c34 => ?_) ?_
            · skip
              have c34 := (fa_eq _ _).mp c34
              have f36 := tp_r v23
              have f37 := tp_r v25
              refine And.intro (fun c35 => ?_) (fun c35 => ?_)
              · skip
                have c35 := mt (fa_eq _ _).mpr c35
                refine And.intro (t_in (by omega)) ?_
                exact ts_X7_reckon_130 pG qO oF h_ru_length hpost hKn v16 x2 (upd qQ v18.toNatClampNeg 0) (by omega) (by omega) hn4
              · skip
                have c35 := (fa_eq _ _).mp c35
                refine And.intro (t_in (by omega)) ?_
                exact ts_X7_reckon_130 pG qO oF h_ru_length hpost hKn v16 x2 (upd qQ v18.toNatClampNeg 1) (by omega) (by omega) hn4
            refine And.intro (fun c38 => ?_) ?_
            · skip
              have c38 := (fa_eq _ _).mp c38
              have f40 := tp_r v23
              have f41 := tp_r v25
              refine And.intro (fun c39 => ?_) (fun c39 => ?_)
              · skip
                have c39 := (fa_le _ _).mp c39
                refine And.intro (t_in (by omega)) ?_
                exact ts_X7_reckon_130 pG qO oF h_ru_length hpost hKn v16 x2 (upd qQ v18.toNatClampNeg 0) (by omega) (by omega) hn4
              · skip
                have c39 := mt (fa_le _ _).mpr c39
                refine And.intro (t_in (by omega)) ?_
                exact ts_X7_reckon_130 pG qO oF h_ru_length hpost hKn v16 x2 (upd qQ v18.toNatClampNeg 1) (by omega) (by omega) hn4
            intro c42 c43 c44 c45 c46 c47
            have c42 := mt (fa_eq _ _).mpr c42
            have c43 := mt (fa_eq _ _).mpr c43
            have c44 := mt (fa_eq _ _).mpr c44
            have c45 := mt (fa_eq _ _).mpr c45
            have c46 := mt (fa_eq _ _).mpr c46
            have c47 := mt (fa_eq _ _).mpr c47
            have f49 := tp_r v25
            refine And.intro (fun c48 => ?_) (fun c48 => ?_)
            · skip
              have c48 := mt (fa_eq _ _).mpr c48
              refine And.intro (mt (fa_eq _ _).mp (by omega)) ?_
              refine And.intro (t_in (by omega)) ?_
              exact ts_X7_reckon_130 pG qO oF h_ru_length hpost hKn v16 x2 (upd qQ v18.toNatClampNeg (v23 / v25)) (by omega) (by omega) hn4
            · skip
              have c48 := (fa_eq _ _).mp c48
              refine And.intro (t_in (by omega)) ?_
              exact ts_X7_reckon_130 pG qO oF h_ru_length hpost hKn v16 x2 (upd qQ v18.toNatClampNeg 0) (by omega) (by omega) hn4
        · skip
          have c14 := (fa_eq _ _).mp c14
          refine And.intro (fun c50 => ?_) (fun c50 => ?_)
          · skip
            have c50 := (fa_le _ _).mp c50
            exact ts_X7_reckon_130 pG qO oF h_ru_length hpost hKn x1 x2 qQ h_x1 (by omega) hn4
          · skip
            have c50 := mt (fa_le _ _).mpr c50
            intro v51 ev51
            have f52 : Int32.toInt (x1 - 1) = Int32.toInt x1 - Int32.toInt (1 : Int32) := ta_sub _ _ (by omega)
            rw [← ev51] at f52
            intro v53 ev53
            have hv53 := congrArg Int32.toInt (ev53.trans ev51.symm)
            refine And.intro (t_in (by omega)) ?_
            intro v54 ev54
            refine And.intro (t_in (by omega)) ?_
            exact ts_X7_reckon_130 pG qO oF h_ru_length hpost hKn x1 x2 (upd qQ v51.toNatClampNeg v54) h_x1 (by omega) hn4
      · skip
        have c12 := mt (fa_le _ _).mpr c12
        refine And.intro (fun c55 => ?_) (fun c55 => ?_)
        · skip
          have c55 := (fa_le _ _).mp c55
          exact ts_X7_reckon_130 pG qO oF h_ru_length hpost hKn x1 x2 qQ h_x1 (by omega) hn4
        · skip
          have c55 := mt (fa_le _ _).mpr c55
          intro v56 ev56
          have hv56 := congrArg Int32.toInt ev56
          have f59 := tp_r v56
          refine And.intro (fun c58 => ?_) (fun c58 => ?_)
          · skip
            have c58 := (fa_lt _ _).mp c58
            refine And.intro (t_in (by omega)) ?_
            intro v60 ev60
            have f61 : Int32.toInt (x1 + 1) = Int32.toInt x1 + Int32.toInt (1 : Int32) := ta_add _ _ (by omega)
            rw [← ev60] at f61
            exact ts_X7_reckon_130 pG qO oF h_ru_length hpost hKn v60 x2 (upd qQ x1.toNatClampNeg v10) (by omega) (by omega) hn4
          · skip
            have c58 := mt (fa_lt _ _).mpr c58
            refine And.intro (fun c62 => ?_) (fun c62 => ?_)
            · skip
              have c62 := (fa_le _ _).mp c62
              refine And.intro (t_in (by omega)) ?_
              intro v63 ev63
              have f64 : Int32.toInt (x1 + 1) = Int32.toInt x1 + Int32.toInt (1 : Int32) := ta_add _ _ (by omega)
              rw [← ev63] at f64
              exact ts_X7_reckon_130 pG qO oF h_ru_length hpost hKn v63 x2 (upd qQ x1.toNatClampNeg v10) (by omega) (by omega) hn4
            · skip
              have c62 := mt (fa_le _ _).mpr c62
              refine And.intro (t_in (by omega)) ?_
              intro v65 ev65
              have hv65 := congrArg Int32.toInt ev65
              refine And.intro (t_in (by omega)) ?_
              intro v67 ev67
              have f68 : Int32.toInt (x1 + 1) = Int32.toInt x1 + Int32.toInt (1 : Int32) := ta_add _ _ (by omega)
              rw [← ev67] at f68
              exact ts_X7_reckon_130 pG qO oF h_ru_length hpost hKn v67 x2 (upd qQ x1.toNatClampNeg v65) (by omega) (by omega) hn4
set_option maxHeartbeats 8000000 in
set_option maxRecDepth 200000 in
theorem tb_X7_reckon_4 {post : Int32 → (Nat → Int32) → Prop} (pG : Int32) (qO oF : Nat → Int32) (h_ru_length : 1 ≤ Int32.toInt pG ∧ Int32.toInt pG ≤ 40) (hpost : ∀ (r : Int32) (ru_stack' : Nat → Int32), post r ru_stack') : ∀ (n : Nat) (x1 x2 : Int32) (qQ : Nat → Int32), (0 ≤ Int32.toInt x1 ∧ Int32.toInt x1 ≤ 40) → (0 ≤ Int32.toInt x2 ∧ Int32.toInt x2 ≤ 48) → (48 - Int32.toInt x2 < (n : Int)) → wb_X7_reckon_4 post pG qO oF n x1 x2 qQ := by
  intro n
  induction n with
  | zero =>
    intro x1 x2 qQ h_x1 h_x2 hm
    exfalso; omega
  | succ n ih =>
    intro x1 x2 qQ h_x1 h_x2 hm
    exact ts_X7_reckon_4 pG qO oF h_ru_length hpost ih x1 x2 qQ h_x1 h_x2 (by omega)
set_option maxHeartbeats 8000000 in
set_option maxRecDepth 200000 in
theorem t_X7_reckon {post : Int32 → (Nat → Int32) → Prop} {pG : Int32} {qO qQ oF : Nat → Int32} (h_ru_length : 1 ≤ Int32.toInt pG ∧ Int32.toInt pG ≤ 40) (hpost : ∀ (r : Int32) (ru_stack' : Nat → Int32), post r ru_stack') : wp_X7_reckon post pG qO qQ oF := by
  have l0 := li_0
  exact ⟨50, tb_X7_reckon_4 pG qO oF h_ru_length hpost _ 0 0 qQ (by omega) (by omega) (by omega)⟩
set_option maxHeartbeats 8000000 in
set_option maxRecDepth 200000 in
theorem ts_X0_pickSeconds_123 {post : Int32 → (Nat → Int32) → (Nat → Int32) → Prop} (bZ : Int32) (wD gF pE nJ nY : Nat → Int32) (dO pG : Int32) (oF : Nat → Int32) (h_tr_fruits : 0 ≤ Int32.toInt bZ ∧ Int32.toInt bZ ≤ 16) (h_ru_length : 0 ≤ Int32.toInt pG ∧ Int32.toInt pG ≤ 40) (hpost : ∀ (r : Int32) (ru_given' : Nat → Int32) (ru_stack' : Nat → Int32), (1 ≤ Int32.toInt r ∧ Int32.toInt r ≤ 99) → post r ru_given' ru_stack') (k0 : Int32) (qO qQ : Nat → Int32) : ws_X0_pickSeconds_123 post bZ wD gF pE nJ nY dO pG oF k0 qO qQ := by
  have l0 := li_1
  have l1 := li_99
  intro v1 ev1
  have f2 := tp_r (if k0 < 99 then k0 else 99)
  have f4 := tp_r k0
  have f3 := ti_min (99 : Int32) k0
  have hv1 := congrArg Int32.toInt ev1
  intro v5 ev5
  have f7 := tp_r v1
  have f6 := ti_max (1 : Int32) v1
  have hv5 := congrArg Int32.toInt ev5
  exact hpost _ _ _ (by omega)
set_option maxHeartbeats 8000000 in
set_option maxRecDepth 200000 in
theorem ts_X0_pickSeconds_92 {post : Int32 → (Nat → Int32) → (Nat → Int32) → Prop} (bZ : Int32) (wD gF pE nJ nY : Nat → Int32) (dO pG : Int32) (oF : Nat → Int32) (h_tr_fruits : 0 ≤ Int32.toInt bZ ∧ Int32.toInt bZ ≤ 16) (h_ru_length : 0 ≤ Int32.toInt pG ∧ Int32.toInt pG ≤ 40) (hpost : ∀ (r : Int32) (ru_given' : Nat → Int32) (ru_stack' : Nat → Int32), (1 ≤ Int32.toInt r ∧ Int32.toInt r ≤ 99) → post r ru_given' ru_stack') (x6 x7 : Int32) (qO qQ : Nat → Int32) : ws_X0_pickSeconds_92 post bZ wD gF pE nJ nY dO pG oF x6 x7 qO qQ := by
  have l0 := li_0
  refine And.intro (fun c8 => ?_) (fun c8 => ?_)
  · skip
    have c8 := mt (fa_eq _ _).mpr c8
    refine t_X7_reckon (by omega) (fun r10 aBI => ?_)
    have f11 := tp_r r10
    exact ts_X0_pickSeconds_123 bZ wD gF pE nJ nY dO pG oF h_tr_fruits h_ru_length hpost r10 qO aBI 
  · skip
    have c8 := (fa_eq _ _).mp c8
    intro v12 ev12
    have hv12 := congrArg Int32.toInt ev12
    intro v14 ev14
    have hv14 := congrArg Int32.toInt ev14
    have f16 := tp_r v14
    exact ts_X0_pickSeconds_123 bZ wD gF pE nJ nY dO pG oF h_tr_fruits h_ru_length hpost v14 qO qQ 
set_option maxHeartbeats 8000000 in
set_option maxRecDepth 200000 in
theorem t_X0_pickSeconds {post : Int32 → (Nat → Int32) → (Nat → Int32) → Prop} {p0 p1 p2 p3 bZ : Int32} {wD gF pE nJ nY : Nat → Int32} {dO pG : Int32} {qO qQ oF : Nat → Int32} (h_p0 : 0 ≤ Int32.toInt p0 ∧ Int32.toInt p0 ≤ 15) (h_p1 : 0 ≤ Int32.toInt p1 ∧ Int32.toInt p1 ≤ 7) (h_p3 : 0 ≤ Int32.toInt p3 ∧ Int32.toInt p3 ≤ 63) (h_tr_fruits : 0 ≤ Int32.toInt bZ ∧ Int32.toInt bZ ≤ 16) (h_ru_length : 0 ≤ Int32.toInt pG ∧ Int32.toInt pG ≤ 40) (hpost : ∀ (r : Int32) (ru_given' : Nat → Int32) (ru_stack' : Nat → Int32), (1 ≤ Int32.toInt r ∧ Int32.toInt r ≤ 99) → post r ru_given' ru_stack') : wp_X0_pickSeconds post p0 p1 p2 p3 bZ wD gF pE nJ nY dO pG qO qQ oF := by
  have l0 := li_0
  have l1 := li_1
  have l2 := li_2
  have l3 := li_3
  have l4 := li_4
  have l5 := li_5
  have l6 := li_6
  refine And.intro (t_in (by omega)) ?_
  intro v17 ev17
  have hv17 := congrArg Int32.toInt ev17
  refine And.intro (t_in (by omega)) ?_
  have f20 := tp_r v17
  refine And.intro (fun c19 => ?_) (fun c19 => ?_)
  · skip
    have c19 := (fa_le _ _).mp c19
    refine And.intro (t_in (by omega)) ?_
    intro v22 ev22
    have hv22 := congrArg Int32.toInt ev22
    refine And.intro (t_in (by omega)) ?_
    refine And.intro (t_in (by omega)) ?_
    intro v23 ev23
    have hv23 := congrArg Int32.toInt ev23
    refine And.intro (t_in (by omega)) ?_
    have f26 := tp_r v23
    refine And.intro (fun c25 => ?_) (fun c25 => ?_)
    · skip
      have c25 := (fa_le _ _).mp c25
      refine And.intro (t_in (by omega)) ?_
      intro v28 ev28
      have hv28 := congrArg Int32.toInt ev28
      intro v29 ev29
      have f30 := ti_shl1 15 32768 p0 (by decide) (by omega)
      have hv29 := congrArg Int32.toInt ev29
      refine t_X3_worthOf h_tr_fruits (fun r31 => ?_)
      exact ts_X0_pickSeconds_92 bZ wD gF pE nJ nY dO pG oF h_tr_fruits h_ru_length hpost (v22 - (wD p0.toNatClampNeg)) 0 (upd (upd (upd (upd (upd (upd (upd qO (0 : Int32).toNatClampNeg (v22 - (wD p0.toNatClampNeg))) (1 : Int32).toNatClampNeg 0) (2 : Int32).toNatClampNeg v28) (3 : Int32).toNatClampNeg r31) (4 : Int32).toNatClampNeg p1) (5 : Int32).toNatClampNeg p3) (6 : Int32).toNatClampNeg p2) qQ 
    · skip
      have c25 := mt (fa_le _ _).mpr c25
      refine And.intro (t_in (by omega)) ?_
      intro v33 ev33
      have hv33 := congrArg Int32.toInt ev33
      refine And.intro (t_in (by omega)) ?_
      intro v34 ev34
      have hv34 := congrArg Int32.toInt ev34
      refine And.intro (t_in (by omega)) ?_
      intro v36 ev36
      have hv36 := congrArg Int32.toInt ev36
      intro v37 ev37
      have f38 := ti_shl1 15 32768 p0 (by decide) (by omega)
      have hv37 := congrArg Int32.toInt ev37
      refine t_X3_worthOf h_tr_fruits (fun r39 => ?_)
      have f41 := tp_r v34
      exact ts_X0_pickSeconds_92 bZ wD gF pE nJ nY dO pG oF h_tr_fruits h_ru_length hpost (v22 - (wD p0.toNatClampNeg)) v34 (upd (upd (upd (upd (upd (upd (upd qO (0 : Int32).toNatClampNeg (v22 - (wD p0.toNatClampNeg))) (1 : Int32).toNatClampNeg v34) (2 : Int32).toNatClampNeg v36) (3 : Int32).toNatClampNeg r39) (4 : Int32).toNatClampNeg p1) (5 : Int32).toNatClampNeg p3) (6 : Int32).toNatClampNeg p2) qQ 
  · skip
    have c19 := mt (fa_le _ _).mpr c19
    refine And.intro (t_in (by omega)) ?_
    intro v42 ev42
    have hv42 := congrArg Int32.toInt ev42
    refine And.intro (t_in (by omega)) ?_
    intro v43 ev43
    have hv43 := congrArg Int32.toInt ev43
    refine And.intro (t_in (by omega)) ?_
    intro v45 ev45
    have hv45 := congrArg Int32.toInt ev45
    refine And.intro (t_in (by omega)) ?_
    have f48 := tp_r v45
    refine And.intro (fun c47 => ?_) (fun c47 => ?_)
    · skip
      have c47 := (fa_le _ _).mp c47
      refine And.intro (t_in (by omega)) ?_
      intro v50 ev50
      have hv50 := congrArg Int32.toInt ev50
      intro v51 ev51
      have f52 := ti_shl1 15 32768 p0 (by decide) (by omega)
      have hv51 := congrArg Int32.toInt ev51
      refine t_X3_worthOf h_tr_fruits (fun r53 => ?_)
      have f54 := tp_r v43
      exact ts_X0_pickSeconds_92 bZ wD gF pE nJ nY dO pG oF h_tr_fruits h_ru_length hpost v43 0 (upd (upd (upd (upd (upd (upd (upd qO (0 : Int32).toNatClampNeg v43) (1 : Int32).toNatClampNeg 0) (2 : Int32).toNatClampNeg v50) (3 : Int32).toNatClampNeg r53) (4 : Int32).toNatClampNeg p1) (5 : Int32).toNatClampNeg p3) (6 : Int32).toNatClampNeg p2) qQ 
    · skip
      have c47 := mt (fa_le _ _).mpr c47
      refine And.intro (t_in (by omega)) ?_
      intro v55 ev55
      have hv55 := congrArg Int32.toInt ev55
      refine And.intro (t_in (by omega)) ?_
      intro v56 ev56
      have hv56 := congrArg Int32.toInt ev56
      refine And.intro (t_in (by omega)) ?_
      intro v58 ev58
      have hv58 := congrArg Int32.toInt ev58
      intro v59 ev59
      have f60 := ti_shl1 15 32768 p0 (by decide) (by omega)
      have hv59 := congrArg Int32.toInt ev59
      refine t_X3_worthOf h_tr_fruits (fun r61 => ?_)
      have f62 := tp_r v43
      have f63 := tp_r v56
      exact ts_X0_pickSeconds_92 bZ wD gF pE nJ nY dO pG oF h_tr_fruits h_ru_length hpost v43 v56 (upd (upd (upd (upd (upd (upd (upd qO (0 : Int32).toNatClampNeg v43) (1 : Int32).toNatClampNeg v56) (2 : Int32).toNatClampNeg v58) (3 : Int32).toNatClampNeg r61) (4 : Int32).toNatClampNeg p1) (5 : Int32).toNatClampNeg p3) (6 : Int32).toNatClampNeg p2) qQ 
set_option maxHeartbeats 8000000 in
set_option maxRecDepth 200000 in
theorem t_X0_pickFruit {post : Int32 → Int32 → Int32 → Int32 → (Nat → Int32) → (Nat → Int32) → Prop} {p0 p1 bZ : Int32} {wD gF pE qA nJ nY dQ : Nat → Int32} {jC eO eW dO fJ fY jD nG pG : Int32} {qO qQ oF : Nat → Int32} (h_tr_fruits : 0 ≤ Int32.toInt bZ ∧ Int32.toInt bZ ≤ 16) (h_no_ladder : -1 ≤ Int32.toInt fJ ∧ Int32.toInt fJ ≤ 7) (h_no_today : 0 ≤ Int32.toInt jD ∧ Int32.toInt jD ≤ 9) (h_ru_length : 0 ≤ Int32.toInt pG ∧ Int32.toInt pG ≤ 40) (hpost : ∀ (r : Int32) (no_apron' : Int32) (no_bruised' : Int32) (no_clock' : Int32) (ru_given' : Nat → Int32) (ru_stack' : Nat → Int32), (-5 ≤ Int32.toInt r ∧ Int32.toInt r ≤ 99) → post r no_apron' no_bruised' no_clock' ru_given' ru_stack') : wp_X0_pickFruit post p0 p1 bZ wD gF pE qA nJ nY dQ jC eO eW dO fJ fY jD nG pG qO qQ oF := by
  have l0 := li_m1
  have l1 := li_m2
  have l2 := li_m3
  have l3 := li_m4
  have l4 := li_m5
  have l5 := li_0
  have l6 := li_1
  have l7 := li_2
  have l8 := li_252645135
  have l9 := li_4
  have l10 := li_63
  have l11 := li_858993459
  have l12 := li_9999
  have f2 := tp_r p0
  refine And.intro (fun c1 => ?_) (fun c1 => ?_)
  · skip
    have c1 := (fa_lt _ _).mp c1
    refine And.intro (fun _ => ?_) (fun h9 => absurd h9 (by decide))
    exact hpost _ _ _ _ _ _ (by omega)
  · skip
    have c1 := mt (fa_lt _ _).mpr c1
    refine And.intro (fun c3 => ?_) (fun c3 => ?_)
    · skip
      have c3 := (fa_le _ _).mp c3
      refine And.intro (fun _ => ?_) (fun h9 => absurd h9 (by decide))
      exact hpost _ _ _ _ _ _ (by omega)
    · skip
      have c3 := mt (fa_le _ _).mpr c3
      refine And.intro (fun h9 => absurd h9 (by decide)) (fun _ => ?_)
      refine t_X9_isYesOrNo  (fun r4 h_r4 => ?_)
      refine And.intro (fun c5 => ?_) (fun c5 => ?_)
      · skip
        have c5 := mt (fa_eq _ _).mpr c5
        intro v6 ev6
        have f7 := ti_shl1 16 65536 bZ (by decide) (by omega)
        have hv6 := congrArg Int32.toInt ev6
        intro v8 ev8
        intro v9 ev9
        intro v10 ev10
        have f13 : Int32.toInt (v6 - 1) = Int32.toInt v6 - Int32.toInt (1 : Int32) := ta_sub _ _ (by omega)
        have f14 := ti_andl (v6 - 1) (v9 ^^^ (-1)) (by omega)
        have f11 := ti_shr ((v6 - 1) &&& (v9 ^^^ (-1))) p0 (by omega)
        have hv10 := congrArg Int32.toInt ev10
        have f16 := ti_andr v10 1 (by omega)
        have f17 := ti_andl v10 1 (by omega)
        refine And.intro (fun c15 => ?_) (fun c15 => ?_)
        · skip
          have c15 := mt (fa_eq _ _).mpr c15
          refine And.intro (t_in (by omega)) ?_
          intro v18 ev18
          have hv18 := congrArg Int32.toInt ev18
          have f21 := tp_r v18
          refine And.intro (fun c20 => ?_) (fun c20 => ?_)
          · skip
            have c20 := (fa_le _ _).mp c20
            refine And.intro (fun c22 => ?_) (fun c22 => ?_)
            · skip
              have c22 := (fa_eq _ _).mp c22
              exact hpost _ _ _ _ _ _ (by omega)
            · skip
              have c22 := mt (fa_eq _ _).mpr c22
              intro v23 ev23
              have hv23 := congrArg Int32.toInt ev23
              intro v25 ev25
              have hv25 := congrArg Int32.toInt ev25
              refine And.intro (t_in (by omega)) ?_
              intro v27 ev27
              have hv27 := congrArg Int32.toInt ev27
              refine And.intro (t_in (by omega)) ?_
              have f30 := tp_r v27
              refine And.intro (fun c29 => ?_) (fun c29 => ?_)
              · skip
                have c29 := (fa_le _ _).mp c29
                refine And.intro (t_in (by omega)) ?_
                intro v32 ev32
                have hv32 := congrArg Int32.toInt ev32
                refine And.intro (t_in (by omega)) ?_
                refine And.intro (t_in (by omega)) ?_
                intro v33 ev33
                have hv33 := congrArg Int32.toInt ev33
                refine And.intro (t_in (by omega)) ?_
                have f36 := tp_r v33
                refine And.intro (fun c35 => ?_) (fun c35 => ?_)
                · skip
                  have c35 := (fa_le _ _).mp c35
                  intro v38 ev38
                  have hv38 := congrArg Int32.toInt ev38
                  intro v40 ev40
                  have f42 := tp_r v38
                  have f43 : Int32.toInt (0 * 0) = Int32.toInt (0 : Int32) * 0 := ta_mulc _ _ (by decide) (by omega)
                  have f41 : Int32.toInt (v38 + (0 * 0)) = Int32.toInt v38 + Int32.toInt (0 * 0) := ta_add _ _ (by omega)
                  rw [← ev40] at f41
                  have f45 := tp_r v40
                  refine And.intro (fun c44 => ?_) (fun c44 => ?_)
                  · skip
                    have c44 := (fa_lt _ _).mp c44
                    refine And.intro (fun h9 => absurd h9 (by decide)) (fun _ => ?_)
                    exact hpost _ _ _ _ _ _ (by omega)
                  · skip
                    have c44 := mt (fa_lt _ _).mpr c44
                    refine And.intro (fun _ => ?_) (fun h9 => absurd h9 (by decide))
                    intro v47 ev47
                    intro v48 ev48
                    have hv48 := congrArg Int32.toInt ev48
                    intro v50 ev50
                    have f51 := ti_andr v48 858993459 (by omega)
                    have hv50 := congrArg Int32.toInt ev50
                    intro v52 ev52
                    intro v53 ev53
                    have f55 := ti_andr v52 858993459 (by omega)
                    have f54 : Int32.toInt (v50 + (v52 &&& 858993459)) = Int32.toInt v50 + Int32.toInt (v52 &&& 858993459) := ta_add _ _ (by omega)
                    rw [← ev53] at f54
                    intro v56 ev56
                    have hv56 := congrArg Int32.toInt ev56
                    intro v58 ev58
                    have f59 := ti_andr v56 252645135 (by omega)
                    have hv58 := congrArg Int32.toInt ev58
                    intro v60 ev60
                    have hv60 := congrArg Int32.toInt ev60
                    intro v62 ev62
                    have hv62 := congrArg Int32.toInt ev62
                    have f65 := ti_andr v62 63 (by omega)
                    refine And.intro (fun c64 => ?_) (fun c64 => ?_)
                    · skip
                      have c64 := (fa_lt _ _).mp c64
                      refine t_X0_pickSeconds (by omega) (by omega) (by omega) h_tr_fruits h_ru_length (fun r69 ru_given_67 ru_stack_68 h_r69 => ?_)
                      refine t_X3_lowerThan (by omega) (by omega) (by omega) (fun r70 h_r70 => ?_)
                      intro v71 ev71
                      intro v72 ev72
                      intro v73 ev73
                      have hv73 := congrArg Int32.toInt ev73
                      intro v75 ev75
                      have f76 := tp_r (if v73 < 9999 then v73 else 9999)
                      have f78 := tp_r v73
                      have f77 := ti_min (9999 : Int32) v73
                      have hv75 := congrArg Int32.toInt ev75
                      exact hpost _ _ _ _ _ _ (by omega)
                    · skip
                      have c64 := mt (fa_lt _ _).mpr c64
                      exact hpost _ _ _ _ _ _ (by omega)
                · skip
                  have c35 := mt (fa_le _ _).mpr c35
                  refine And.intro (t_in (by omega)) ?_
                  intro v79 ev79
                  have hv79 := congrArg Int32.toInt ev79
                  refine And.intro (t_in (by omega)) ?_
                  intro v80 ev80
                  have hv80 := congrArg Int32.toInt ev80
                  intro v82 ev82
                  have hv82 := congrArg Int32.toInt ev82
                  intro v84 ev84
                  have hv84 := congrArg Int32.toInt ev84
                  have f87 := tp_r v84
                  refine And.intro (fun c86 => ?_) (fun c86 => ?_)
                  · skip
                    have c86 := (fa_lt _ _).mp c86
                    refine And.intro (fun h9 => absurd h9 (by decide)) (fun _ => ?_)
                    exact hpost _ _ _ _ _ _ (by omega)
                  · skip
                    have c86 := mt (fa_lt _ _).mpr c86
                    refine And.intro (fun _ => ?_) (fun h9 => absurd h9 (by decide))
                    intro v89 ev89
                    intro v90 ev90
                    have hv90 := congrArg Int32.toInt ev90
                    intro v92 ev92
                    have f93 := ti_andr v90 858993459 (by omega)
                    have hv92 := congrArg Int32.toInt ev92
                    intro v94 ev94
                    intro v95 ev95
                    have f97 := ti_andr v94 858993459 (by omega)
                    have f96 : Int32.toInt (v92 + (v94 &&& 858993459)) = Int32.toInt v92 + Int32.toInt (v94 &&& 858993459) := ta_add _ _ (by omega)
                    rw [← ev95] at f96
                    intro v98 ev98
                    have hv98 := congrArg Int32.toInt ev98
                    intro v100 ev100
                    have f101 := ti_andr v98 252645135 (by omega)
                    have hv100 := congrArg Int32.toInt ev100
                    intro v102 ev102
                    have hv102 := congrArg Int32.toInt ev102
                    intro v104 ev104
                    have hv104 := congrArg Int32.toInt ev104
                    have f107 := ti_andr v104 63 (by omega)
                    refine And.intro (fun c106 => ?_) (fun c106 => ?_)
                    · skip
                      have c106 := (fa_lt _ _).mp c106
                      refine t_X0_pickSeconds (by omega) (by omega) (by omega) h_tr_fruits h_ru_length (fun r111 ru_given_109 ru_stack_110 h_r111 => ?_)
                      refine t_X3_lowerThan (by omega) (by omega) (by omega) (fun r112 h_r112 => ?_)
                      intro v113 ev113
                      intro v114 ev114
                      intro v115 ev115
                      have hv115 := congrArg Int32.toInt ev115
                      intro v117 ev117
                      have f118 := tp_r (if v115 < 9999 then v115 else 9999)
                      have f120 := tp_r v115
                      have f119 := ti_min (9999 : Int32) v115
                      have hv117 := congrArg Int32.toInt ev117
                      exact hpost _ _ _ _ _ _ (by omega)
                    · skip
                      have c106 := mt (fa_lt _ _).mpr c106
                      exact hpost _ _ _ _ _ _ (by omega)
              · skip
                have c29 := mt (fa_le _ _).mpr c29
                refine And.intro (t_in (by omega)) ?_
                intro v121 ev121
                have hv121 := congrArg Int32.toInt ev121
                refine And.intro (t_in (by omega)) ?_
                intro v122 ev122
                have hv122 := congrArg Int32.toInt ev122
                refine And.intro (t_in (by omega)) ?_
                intro v124 ev124
                have hv124 := congrArg Int32.toInt ev124
                refine And.intro (t_in (by omega)) ?_
                have f127 := tp_r v124
                refine And.intro (fun c126 => ?_) (fun c126 => ?_)
                · skip
                  have c126 := (fa_le _ _).mp c126
                  intro v129 ev129
                  have hv129 := congrArg Int32.toInt ev129
                  intro v131 ev131
                  have f133 := tp_r v129
                  have f134 : Int32.toInt (0 * 0) = Int32.toInt (0 : Int32) * 0 := ta_mulc _ _ (by decide) (by omega)
                  have f132 : Int32.toInt (v129 + (0 * 0)) = Int32.toInt v129 + Int32.toInt (0 * 0) := ta_add _ _ (by omega)
                  rw [← ev131] at f132
                  have f136 := tp_r v131
                  refine And.intro (fun c135 => ?_) (fun c135 => ?_)
                  · skip
                    have c135 := (fa_lt _ _).mp c135
                    refine And.intro (fun h9 => absurd h9 (by decide)) (fun _ => ?_)
                    exact hpost _ _ _ _ _ _ (by omega)
                  · skip
                    have c135 := mt (fa_lt _ _).mpr c135
                    refine And.intro (fun _ => ?_) (fun h9 => absurd h9 (by decide))
                    intro v138 ev138
                    intro v139 ev139
                    have hv139 := congrArg Int32.toInt ev139
                    intro v141 ev141
                    have f142 := ti_andr v139 858993459 (by omega)
                    have hv141 := congrArg Int32.toInt ev141
                    intro v143 ev143
                    intro v144 ev144
                    have f146 := ti_andr v143 858993459 (by omega)
                    have f145 : Int32.toInt (v141 + (v143 &&& 858993459)) = Int32.toInt v141 + Int32.toInt (v143 &&& 858993459) := ta_add _ _ (by omega)
                    rw [← ev144] at f145
                    intro v147 ev147
                    have hv147 := congrArg Int32.toInt ev147
                    intro v149 ev149
                    have f150 := ti_andr v147 252645135 (by omega)
                    have hv149 := congrArg Int32.toInt ev149
                    intro v151 ev151
                    have hv151 := congrArg Int32.toInt ev151
                    intro v153 ev153
                    have hv153 := congrArg Int32.toInt ev153
                    have f156 := ti_andr v153 63 (by omega)
                    refine And.intro (fun c155 => ?_) (fun c155 => ?_)
                    · skip
                      have c155 := (fa_lt _ _).mp c155
                      refine t_X0_pickSeconds (by omega) (by omega) (by omega) h_tr_fruits h_ru_length (fun r160 ru_given_158 ru_stack_159 h_r160 => ?_)
                      refine t_X3_lowerThan (by omega) (by omega) (by omega) (fun r161 h_r161 => ?_)
                      intro v162 ev162
                      intro v163 ev163
                      intro v164 ev164
                      have hv164 := congrArg Int32.toInt ev164
                      intro v166 ev166
                      have f167 := tp_r (if v164 < 9999 then v164 else 9999)
                      have f169 := tp_r v164
                      have f168 := ti_min (9999 : Int32) v164
                      have hv166 := congrArg Int32.toInt ev166
                      exact hpost _ _ _ _ _ _ (by omega)
                    · skip
                      have c155 := mt (fa_lt _ _).mpr c155
                      exact hpost _ _ _ _ _ _ (by omega)
                · skip
                  have c126 := mt (fa_le _ _).mpr c126
                  refine And.intro (t_in (by omega)) ?_
                  intro v170 ev170
                  have hv170 := congrArg Int32.toInt ev170
                  refine And.intro (t_in (by omega)) ?_
                  intro v171 ev171
                  have hv171 := congrArg Int32.toInt ev171
                  intro v173 ev173
                  have hv173 := congrArg Int32.toInt ev173
                  intro v175 ev175
                  have hv175 := congrArg Int32.toInt ev175
                  have f178 := tp_r v175
                  refine And.intro (fun c177 => ?_) (fun c177 => ?_)
                  · skip
                    have c177 := (fa_lt _ _).mp c177
                    refine And.intro (fun h9 => absurd h9 (by decide)) (fun _ => ?_)
                    exact hpost _ _ _ _ _ _ (by omega)
                  · skip
                    have c177 := mt (fa_lt _ _).mpr c177
                    refine And.intro (fun _ => ?_) (fun h9 => absurd h9 (by decide))
                    intro v180 ev180
                    intro v181 ev181
                    have hv181 := congrArg Int32.toInt ev181
                    intro v183 ev183
                    have f184 := ti_andr v181 858993459 (by omega)
                    have hv183 := congrArg Int32.toInt ev183
                    intro v185 ev185
                    intro v186 ev186
                    have f188 := ti_andr v185 858993459 (by omega)
                    have f187 : Int32.toInt (v183 + (v185 &&& 858993459)) = Int32.toInt v183 + Int32.toInt (v185 &&& 858993459) := ta_add _ _ (by omega)
                    rw [← ev186] at f187
                    intro v189 ev189
                    have hv189 := congrArg Int32.toInt ev189
                    intro v191 ev191
                    have f192 := ti_andr v189 252645135 (by omega)
                    have hv191 := congrArg Int32.toInt ev191
                    intro v193 ev193
                    have hv193 := congrArg Int32.toInt ev193
                    intro v195 ev195
                    have hv195 := congrArg Int32.toInt ev195
                    have f198 := ti_andr v195 63 (by omega)
                    refine And.intro (fun c197 => ?_) (fun c197 => ?_)
                    · skip
                      have c197 := (fa_lt _ _).mp c197
                      refine t_X0_pickSeconds (by omega) (by omega) (by omega) h_tr_fruits h_ru_length (fun r202 ru_given_200 ru_stack_201 h_r202 => ?_)
                      refine t_X3_lowerThan (by omega) (by omega) (by omega) (fun r203 h_r203 => ?_)
                      intro v204 ev204
                      intro v205 ev205
                      intro v206 ev206
                      have hv206 := congrArg Int32.toInt ev206
                      intro v208 ev208
                      have f209 := tp_r (if v206 < 9999 then v206 else 9999)
                      have f211 := tp_r v206
                      have f210 := ti_min (9999 : Int32) v206
                      have hv208 := congrArg Int32.toInt ev208
                      exact hpost _ _ _ _ _ _ (by omega)
                    · skip
                      have c197 := mt (fa_lt _ _).mpr c197
                      exact hpost _ _ _ _ _ _ (by omega)
          · skip
            have c20 := mt (fa_le _ _).mpr c20
            exact hpost _ _ _ _ _ _ (by omega)
        · skip
          have c15 := (fa_eq _ _).mp c15
          exact hpost _ _ _ _ _ _ (by omega)
      · skip
        have c5 := (fa_eq _ _).mp c5
        exact hpost _ _ _ _ _ _ (by omega)
set_option maxHeartbeats 8000000 in
set_option maxRecDepth 200000 in
theorem t_X9_pick {post : Int32 → Int32 → Int32 → Int32 → (Nat → Int32) → (Nat → Int32) → Int32 → Int32 → (Nat → Int32) → Prop} {p0 p1 bZ : Int32} {wD gF pE qA nJ nY dQ : Nat → Int32} {jC eO eW dO fJ fY jD nG pG : Int32} {qO qQ oF : Nat → Int32} {oE uF : Int32} {sG : Nat → Int32} (h_tr_fruits : 0 ≤ Int32.toInt bZ ∧ Int32.toInt bZ ≤ 16) (h_no_ladder : -1 ≤ Int32.toInt fJ ∧ Int32.toInt fJ ≤ 7) (h_no_today : 0 ≤ Int32.toInt jD ∧ Int32.toInt jD ≤ 9) (h_ru_length : 0 ≤ Int32.toInt pG ∧ Int32.toInt pG ≤ 40) (h_pa_undoable : 0 ≤ Int32.toInt oE ∧ Int32.toInt oE ≤ 12) (h_pa_free : 0 ≤ Int32.toInt uF ∧ Int32.toInt uF ≤ 12) (e0_pa_cells : ∀ k : Nat, k % 8 = 4 → -1 ≤ Int32.toInt (sG k) ∧ Int32.toInt (sG k) ≤ 7) (e1_pa_cells : ∀ k : Nat, k % 8 = 6 → 0 ≤ Int32.toInt (sG k) ∧ Int32.toInt (sG k) ≤ 9) (hpost : ∀ (r : Int32) (no_apron' : Int32) (no_bruised' : Int32) (no_clock' : Int32) (ru_given' : Nat → Int32) (ru_stack' : Nat → Int32) (pa_undoable' : Int32) (pa_free' : Int32) (pa_cells' : Nat → Int32), (-5 ≤ Int32.toInt r ∧ Int32.toInt r ≤ 99) → (0 ≤ Int32.toInt pa_undoable' ∧ Int32.toInt pa_undoable' ≤ 12) → (0 ≤ Int32.toInt pa_free' ∧ Int32.toInt pa_free' ≤ 12) → (∀ k : Nat, k % 8 = 4 → -1 ≤ Int32.toInt (pa_cells' k) ∧ Int32.toInt (pa_cells' k) ≤ 7) → (∀ k : Nat, k % 8 = 6 → 0 ≤ Int32.toInt (pa_cells' k) ∧ Int32.toInt (pa_cells' k) ≤ 9) → post r no_apron' no_bruised' no_clock' ru_given' ru_stack' pa_undoable' pa_free' pa_cells') : wp_X9_pick post p0 p1 bZ wD gF pE qA nJ nY dQ jC eO eW dO fJ fY jD nG pG qO qQ oF oE uF sG := by
  have l0 := li_0
  have l1 := li_1
  have l2 := li_104
  have l3 := li_12
  have l4 := li_13
  have l5 := li_2
  have l6 := li_3
  have l7 := li_4
  have l8 := li_5
  have l9 := li_6
  have l10 := li_7
  have l11 := li_8
  intro v1 ev1
  have f2 : Int32.toInt (uF * 8) = Int32.toInt uF * 8 := ta_mulc _ _ (by decide) (by omega)
  rw [← ev1] at f2
  refine And.intro (fun c3 => ?_) (fun c3 => ?_)
  · skip
    have c3 := (fa_lt _ _).mp c3
    exfalso; omega
  · skip
    have c3 := mt (fa_lt _ _).mpr c3
    have f5 : Int32.toInt (104 - 8) = Int32.toInt (104 : Int32) - Int32.toInt (8 : Int32) := ta_sub _ _ (by omega)
    refine And.intro (fun c4 => ?_) (fun c4 => ?_)
    · skip
      have c4 := (fa_le _ _).mp c4
      refine And.intro (t_in (by omega)) ?_
      have f7 := tp_r jC
      have e6 : ∀ k : Nat, k % 8 = 4 → -1 ≤ Int32.toInt ((upd sG v1.toNatClampNeg jC) k) ∧ Int32.toInt ((upd sG v1.toNatClampNeg jC) k) ≤ 7 := t_updc (C := fun k => k % 8 = 4) e0_pa_cells (fun hk => by have e9 : v1.toNatClampNeg = (Int32.toInt v1).toNat := rfl; have hk : v1.toNatClampNeg % 8 = 4 := hk; omega)
      have e8 : ∀ k : Nat, k % 8 = 6 → 0 ≤ Int32.toInt ((upd sG v1.toNatClampNeg jC) k) ∧ Int32.toInt ((upd sG v1.toNatClampNeg jC) k) ≤ 9 := t_updc (C := fun k => k % 8 = 6) e1_pa_cells (fun hk => by have e9 : v1.toNatClampNeg = (Int32.toInt v1).toNat := rfl; have hk : v1.toNatClampNeg % 8 = 6 := hk; omega)
      intro v9 ev9
      have f10 : Int32.toInt (v1 + 1) = Int32.toInt v1 + Int32.toInt (1 : Int32) := ta_add _ _ (by omega)
      rw [← ev9] at f10
      refine And.intro (t_in (by omega)) ?_
      have f12 := tp_r eO
      have e11 : ∀ k : Nat, k % 8 = 4 → -1 ≤ Int32.toInt ((upd (upd sG v1.toNatClampNeg jC) v9.toNatClampNeg eO) k) ∧ Int32.toInt ((upd (upd sG v1.toNatClampNeg jC) v9.toNatClampNeg eO) k) ≤ 7 := t_updc (C := fun k => k % 8 = 4) e6 (fun hk => by have e9 : v9.toNatClampNeg = (Int32.toInt v9).toNat := rfl; have hk : v9.toNatClampNeg % 8 = 4 := hk; omega)
      have e13 : ∀ k : Nat, k % 8 = 6 → 0 ≤ Int32.toInt ((upd (upd sG v1.toNatClampNeg jC) v9.toNatClampNeg eO) k) ∧ Int32.toInt ((upd (upd sG v1.toNatClampNeg jC) v9.toNatClampNeg eO) k) ≤ 9 := t_updc (C := fun k => k % 8 = 6) e8 (fun hk => by have e9 : v9.toNatClampNeg = (Int32.toInt v9).toNat := rfl; have hk : v9.toNatClampNeg % 8 = 6 := hk; omega)
      intro v14 ev14
      have f15 : Int32.toInt (v1 + 2) = Int32.toInt v1 + Int32.toInt (2 : Int32) := ta_add _ _ (by omega)
      rw [← ev14] at f15
      refine And.intro (t_in (by omega)) ?_
      have f17 := tp_r eW
      have e16 : ∀ k : Nat, k % 8 = 4 → -1 ≤ Int32.toInt ((upd (upd (upd sG v1.toNatClampNeg jC) v9.toNatClampNeg eO) v14.toNatClampNeg eW) k) ∧ Int32.toInt ((upd (upd (upd sG v1.toNatClampNeg jC) v9.toNatClampNeg eO) v14.toNatClampNeg eW) k) ≤ 7 := t_updc (C := fun k => k % 8 = 4) e11 (fun hk => by have e9 : v14.toNatClampNeg = (Int32.toInt v14).toNat := rfl; have hk : v14.toNatClampNeg % 8 = 4 := hk; omega)
      have e18 : ∀ k : Nat, k % 8 = 6 → 0 ≤ Int32.toInt ((upd (upd (upd sG v1.toNatClampNeg jC) v9.toNatClampNeg eO) v14.toNatClampNeg eW) k) ∧ Int32.toInt ((upd (upd (upd sG v1.toNatClampNeg jC) v9.toNatClampNeg eO) v14.toNatClampNeg eW) k) ≤ 9 := t_updc (C := fun k => k % 8 = 6) e13 (fun hk => by have e9 : v14.toNatClampNeg = (Int32.toInt v14).toNat := rfl; have hk : v14.toNatClampNeg % 8 = 6 := hk; omega)
      intro v19 ev19
      have f20 : Int32.toInt (v1 + 3) = Int32.toInt v1 + Int32.toInt (3 : Int32) := ta_add _ _ (by omega)
      rw [← ev19] at f20
      refine And.intro (t_in (by omega)) ?_
      have f22 := tp_r dO
      have e21 : ∀ k : Nat, k % 8 = 4 → -1 ≤ Int32.toInt ((upd (upd (upd (upd sG v1.toNatClampNeg jC) v9.toNatClampNeg eO) v14.toNatClampNeg eW) v19.toNatClampNeg dO) k) ∧ Int32.toInt ((upd (upd (upd (upd sG v1.toNatClampNeg jC) v9.toNatClampNeg eO) v14.toNatClampNeg eW) v19.toNatClampNeg dO) k) ≤ 7 := t_updc (C := fun k => k % 8 = 4) e16 (fun hk => by have e9 : v19.toNatClampNeg = (Int32.toInt v19).toNat := rfl; have hk : v19.toNatClampNeg % 8 = 4 := hk; omega)
      have e23 : ∀ k : Nat, k % 8 = 6 → 0 ≤ Int32.toInt ((upd (upd (upd (upd sG v1.toNatClampNeg jC) v9.toNatClampNeg eO) v14.toNatClampNeg eW) v19.toNatClampNeg dO) k) ∧ Int32.toInt ((upd (upd (upd (upd sG v1.toNatClampNeg jC) v9.toNatClampNeg eO) v14.toNatClampNeg eW) v19.toNatClampNeg dO) k) ≤ 9 := t_updc (C := fun k => k % 8 = 6) e18 (fun hk => by have e9 : v19.toNatClampNeg = (Int32.toInt v19).toNat := rfl; have hk : v19.toNatClampNeg % 8 = 6 := hk; omega)
      intro v24 ev24
      have f25 : Int32.toInt (v1 + 4) = Int32.toInt v1 + Int32.toInt (4 : Int32) := ta_add _ _ (by omega)
      rw [← ev24] at f25
      refine And.intro (t_in (by omega)) ?_
      have e26 : ∀ k : Nat, k % 8 = 4 → -1 ≤ Int32.toInt ((upd (upd (upd (upd (upd sG v1.toNatClampNeg jC) v9.toNatClampNeg eO) v14.toNatClampNeg eW) v19.toNatClampNeg dO) v24.toNatClampNeg fJ) k) ∧ Int32.toInt ((upd (upd (upd (upd (upd sG v1.toNatClampNeg jC) v9.toNatClampNeg eO) v14.toNatClampNeg eW) v19.toNatClampNeg dO) v24.toNatClampNeg fJ) k) ≤ 7 := t_updc (C := fun k => k % 8 = 4) e21 (fun hk => by have e9 : v24.toNatClampNeg = (Int32.toInt v24).toNat := rfl; have hk : v24.toNatClampNeg % 8 = 4 := hk; omega)
      have e27 : ∀ k : Nat, k % 8 = 6 → 0 ≤ Int32.toInt ((upd (upd (upd (upd (upd sG v1.toNatClampNeg jC) v9.toNatClampNeg eO) v14.toNatClampNeg eW) v19.toNatClampNeg dO) v24.toNatClampNeg fJ) k) ∧ Int32.toInt ((upd (upd (upd (upd (upd sG v1.toNatClampNeg jC) v9.toNatClampNeg eO) v14.toNatClampNeg eW) v19.toNatClampNeg dO) v24.toNatClampNeg fJ) k) ≤ 9 := t_updc (C := fun k => k % 8 = 6) e23 (fun hk => by have e9 : v24.toNatClampNeg = (Int32.toInt v24).toNat := rfl; have hk : v24.toNatClampNeg % 8 = 6 := hk; omega)
      intro v28 ev28
      have f29 : Int32.toInt (v1 + 5) = Int32.toInt v1 + Int32.toInt (5 : Int32) := ta_add _ _ (by omega)
      rw [← ev28] at f29
      refine And.intro (t_in (by omega)) ?_
      have f31 := tp_r fY
      have e30 : ∀ k : Nat, k % 8 = 4 → -1 ≤ Int32.toInt ((upd (upd (upd (upd (upd (upd sG v1.toNatClampNeg jC) v9.toNatClampNeg eO) v14.toNatClampNeg eW) v19.toNatClampNeg dO) v24.toNatClampNeg fJ) v28.toNatClampNeg fY) k) ∧ Int32.toInt ((upd (upd (upd (upd (upd (upd sG v1.toNatClampNeg jC) v9.toNatClampNeg eO) v14.toNatClampNeg eW) v19.toNatClampNeg dO) v24.toNatClampNeg fJ) v28.toNatClampNeg fY) k) ≤ 7 := t_updc (C := fun k => k % 8 = 4) e26 (fun hk => by have e9 : v28.toNatClampNeg = (Int32.toInt v28).toNat := rfl; have hk : v28.toNatClampNeg % 8 = 4 := hk; omega)
      have e32 : ∀ k : Nat, k % 8 = 6 → 0 ≤ Int32.toInt ((upd (upd (upd (upd (upd (upd sG v1.toNatClampNeg jC) v9.toNatClampNeg eO) v14.toNatClampNeg eW) v19.toNatClampNeg dO) v24.toNatClampNeg fJ) v28.toNatClampNeg fY) k) ∧ Int32.toInt ((upd (upd (upd (upd (upd (upd sG v1.toNatClampNeg jC) v9.toNatClampNeg eO) v14.toNatClampNeg eW) v19.toNatClampNeg dO) v24.toNatClampNeg fJ) v28.toNatClampNeg fY) k) ≤ 9 := t_updc (C := fun k => k % 8 = 6) e27 (fun hk => by have e9 : v28.toNatClampNeg = (Int32.toInt v28).toNat := rfl; have hk : v28.toNatClampNeg % 8 = 6 := hk; omega)
      intro v33 ev33
      have f34 : Int32.toInt (v1 + 6) = Int32.toInt v1 + Int32.toInt (6 : Int32) := ta_add _ _ (by omega)
      rw [← ev33] at f34
      refine And.intro (t_in (by omega)) ?_
      have e35 : ∀ k : Nat, k % 8 = 4 → -1 ≤ Int32.toInt ((upd (upd (upd (upd (upd (upd (upd sG v1.toNatClampNeg jC) v9.toNatClampNeg eO) v14.toNatClampNeg eW) v19.toNatClampNeg dO) v24.toNatClampNeg fJ) v28.toNatClampNeg fY) v33.toNatClampNeg jD) k) ∧ Int32.toInt ((upd (upd (upd (upd (upd (upd (upd sG v1.toNatClampNeg jC) v9.toNatClampNeg eO) v14.toNatClampNeg eW) v19.toNatClampNeg dO) v24.toNatClampNeg fJ) v28.toNatClampNeg fY) v33.toNatClampNeg jD) k) ≤ 7 := t_updc (C := fun k => k % 8 = 4) e30 (fun hk => by have e9 : v33.toNatClampNeg = (Int32.toInt v33).toNat := rfl; have hk : v33.toNatClampNeg % 8 = 4 := hk; omega)
      have e36 : ∀ k : Nat, k % 8 = 6 → 0 ≤ Int32.toInt ((upd (upd (upd (upd (upd (upd (upd sG v1.toNatClampNeg jC) v9.toNatClampNeg eO) v14.toNatClampNeg eW) v19.toNatClampNeg dO) v24.toNatClampNeg fJ) v28.toNatClampNeg fY) v33.toNatClampNeg jD) k) ∧ Int32.toInt ((upd (upd (upd (upd (upd (upd (upd sG v1.toNatClampNeg jC) v9.toNatClampNeg eO) v14.toNatClampNeg eW) v19.toNatClampNeg dO) v24.toNatClampNeg fJ) v28.toNatClampNeg fY) v33.toNatClampNeg jD) k) ≤ 9 := t_updc (C := fun k => k % 8 = 6) e32 (fun hk => by have e9 : v33.toNatClampNeg = (Int32.toInt v33).toNat := rfl; have hk : v33.toNatClampNeg % 8 = 6 := hk; omega)
      intro v37 ev37
      have f38 : Int32.toInt (v1 + 7) = Int32.toInt v1 + Int32.toInt (7 : Int32) := ta_add _ _ (by omega)
      rw [← ev37] at f38
      refine And.intro (t_in (by omega)) ?_
      have f40 := tp_r nG
      have e39 : ∀ k : Nat, k % 8 = 4 → -1 ≤ Int32.toInt ((upd (upd (upd (upd (upd (upd (upd (upd sG v1.toNatClampNeg jC) v9.toNatClampNeg eO) v14.toNatClampNeg eW) v19.toNatClampNeg dO) v24.toNatClampNeg fJ) v28.toNatClampNeg fY) v33.toNatClampNeg jD) v37.toNatClampNeg nG) k) ∧ Int32.toInt ((upd (upd (upd (upd (upd (upd (upd (upd sG v1.toNatClampNeg jC) v9.toNatClampNeg eO) v14.toNatClampNeg eW) v19.toNatClampNeg dO) v24.toNatClampNeg fJ) v28.toNatClampNeg fY) v33.toNatClampNeg jD) v37.toNatClampNeg nG) k) ≤ 7 := t_updc (C := fun k => k % 8 = 4) e35 (fun hk => by have e9 : v37.toNatClampNeg = (Int32.toInt v37).toNat := rfl; have hk : v37.toNatClampNeg % 8 = 4 := hk; omega)
      have e41 : ∀ k : Nat, k % 8 = 6 → 0 ≤ Int32.toInt ((upd (upd (upd (upd (upd (upd (upd (upd sG v1.toNatClampNeg jC) v9.toNatClampNeg eO) v14.toNatClampNeg eW) v19.toNatClampNeg dO) v24.toNatClampNeg fJ) v28.toNatClampNeg fY) v33.toNatClampNeg jD) v37.toNatClampNeg nG) k) ∧ Int32.toInt ((upd (upd (upd (upd (upd (upd (upd (upd sG v1.toNatClampNeg jC) v9.toNatClampNeg eO) v14.toNatClampNeg eW) v19.toNatClampNeg dO) v24.toNatClampNeg fJ) v28.toNatClampNeg fY) v33.toNatClampNeg jD) v37.toNatClampNeg nG) k) ≤ 9 := t_updc (C := fun k => k % 8 = 6) e36 (fun hk => by have e9 : v37.toNatClampNeg = (Int32.toInt v37).toNat := rfl; have hk : v37.toNatClampNeg % 8 = 6 := hk; omega)
      refine t_X0_pickFruit h_tr_fruits h_no_ladder h_no_today h_ru_length (fun r47 no_apron_42 no_bruised_43 no_clock_44 ru_given_45 ru_stack_46 h_r47 => ?_)
      refine And.intro (fun c48 => ?_) (fun c48 => ?_)
      · skip
        have c48 := (fa_lt _ _).mp c48
        exact hpost _ _ _ _ _ _ _ _ _ h_r47 h_pa_undoable h_pa_free e39 e41
      · skip
        have c48 := mt (fa_lt _ _).mpr c48
        intro v49 ev49
        have f50 : Int32.toInt (uF + 1) = Int32.toInt uF + Int32.toInt (1 : Int32) := ta_add _ _ (by omega)
        rw [← ev49] at f50
        intro v51 ev51
        have f52 : Int32.toInt (v49 - v49 / 13 * 13) = Int32.toInt v49 % 13 := ti_rem _ _ (by decide) (by omega) (by decide)
        rw [← ev51] at f52
        intro v53 ev53
        have f54 : Int32.toInt (oE + 1) = Int32.toInt oE + Int32.toInt (1 : Int32) := ta_add _ _ (by omega)
        rw [← ev53] at f54
        intro v55 ev55
        have f56 := ti_min (12 : Int32) v53
        have hv55 := congrArg Int32.toInt ev55
        exact hpost _ _ _ _ _ _ _ _ _ h_r47 (by omega) (by omega) e39 e41
    · skip
      have c4 := mt (fa_le _ _).mpr c4
      exfalso; omega
set_option maxHeartbeats 8000000 in
set_option maxRecDepth 200000 in
theorem t_X9_down {post : Int32 → Int32 → Int32 → Int32 → Int32 → Int32 → (Nat → Int32) → Prop} {nY : Nat → Int32} {jC eO eW dO fJ fY jD nG oE uF : Int32} {sG : Nat → Int32} (h_no_ladder : -1 ≤ Int32.toInt fJ ∧ Int32.toInt fJ ≤ 7) (h_no_today : 0 ≤ Int32.toInt jD ∧ Int32.toInt jD ≤ 9) (h_pa_undoable : 0 ≤ Int32.toInt oE ∧ Int32.toInt oE ≤ 12) (h_pa_free : 0 ≤ Int32.toInt uF ∧ Int32.toInt uF ≤ 12) (e0_pa_cells : ∀ k : Nat, k % 8 = 4 → -1 ≤ Int32.toInt (sG k) ∧ Int32.toInt (sG k) ≤ 7) (e1_pa_cells : ∀ k : Nat, k % 8 = 6 → 0 ≤ Int32.toInt (sG k) ∧ Int32.toInt (sG k) ≤ 9) (hpost : ∀ (r : Int32) (no_apron' : Int32) (no_basket' : Int32) (no_clock' : Int32) (pa_undoable' : Int32) (pa_free' : Int32) (pa_cells' : Nat → Int32), (-2 ≤ Int32.toInt r ∧ Int32.toInt r ≤ 63) → (0 ≤ Int32.toInt pa_undoable' ∧ Int32.toInt pa_undoable' ≤ 12) → (0 ≤ Int32.toInt pa_free' ∧ Int32.toInt pa_free' ≤ 12) → (∀ k : Nat, k % 8 = 4 → -1 ≤ Int32.toInt (pa_cells' k) ∧ Int32.toInt (pa_cells' k) ≤ 7) → (∀ k : Nat, k % 8 = 6 → 0 ≤ Int32.toInt (pa_cells' k) ∧ Int32.toInt (pa_cells' k) ≤ 9) → post r no_apron' no_basket' no_clock' pa_undoable' pa_free' pa_cells') : wp_X9_down post nY jC eO eW dO fJ fY jD nG oE uF sG := by
  have l0 := li_m1
  have l1 := li_m2
  have l2 := li_0
  have l3 := li_1
  have l4 := li_104
  have l5 := li_12
  have l6 := li_13
  have l7 := li_2
  have l8 := li_252645135
  have l9 := li_3
  have l10 := li_4
  have l11 := li_5
  have l12 := li_6
  have l13 := li_63
  have l14 := li_7
  have l15 := li_8
  have l16 := li_858993459
  have l17 := li_9999
  intro v1 ev1
  have f2 : Int32.toInt (uF * 8) = Int32.toInt uF * 8 := ta_mulc _ _ (by decide) (by omega)
  rw [← ev1] at f2
  refine And.intro (fun c3 => ?_) (fun c3 => ?_)
  · skip
    have c3 := (fa_lt _ _).mp c3
    exfalso; omega
  · skip
    have c3 := mt (fa_lt _ _).mpr c3
    have f5 : Int32.toInt (104 - 8) = Int32.toInt (104 : Int32) - Int32.toInt (8 : Int32) := ta_sub _ _ (by omega)
    refine And.intro (fun c4 => ?_) (fun c4 => ?_)
    · skip
      have c4 := (fa_le _ _).mp c4
      refine And.intro (t_in (by omega)) ?_
      have f7 := tp_r jC
      have e6 : ∀ k : Nat, k % 8 = 4 → -1 ≤ Int32.toInt ((upd sG v1.toNatClampNeg jC) k) ∧ Int32.toInt ((upd sG v1.toNatClampNeg jC) k) ≤ 7 := t_updc (C := fun k => k % 8 = 4) e0_pa_cells (fun hk => by have e9 : v1.toNatClampNeg = (Int32.toInt v1).toNat := rfl; have hk : v1.toNatClampNeg % 8 = 4 := hk; omega)
      have e8 : ∀ k : Nat, k % 8 = 6 → 0 ≤ Int32.toInt ((upd sG v1.toNatClampNeg jC) k) ∧ Int32.toInt ((upd sG v1.toNatClampNeg jC) k) ≤ 9 := t_updc (C := fun k => k % 8 = 6) e1_pa_cells (fun hk => by have e9 : v1.toNatClampNeg = (Int32.toInt v1).toNat := rfl; have hk : v1.toNatClampNeg % 8 = 6 := hk; omega)
      intro v9 ev9
      have f10 : Int32.toInt (v1 + 1) = Int32.toInt v1 + Int32.toInt (1 : Int32) := ta_add _ _ (by omega)
      rw [← ev9] at f10
      refine And.intro (t_in (by omega)) ?_
      have f12 := tp_r eO
      have e11 : ∀ k : Nat, k % 8 = 4 → -1 ≤ Int32.toInt ((upd (upd sG v1.toNatClampNeg jC) v9.toNatClampNeg eO) k) ∧ Int32.toInt ((upd (upd sG v1.toNatClampNeg jC) v9.toNatClampNeg eO) k) ≤ 7 := t_updc (C := fun k => k % 8 = 4) e6 (fun hk => by have e9 : v9.toNatClampNeg = (Int32.toInt v9).toNat := rfl; have hk : v9.toNatClampNeg % 8 = 4 := hk; omega)
      have e13 : ∀ k : Nat, k % 8 = 6 → 0 ≤ Int32.toInt ((upd (upd sG v1.toNatClampNeg jC) v9.toNatClampNeg eO) k) ∧ Int32.toInt ((upd (upd sG v1.toNatClampNeg jC) v9.toNatClampNeg eO) k) ≤ 9 := t_updc (C := fun k => k % 8 = 6) e8 (fun hk => by have e9 : v9.toNatClampNeg = (Int32.toInt v9).toNat := rfl; have hk : v9.toNatClampNeg % 8 = 6 := hk; omega)
      intro v14 ev14
      have f15 : Int32.toInt (v1 + 2) = Int32.toInt v1 + Int32.toInt (2 : Int32) := ta_add _ _ (by omega)
      rw [← ev14] at f15
      refine And.intro (t_in (by omega)) ?_
      have f17 := tp_r eW
      have e16 : ∀ k : Nat, k % 8 = 4 → -1 ≤ Int32.toInt ((upd (upd (upd sG v1.toNatClampNeg jC) v9.toNatClampNeg eO) v14.toNatClampNeg eW) k) ∧ Int32.toInt ((upd (upd (upd sG v1.toNatClampNeg jC) v9.toNatClampNeg eO) v14.toNatClampNeg eW) k) ≤ 7 := t_updc (C := fun k => k % 8 = 4) e11 (fun hk => by have e9 : v14.toNatClampNeg = (Int32.toInt v14).toNat := rfl; have hk : v14.toNatClampNeg % 8 = 4 := hk; omega)
      have e18 : ∀ k : Nat, k % 8 = 6 → 0 ≤ Int32.toInt ((upd (upd (upd sG v1.toNatClampNeg jC) v9.toNatClampNeg eO) v14.toNatClampNeg eW) k) ∧ Int32.toInt ((upd (upd (upd sG v1.toNatClampNeg jC) v9.toNatClampNeg eO) v14.toNatClampNeg eW) k) ≤ 9 := t_updc (C := fun k => k % 8 = 6) e13 (fun hk => by have e9 : v14.toNatClampNeg = (Int32.toInt v14).toNat := rfl; have hk : v14.toNatClampNeg % 8 = 6 := hk; omega)
      intro v19 ev19
      have f20 : Int32.toInt (v1 + 3) = Int32.toInt v1 + Int32.toInt (3 : Int32) := ta_add _ _ (by omega)
      rw [← ev19] at f20
      refine And.intro (t_in (by omega)) ?_
      have f22 := tp_r dO
      have e21 : ∀ k : Nat, k % 8 = 4 → -1 ≤ Int32.toInt ((upd (upd (upd (upd sG v1.toNatClampNeg jC) v9.toNatClampNeg eO) v14.toNatClampNeg eW) v19.toNatClampNeg dO) k) ∧ Int32.toInt ((upd (upd (upd (upd sG v1.toNatClampNeg jC) v9.toNatClampNeg eO) v14.toNatClampNeg eW) v19.toNatClampNeg dO) k) ≤ 7 := t_updc (C := fun k => k % 8 = 4) e16 (fun hk => by have e9 : v19.toNatClampNeg = (Int32.toInt v19).toNat := rfl; have hk : v19.toNatClampNeg % 8 = 4 := hk; omega)
      have e23 : ∀ k : Nat, k % 8 = 6 → 0 ≤ Int32.toInt ((upd (upd (upd (upd sG v1.toNatClampNeg jC) v9.toNatClampNeg eO) v14.toNatClampNeg eW) v19.toNatClampNeg dO) k) ∧ Int32.toInt ((upd (upd (upd (upd sG v1.toNatClampNeg jC) v9.toNatClampNeg eO) v14.toNatClampNeg eW) v19.toNatClampNeg dO) k) ≤ 9 := t_updc (C := fun k => k % 8 = 6) e18 (fun hk => by have e9 : v19.toNatClampNeg = (Int32.toInt v19).toNat := rfl; have hk : v19.toNatClampNeg % 8 = 6 := hk; omega)
      intro v24 ev24
      have f25 : Int32.toInt (v1 + 4) = Int32.toInt v1 + Int32.toInt (4 : Int32) := ta_add _ _ (by omega)
      rw [← ev24] at f25
      refine And.intro (t_in (by omega)) ?_
      have e26 : ∀ k : Nat, k % 8 = 4 → -1 ≤ Int32.toInt ((upd (upd (upd (upd (upd sG v1.toNatClampNeg jC) v9.toNatClampNeg eO) v14.toNatClampNeg eW) v19.toNatClampNeg dO) v24.toNatClampNeg fJ) k) ∧ Int32.toInt ((upd (upd (upd (upd (upd sG v1.toNatClampNeg jC) v9.toNatClampNeg eO) v14.toNatClampNeg eW) v19.toNatClampNeg dO) v24.toNatClampNeg fJ) k) ≤ 7 := t_updc (C := fun k => k % 8 = 4) e21 (fun hk => by have e9 : v24.toNatClampNeg = (Int32.toInt v24).toNat := rfl; have hk : v24.toNatClampNeg % 8 = 4 := hk; omega)
      have e27 : ∀ k : Nat, k % 8 = 6 → 0 ≤ Int32.toInt ((upd (upd (upd (upd (upd sG v1.toNatClampNeg jC) v9.toNatClampNeg eO) v14.toNatClampNeg eW) v19.toNatClampNeg dO) v24.toNatClampNeg fJ) k) ∧ Int32.toInt ((upd (upd (upd (upd (upd sG v1.toNatClampNeg jC) v9.toNatClampNeg eO) v14.toNatClampNeg eW) v19.toNatClampNeg dO) v24.toNatClampNeg fJ) k) ≤ 9 := t_updc (C := fun k => k % 8 = 6) e23 (fun hk => by have e9 : v24.toNatClampNeg = (Int32.toInt v24).toNat := rfl; have hk : v24.toNatClampNeg % 8 = 6 := hk; omega)
      intro v28 ev28
      have f29 : Int32.toInt (v1 + 5) = Int32.toInt v1 + Int32.toInt (5 : Int32) := ta_add _ _ (by omega)
      rw [← ev28] at f29
      refine And.intro (t_in (by omega)) ?_
      have f31 := tp_r fY
      have e30 : ∀ k : Nat, k % 8 = 4 → -1 ≤ Int32.toInt ((upd (upd (upd (upd (upd (upd sG v1.toNatClampNeg jC) v9.toNatClampNeg eO) v14.toNatClampNeg eW) v19.toNatClampNeg dO) v24.toNatClampNeg fJ) v28.toNatClampNeg fY) k) ∧ Int32.toInt ((upd (upd (upd (upd (upd (upd sG v1.toNatClampNeg jC) v9.toNatClampNeg eO) v14.toNatClampNeg eW) v19.toNatClampNeg dO) v24.toNatClampNeg fJ) v28.toNatClampNeg fY) k) ≤ 7 := t_updc (C := fun k => k % 8 = 4) e26 (fun hk => by have e9 : v28.toNatClampNeg = (Int32.toInt v28).toNat := rfl; have hk : v28.toNatClampNeg % 8 = 4 := hk; omega)
      have e32 : ∀ k : Nat, k % 8 = 6 → 0 ≤ Int32.toInt ((upd (upd (upd (upd (upd (upd sG v1.toNatClampNeg jC) v9.toNatClampNeg eO) v14.toNatClampNeg eW) v19.toNatClampNeg dO) v24.toNatClampNeg fJ) v28.toNatClampNeg fY) k) ∧ Int32.toInt ((upd (upd (upd (upd (upd (upd sG v1.toNatClampNeg jC) v9.toNatClampNeg eO) v14.toNatClampNeg eW) v19.toNatClampNeg dO) v24.toNatClampNeg fJ) v28.toNatClampNeg fY) k) ≤ 9 := t_updc (C := fun k => k % 8 = 6) e27 (fun hk => by have e9 : v28.toNatClampNeg = (Int32.toInt v28).toNat := rfl; have hk : v28.toNatClampNeg % 8 = 6 := hk; omega)
      intro v33 ev33
      have f34 : Int32.toInt (v1 + 6) = Int32.toInt v1 + Int32.toInt (6 : Int32) := ta_add _ _ (by omega)
      rw [← ev33] at f34
      refine And.intro (t_in (by omega)) ?_
      have e35 : ∀ k : Nat, k % 8 = 4 → -1 ≤ Int32.toInt ((upd (upd (upd (upd (upd (upd (upd sG v1.toNatClampNeg jC) v9.toNatClampNeg eO) v14.toNatClampNeg eW) v19.toNatClampNeg dO) v24.toNatClampNeg fJ) v28.toNatClampNeg fY) v33.toNatClampNeg jD) k) ∧ Int32.toInt ((upd (upd (upd (upd (upd (upd (upd sG v1.toNatClampNeg jC) v9.toNatClampNeg eO) v14.toNatClampNeg eW) v19.toNatClampNeg dO) v24.toNatClampNeg fJ) v28.toNatClampNeg fY) v33.toNatClampNeg jD) k) ≤ 7 := t_updc (C := fun k => k % 8 = 4) e30 (fun hk => by have e9 : v33.toNatClampNeg = (Int32.toInt v33).toNat := rfl; have hk : v33.toNatClampNeg % 8 = 4 := hk; omega)
      have e36 : ∀ k : Nat, k % 8 = 6 → 0 ≤ Int32.toInt ((upd (upd (upd (upd (upd (upd (upd sG v1.toNatClampNeg jC) v9.toNatClampNeg eO) v14.toNatClampNeg eW) v19.toNatClampNeg dO) v24.toNatClampNeg fJ) v28.toNatClampNeg fY) v33.toNatClampNeg jD) k) ∧ Int32.toInt ((upd (upd (upd (upd (upd (upd (upd sG v1.toNatClampNeg jC) v9.toNatClampNeg eO) v14.toNatClampNeg eW) v19.toNatClampNeg dO) v24.toNatClampNeg fJ) v28.toNatClampNeg fY) v33.toNatClampNeg jD) k) ≤ 9 := t_updc (C := fun k => k % 8 = 6) e32 (fun hk => by have e9 : v33.toNatClampNeg = (Int32.toInt v33).toNat := rfl; have hk : v33.toNatClampNeg % 8 = 6 := hk; omega)
      intro v37 ev37
      have f38 : Int32.toInt (v1 + 7) = Int32.toInt v1 + Int32.toInt (7 : Int32) := ta_add _ _ (by omega)
      rw [← ev37] at f38
      refine And.intro (t_in (by omega)) ?_
      have f40 := tp_r nG
      have e39 : ∀ k : Nat, k % 8 = 4 → -1 ≤ Int32.toInt ((upd (upd (upd (upd (upd (upd (upd (upd sG v1.toNatClampNeg jC) v9.toNatClampNeg eO) v14.toNatClampNeg eW) v19.toNatClampNeg dO) v24.toNatClampNeg fJ) v28.toNatClampNeg fY) v33.toNatClampNeg jD) v37.toNatClampNeg nG) k) ∧ Int32.toInt ((upd (upd (upd (upd (upd (upd (upd (upd sG v1.toNatClampNeg jC) v9.toNatClampNeg eO) v14.toNatClampNeg eW) v19.toNatClampNeg dO) v24.toNatClampNeg fJ) v28.toNatClampNeg fY) v33.toNatClampNeg jD) v37.toNatClampNeg nG) k) ≤ 7 := t_updc (C := fun k => k % 8 = 4) e35 (fun hk => by have e9 : v37.toNatClampNeg = (Int32.toInt v37).toNat := rfl; have hk : v37.toNatClampNeg % 8 = 4 := hk; omega)
      have e41 : ∀ k : Nat, k % 8 = 6 → 0 ≤ Int32.toInt ((upd (upd (upd (upd (upd (upd (upd (upd sG v1.toNatClampNeg jC) v9.toNatClampNeg eO) v14.toNatClampNeg eW) v19.toNatClampNeg dO) v24.toNatClampNeg fJ) v28.toNatClampNeg fY) v33.toNatClampNeg jD) v37.toNatClampNeg nG) k) ∧ Int32.toInt ((upd (upd (upd (upd (upd (upd (upd (upd sG v1.toNatClampNeg jC) v9.toNatClampNeg eO) v14.toNatClampNeg eW) v19.toNatClampNeg dO) v24.toNatClampNeg fJ) v28.toNatClampNeg fY) v33.toNatClampNeg jD) v37.toNatClampNeg nG) k) ≤ 9 := t_updc (C := fun k => k % 8 = 6) e36 (fun hk => by have e9 : v37.toNatClampNeg = (Int32.toInt v37).toNat := rfl; have hk : v37.toNatClampNeg % 8 = 6 := hk; omega)
      refine And.intro (fun c42 => ?_) (fun c42 => ?_)
      · skip
        have c42 := (fa_eq _ _).mp c42
        refine And.intro (fun _ => ?_) (fun h9 => absurd h9 (by decide))
        exact hpost _ _ _ _ _ _ _ (by omega) h_pa_undoable h_pa_free e39 e41
      · skip
        have c42 := mt (fa_eq _ _).mpr c42
        refine And.intro (fun c43 => ?_) (fun c43 => ?_)
        · skip
          have c43 := mt (fa_eq _ _).mpr c43
          intro v44 ev44
          intro v45 ev45
          have hv45 := congrArg Int32.toInt ev45
          intro v47 ev47
          have f48 := ti_andr v45 858993459 (by omega)
          have hv47 := congrArg Int32.toInt ev47
          intro v49 ev49
          intro v50 ev50
          have f52 := ti_andr v49 858993459 (by omega)
          have f51 : Int32.toInt (v47 + (v49 &&& 858993459)) = Int32.toInt v47 + Int32.toInt (v49 &&& 858993459) := ta_add _ _ (by omega)
          rw [← ev50] at f51
          intro v53 ev53
          have hv53 := congrArg Int32.toInt ev53
          intro v55 ev55
          have f56 := ti_andr v53 252645135 (by omega)
          have hv55 := congrArg Int32.toInt ev55
          intro v57 ev57
          have hv57 := congrArg Int32.toInt ev57
          intro v59 ev59
          have hv59 := congrArg Int32.toInt ev59
          intro v61 ev61
          refine And.intro (t_in (by omega)) ?_
          intro v62 ev62
          have hv62 := congrArg Int32.toInt ev62
          intro v64 ev64
          have hv64 := congrArg Int32.toInt ev64
          intro v66 ev66
          have hv66 := congrArg Int32.toInt ev66
          intro v68 ev68
          have f69 := tp_r (if v66 < 9999 then v66 else 9999)
          have f71 := tp_r v66
          have f70 := ti_min (9999 : Int32) v66
          have hv68 := congrArg Int32.toInt ev68
          have f73 := ti_andr v59 63 (by omega)
          refine And.intro (fun c72 => ?_) (fun c72 => ?_)
          · skip
            have c72 := (fa_lt _ _).mp c72
            exfalso; omega
          · skip
            have c72 := mt (fa_lt _ _).mpr c72
            intro v74 ev74
            have f75 : Int32.toInt (uF + 1) = Int32.toInt uF + Int32.toInt (1 : Int32) := ta_add _ _ (by omega)
            rw [← ev74] at f75
            intro v76 ev76
            have f77 : Int32.toInt (v74 - v74 / 13 * 13) = Int32.toInt v74 % 13 := ti_rem _ _ (by decide) (by omega) (by decide)
            rw [← ev76] at f77
            intro v78 ev78
            have f79 : Int32.toInt (oE + 1) = Int32.toInt oE + Int32.toInt (1 : Int32) := ta_add _ _ (by omega)
            rw [← ev78] at f79
            intro v80 ev80
            have f81 := ti_min (12 : Int32) v78
            have hv80 := congrArg Int32.toInt ev80
            exact hpost _ _ _ _ _ _ _ (by omega) (by omega) (by omega) e39 e41
        · skip
          have c43 := (fa_eq _ _).mp c43
          refine And.intro (fun _ => ?_) (fun h9 => absurd h9 (by decide))
          exact hpost _ _ _ _ _ _ _ (by omega) h_pa_undoable h_pa_free e39 e41
    · skip
      have c4 := mt (fa_le _ _).mpr c4
      exfalso; omega
set_option maxHeartbeats 8000000 in
set_option maxRecDepth 200000 in
theorem ts_X3_within_32 {post : Int32 → Prop} {K5 : Int32 → Int32 → Int32 → Int32 → Prop} {n5 : Int} (bZ : Int32) (wD gF nJ nY : Nat → Int32) (h_tr_fruits : 0 ≤ Int32.toInt bZ ∧ Int32.toInt bZ ≤ 16) (hpost : ∀ (r : Int32) , (0 ≤ Int32.toInt r ∧ Int32.toInt r ≤ 65535) → post r) (hK5 : ∀ (x1 : Int32) (x2 : Int32) (x3 : Int32) (x4 : Int32), (0 ≤ Int32.toInt x1 ∧ Int32.toInt x1 ≤ 7) → (0 ≤ Int32.toInt x3 ∧ Int32.toInt x3 ≤ 65535) → (0 ≤ Int32.toInt x4 ∧ Int32.toInt x4 ≤ 16) → (16 - Int32.toInt x4 < n5) → K5 x1 x2 x3 x4) (x1 x2 x3 x4 : Int32) (h_x1 : 0 ≤ Int32.toInt x1 ∧ Int32.toInt x1 ≤ 7) (h_x3 : 0 ≤ Int32.toInt x3 ∧ Int32.toInt x3 ≤ 65535) (h_x4 : 0 ≤ Int32.toInt x4 ∧ Int32.toInt x4 ≤ 15) (hn5 : 16 - Int32.toInt x4 ≤ n5) : ws_X3_within_32 post K5 bZ wD gF nJ nY x1 x2 x3 x4 := by
  have l0 := li_1
  intro v1 ev1
  have f2 : Int32.toInt (x4 + 1) = Int32.toInt x4 + Int32.toInt (1 : Int32) := ta_add _ _ (by omega)
  rw [← ev1] at f2
  have f3 := tp_r x2
  exact hK5 x1 x2 x3 v1 h_x1 h_x3 (by omega) (by omega)
set_option maxHeartbeats 8000000 in
set_option maxRecDepth 200000 in
theorem ts_X3_within_5 {post : Int32 → Prop} {next : Int32 → Int32 → Int32 → Int32 → Prop} {n5 : Int} (bZ : Int32) (wD gF nJ nY : Nat → Int32) (h_tr_fruits : 0 ≤ Int32.toInt bZ ∧ Int32.toInt bZ ≤ 16) (hpost : ∀ (r : Int32) , (0 ≤ Int32.toInt r ∧ Int32.toInt r ≤ 65535) → post r) (hKn : ∀ (x1 : Int32) (x2 : Int32) (x3 : Int32) (x4 : Int32), (0 ≤ Int32.toInt x1 ∧ Int32.toInt x1 ≤ 7) → (0 ≤ Int32.toInt x3 ∧ Int32.toInt x3 ≤ 65535) → (0 ≤ Int32.toInt x4 ∧ Int32.toInt x4 ≤ 16) → (16 - Int32.toInt x4 < n5) → next x1 x2 x3 x4) (x1 x2 x3 x4 : Int32) (h_x1 : 0 ≤ Int32.toInt x1 ∧ Int32.toInt x1 ≤ 7) (h_x3 : 0 ≤ Int32.toInt x3 ∧ Int32.toInt x3 ≤ 65535) (h_x4 : 0 ≤ Int32.toInt x4 ∧ Int32.toInt x4 ≤ 16) (hn5 : 16 - Int32.toInt x4 ≤ n5) : ws_X3_within_5 post next bZ wD gF nJ nY x1 x2 x3 x4 := by
  have l0 := li_0
  refine And.intro (fun c4 => ?_) (fun c4 => ?_)
  · skip
    have c4 := (fa_le _ _).mp c4
    exact hpost _ h_x3
  · skip
    have c4 := mt (fa_le _ _).mpr c4
    refine And.intro (t_in (by omega)) ?_
    intro v5 ev5
    have hv5 := congrArg Int32.toInt ev5
    refine And.intro (t_in (by omega)) ?_
    have f8 := tp_r v5
    refine And.intro (fun c7 => ?_) (fun c7 => ?_)
    · skip
      have c7 := (fa_le _ _).mp c7
      refine And.intro (t_in (by omega)) ?_
      intro v10 ev10
      have hv10 := congrArg Int32.toInt ev10
      refine And.intro (t_in (by omega)) ?_
      refine And.intro (t_in (by omega)) ?_
      intro v11 ev11
      have hv11 := congrArg Int32.toInt ev11
      refine And.intro (t_in (by omega)) ?_
      have f14 := tp_r v11
      refine And.intro (fun c13 => ?_) (fun c13 => ?_)
      · skip
        have c13 := (fa_le _ _).mp c13
        intro v16 ev16
        have hv16 := congrArg Int32.toInt ev16
        intro v18 ev18
        have f20 := tp_r v16
        have f21 : Int32.toInt (0 * 0) = Int32.toInt (0 : Int32) * 0 := ta_mulc _ _ (by decide) (by omega)
        have f19 : Int32.toInt (v16 + (0 * 0)) = Int32.toInt v16 + Int32.toInt (0 * 0) := ta_add _ _ (by omega)
        rw [← ev18] at f19
        have f23 := tp_r v18
        refine And.intro (fun c22 => ?_) (fun c22 => ?_)
        · skip
          have c22 := (fa_lt _ _).mp c22
          refine And.intro (fun _ => ?_) (fun h9 => absurd h9 (by decide))
          have f25 := tp_r x2
          exact ts_X3_within_32 bZ wD gF nJ nY h_tr_fruits hpost hKn x1 x2 x3 x4 h_x1 h_x3 (by omega) hn5
        · skip
          have c22 := mt (fa_lt _ _).mpr c22
          refine And.intro (fun h9 => absurd h9 (by decide)) (fun _ => ?_)
          intro v26 ev26
          have f28 := ti_shl1 15 32768 x4 (by decide) (by omega)
          have f27 := ti_or 16 65536 x3 (1 <<< (x4 &&& 31)) (by decide) (by omega) (by omega)
          have hv26 := congrArg Int32.toInt ev26
          have f29 := tp_r x2
          exact ts_X3_within_32 bZ wD gF nJ nY h_tr_fruits hpost hKn x1 x2 v26 x4 h_x1 (by omega) (by omega) hn5
      · skip
        have c13 := mt (fa_le _ _).mpr c13
        refine And.intro (t_in (by omega)) ?_
        intro v30 ev30
        have hv30 := congrArg Int32.toInt ev30
        refine And.intro (t_in (by omega)) ?_
        intro v31 ev31
        have hv31 := congrArg Int32.toInt ev31
        intro v33 ev33
        have hv33 := congrArg Int32.toInt ev33
        intro v35 ev35
        have hv35 := congrArg Int32.toInt ev35
        have f38 := tp_r v35
        refine And.intro (fun c37 => ?_) (fun c37 => ?_)
        · skip
          have c37 := (fa_lt _ _).mp c37
          refine And.intro (fun _ => ?_) (fun h9 => absurd h9 (by decide))
          have f40 := tp_r x2
          exact ts_X3_within_32 bZ wD gF nJ nY h_tr_fruits hpost hKn x1 x2 x3 x4 h_x1 h_x3 (by omega) hn5
        · skip
          have c37 := mt (fa_lt _ _).mpr c37
          refine And.intro (fun h9 => absurd h9 (by decide)) (fun _ => ?_)
          intro v41 ev41
          have f43 := ti_shl1 15 32768 x4 (by decide) (by omega)
          have f42 := ti_or 16 65536 x3 (1 <<< (x4 &&& 31)) (by decide) (by omega) (by omega)
          have hv41 := congrArg Int32.toInt ev41
          have f44 := tp_r x2
          exact ts_X3_within_32 bZ wD gF nJ nY h_tr_fruits hpost hKn x1 x2 v41 x4 h_x1 (by omega) (by omega) hn5
    · skip
      have c7 := mt (fa_le _ _).mpr c7
      refine And.intro (t_in (by omega)) ?_
      intro v45 ev45
      have hv45 := congrArg Int32.toInt ev45
      refine And.intro (t_in (by omega)) ?_
      intro v46 ev46
      have hv46 := congrArg Int32.toInt ev46
      refine And.intro (t_in (by omega)) ?_
      intro v48 ev48
      have hv48 := congrArg Int32.toInt ev48
      refine And.intro (t_in (by omega)) ?_
      have f51 := tp_r v48
      refine And.intro (fun c50 => ?_) (fun c50 => ?_)
      · skip
        have c50 := (fa_le _ _).mp c50
        intro v53 ev53
        have hv53 := congrArg Int32.toInt ev53
        intro v55 ev55
        have f57 := tp_r v53
        have f58 : Int32.toInt (0 * 0) = Int32.toInt (0 : Int32) * 0 := ta_mulc _ _ (by decide) (by omega)
        have f56 : Int32.toInt (v53 + (0 * 0)) = Int32.toInt v53 + Int32.toInt (0 * 0) := ta_add _ _ (by omega)
        rw [← ev55] at f56
        have f60 := tp_r v55
        refine And.intro (fun c59 => ?_) (fun c59 => ?_)
        · skip
          have c59 := (fa_lt _ _).mp c59
          refine And.intro (fun _ => ?_) (fun h9 => absurd h9 (by decide))
          have f62 := tp_r x2
          exact ts_X3_within_32 bZ wD gF nJ nY h_tr_fruits hpost hKn x1 x2 x3 x4 h_x1 h_x3 (by omega) hn5
        · skip
          have c59 := mt (fa_lt _ _).mpr c59
          refine And.intro (fun h9 => absurd h9 (by decide)) (fun _ => ?_)
          intro v63 ev63
          have f65 := ti_shl1 15 32768 x4 (by decide) (by omega)
          have f64 := ti_or 16 65536 x3 (1 <<< (x4 &&& 31)) (by decide) (by omega) (by omega)
          have hv63 := congrArg Int32.toInt ev63
          have f66 := tp_r x2
          exact ts_X3_within_32 bZ wD gF nJ nY h_tr_fruits hpost hKn x1 x2 v63 x4 h_x1 (by omega) (by omega) hn5
      · skip
        have c50 := mt (fa_le _ _).mpr c50
        refine And.intro (t_in (by omega)) ?_
        intro v67 ev67
        have hv67 := congrArg Int32.toInt ev67
        refine And.intro (t_in (by omega)) ?_
        intro v68 ev68
        have hv68 := congrArg Int32.toInt ev68
        intro v70 ev70
        have hv70 := congrArg Int32.toInt ev70
        intro v72 ev72
        have hv72 := congrArg Int32.toInt ev72
        have f75 := tp_r v72
        refine And.intro (fun c74 => ?_) (fun c74 => ?_)
        · skip
          have c74 := (fa_lt _ _).mp c74
          refine And.intro (fun _ => ?_) (fun h9 => absurd h9 (by decide))
          have f77 := tp_r x2
          exact ts_X3_within_32 bZ wD gF nJ nY h_tr_fruits hpost hKn x1 x2 x3 x4 h_x1 h_x3 (by omega) hn5
        · skip
          have c74 := mt (fa_lt _ _).mpr c74
          refine And.intro (fun h9 => absurd h9 (by decide)) (fun _ => ?_)
          intro v78 ev78
          have f80 := ti_shl1 15 32768 x4 (by decide) (by omega)
          have f79 := ti_or 16 65536 x3 (1 <<< (x4 &&& 31)) (by decide) (by omega) (by omega)
          have hv78 := congrArg Int32.toInt ev78
          have f81 := tp_r x2
          exact ts_X3_within_32 bZ wD gF nJ nY h_tr_fruits hpost hKn x1 x2 v78 x4 h_x1 (by omega) (by omega) hn5
set_option maxHeartbeats 8000000 in
set_option maxRecDepth 200000 in
theorem tb_X3_within_5 {post : Int32 → Prop} (bZ : Int32) (wD gF nJ nY : Nat → Int32) (h_tr_fruits : 0 ≤ Int32.toInt bZ ∧ Int32.toInt bZ ≤ 16) (hpost : ∀ (r : Int32) , (0 ≤ Int32.toInt r ∧ Int32.toInt r ≤ 65535) → post r) : ∀ (n : Nat) (x1 x2 x3 x4 : Int32), (0 ≤ Int32.toInt x1 ∧ Int32.toInt x1 ≤ 7) → (0 ≤ Int32.toInt x3 ∧ Int32.toInt x3 ≤ 65535) → (0 ≤ Int32.toInt x4 ∧ Int32.toInt x4 ≤ 16) → (16 - Int32.toInt x4 < (n : Int)) → wb_X3_within_5 post bZ wD gF nJ nY n x1 x2 x3 x4 := by
  intro n
  induction n with
  | zero =>
    intro x1 x2 x3 x4 h_x1 h_x3 h_x4 hm
    exfalso; omega
  | succ n ih =>
    intro x1 x2 x3 x4 h_x1 h_x3 h_x4 hm
    exact ts_X3_within_5 bZ wD gF nJ nY h_tr_fruits hpost ih x1 x2 x3 x4 h_x1 h_x3 h_x4 (by omega)
set_option maxHeartbeats 8000000 in
set_option maxRecDepth 200000 in
theorem t_X3_within {post : Int32 → Prop} {p0 p1 bZ : Int32} {wD gF nJ nY : Nat → Int32} (h_p0 : 0 ≤ Int32.toInt p0 ∧ Int32.toInt p0 ≤ 7) (h_tr_fruits : 0 ≤ Int32.toInt bZ ∧ Int32.toInt bZ ≤ 16) (hpost : ∀ (r : Int32) , (0 ≤ Int32.toInt r ∧ Int32.toInt r ≤ 65535) → post r) : wp_X3_within post p0 p1 bZ wD gF nJ nY := by
  have l0 := li_0
  have f82 := tp_r p1
  exact ⟨18, tb_X3_within_5 bZ wD gF nJ nY h_tr_fruits hpost _ p0 p1 0 0 h_p0 (by omega) (by omega) (by omega)⟩
set_option maxHeartbeats 8000000 in
set_option maxRecDepth 200000 in
theorem ts_X3_ripeBy_28 {post : Int32 → Prop} {K4 : Int32 → Int32 → Int32 → Prop} {n4 : Int} (bZ : Int32) (qA : Nat → Int32) (h_tr_fruits : 0 ≤ Int32.toInt bZ ∧ Int32.toInt bZ ≤ 16) (hpost : ∀ (r : Int32) , (0 ≤ Int32.toInt r ∧ Int32.toInt r ≤ 65535) → post r) (hK4 : ∀ (x1 : Int32) (x2 : Int32) (x3 : Int32), (0 ≤ Int32.toInt x1 ∧ Int32.toInt x1 ≤ 9) → (0 ≤ Int32.toInt x2 ∧ Int32.toInt x2 ≤ 65535) → (0 ≤ Int32.toInt x3 ∧ Int32.toInt x3 ≤ 16) → (16 - Int32.toInt x3 < n4) → K4 x1 x2 x3) (x1 x2 x3 : Int32) (h_x1 : 0 ≤ Int32.toInt x1 ∧ Int32.toInt x1 ≤ 9) (h_x2 : 0 ≤ Int32.toInt x2 ∧ Int32.toInt x2 ≤ 65535) (h_x3 : 0 ≤ Int32.toInt x3 ∧ Int32.toInt x3 ≤ 15) (hn4 : 16 - Int32.toInt x3 ≤ n4) : ws_X3_ripeBy_28 post K4 bZ qA x1 x2 x3 := by
  have l0 := li_1
  intro v1 ev1
  have f2 : Int32.toInt (x3 + 1) = Int32.toInt x3 + Int32.toInt (1 : Int32) := ta_add _ _ (by omega)
  rw [← ev1] at f2
  exact hK4 x1 x2 v1 h_x1 h_x2 (by omega) (by omega)
set_option maxHeartbeats 8000000 in
set_option maxRecDepth 200000 in
theorem ts_X3_ripeBy_4 {post : Int32 → Prop} {next : Int32 → Int32 → Int32 → Prop} {n4 : Int} (bZ : Int32) (qA : Nat → Int32) (h_tr_fruits : 0 ≤ Int32.toInt bZ ∧ Int32.toInt bZ ≤ 16) (hpost : ∀ (r : Int32) , (0 ≤ Int32.toInt r ∧ Int32.toInt r ≤ 65535) → post r) (hKn : ∀ (x1 : Int32) (x2 : Int32) (x3 : Int32), (0 ≤ Int32.toInt x1 ∧ Int32.toInt x1 ≤ 9) → (0 ≤ Int32.toInt x2 ∧ Int32.toInt x2 ≤ 65535) → (0 ≤ Int32.toInt x3 ∧ Int32.toInt x3 ≤ 16) → (16 - Int32.toInt x3 < n4) → next x1 x2 x3) (x1 x2 x3 : Int32) (h_x1 : 0 ≤ Int32.toInt x1 ∧ Int32.toInt x1 ≤ 9) (h_x2 : 0 ≤ Int32.toInt x2 ∧ Int32.toInt x2 ≤ 65535) (h_x3 : 0 ≤ Int32.toInt x3 ∧ Int32.toInt x3 ≤ 16) (hn4 : 16 - Int32.toInt x3 ≤ n4) : ws_X3_ripeBy_4 post next bZ qA x1 x2 x3 := by
  refine And.intro (fun c3 => ?_) (fun c3 => ?_)
  · skip
    have c3 := (fa_le _ _).mp c3
    exact hpost _ h_x2
  · skip
    have c3 := mt (fa_le _ _).mpr c3
    refine And.intro (t_in (by omega)) ?_
    intro v4 ev4
    have hv4 := congrArg Int32.toInt ev4
    have f7 := tp_r v4
    refine And.intro (fun c6 => ?_) (fun c6 => ?_)
    · skip
      have c6 := (fa_lt _ _).mp c6
      exact ts_X3_ripeBy_28 bZ qA h_tr_fruits hpost hKn x1 x2 x3 h_x1 h_x2 (by omega) hn4
    · skip
      have c6 := mt (fa_lt _ _).mpr c6
      intro v8 ev8
      have f10 := ti_shl1 15 32768 x3 (by decide) (by omega)
      have f9 := ti_or 16 65536 x2 (1 <<< (x3 &&& 31)) (by decide) (by omega) (by omega)
      have hv8 := congrArg Int32.toInt ev8
      exact ts_X3_ripeBy_28 bZ qA h_tr_fruits hpost hKn x1 v8 x3 h_x1 (by omega) (by omega) hn4
set_option maxHeartbeats 8000000 in
set_option maxRecDepth 200000 in
theorem tb_X3_ripeBy_4 {post : Int32 → Prop} (bZ : Int32) (qA : Nat → Int32) (h_tr_fruits : 0 ≤ Int32.toInt bZ ∧ Int32.toInt bZ ≤ 16) (hpost : ∀ (r : Int32) , (0 ≤ Int32.toInt r ∧ Int32.toInt r ≤ 65535) → post r) : ∀ (n : Nat) (x1 x2 x3 : Int32), (0 ≤ Int32.toInt x1 ∧ Int32.toInt x1 ≤ 9) → (0 ≤ Int32.toInt x2 ∧ Int32.toInt x2 ≤ 65535) → (0 ≤ Int32.toInt x3 ∧ Int32.toInt x3 ≤ 16) → (16 - Int32.toInt x3 < (n : Int)) → wb_X3_ripeBy_4 post bZ qA n x1 x2 x3 := by
  intro n
  induction n with
  | zero =>
    intro x1 x2 x3 h_x1 h_x2 h_x3 hm
    exfalso; omega
  | succ n ih =>
    intro x1 x2 x3 h_x1 h_x2 h_x3 hm
    exact ts_X3_ripeBy_4 bZ qA h_tr_fruits hpost ih x1 x2 x3 h_x1 h_x2 h_x3 (by omega)
set_option maxHeartbeats 8000000 in
set_option maxRecDepth 200000 in
theorem t_X3_ripeBy {post : Int32 → Prop} {p0 bZ : Int32} {qA : Nat → Int32} (h_p0 : 0 ≤ Int32.toInt p0 ∧ Int32.toInt p0 ≤ 9) (h_tr_fruits : 0 ≤ Int32.toInt bZ ∧ Int32.toInt bZ ≤ 16) (hpost : ∀ (r : Int32) , (0 ≤ Int32.toInt r ∧ Int32.toInt r ≤ 65535) → post r) : wp_X3_ripeBy post p0 bZ qA := by
  have l0 := li_0
  exact ⟨18, tb_X3_ripeBy_4 bZ qA h_tr_fruits hpost _ p0 0 0 h_p0 (by omega) (by omega) (by omega)⟩
set_option maxHeartbeats 8000000 in
set_option maxRecDepth 200000 in
theorem ts_X0_shakeTree_63 {post : Int32 → Int32 → Int32 → Int32 → Prop} {K29 : Int32 → Int32 → Int32 → Int32 → Int32 → Int32 → Int32 → Prop} {n29 : Int} (bZ : Int32) (wD gF qA nJ nY dQ : Nat → Int32) (jC eO fJ fY jD : Int32) (h_tr_fruits : 0 ≤ Int32.toInt bZ ∧ Int32.toInt bZ ≤ 16) (h_no_ladder : -1 ≤ Int32.toInt fJ ∧ Int32.toInt fJ ≤ 7) (h_no_today : 0 ≤ Int32.toInt jD ∧ Int32.toInt jD ≤ 9) (hpost : ∀ (r : Int32) (no_ground' : Int32) (no_bruised' : Int32) (no_clock' : Int32), (-2 ≤ Int32.toInt r ∧ Int32.toInt r ≤ 63) → post r no_ground' no_bruised' no_clock') (hK29 : ∀ (x1 : Int32) (x2 : Int32) (x3 : Int32) (x4 : Int32) (eW : Int32) (dO : Int32) (nG : Int32), (0 ≤ Int32.toInt x1 ∧ Int32.toInt x1 ≤ 65535) → (0 ≤ Int32.toInt x2 ∧ Int32.toInt x2 ≤ 65535) → (0 ≤ Int32.toInt x3 ∧ Int32.toInt x3 ≤ 65535) → (0 ≤ Int32.toInt x4 ∧ Int32.toInt x4 ≤ 16) → (16 - Int32.toInt x4 < n29) → K29 x1 x2 x3 x4 eW dO nG) (x1 x2 x3 x4 eW dO nG : Int32) (h_x1 : 0 ≤ Int32.toInt x1 ∧ Int32.toInt x1 ≤ 65535) (h_x2 : 0 ≤ Int32.toInt x2 ∧ Int32.toInt x2 ≤ 65535) (h_x3 : 0 ≤ Int32.toInt x3 ∧ Int32.toInt x3 ≤ 65535) (h_x4 : 0 ≤ Int32.toInt x4 ∧ Int32.toInt x4 ≤ 15) (hn29 : 16 - Int32.toInt x4 ≤ n29) : ws_X0_shakeTree_63 post K29 bZ wD gF qA nJ nY dQ jC eO fJ fY jD x1 x2 x3 x4 eW dO nG := by
  have l0 := li_1
  intro v1 ev1
  have f2 : Int32.toInt (x4 + 1) = Int32.toInt x4 + Int32.toInt (1 : Int32) := ta_add _ _ (by omega)
  rw [← ev1] at f2
  have f3 := tp_r eW
  have f4 := tp_r dO
  have f5 := tp_r nG
  exact hK29 x1 x2 x3 v1 eW dO nG h_x1 h_x2 h_x3 (by omega) (by omega)
set_option maxHeartbeats 8000000 in
set_option maxRecDepth 200000 in
theorem ts_X0_shakeTree_29 {post : Int32 → Int32 → Int32 → Int32 → Prop} {next : Int32 → Int32 → Int32 → Int32 → Int32 → Int32 → Int32 → Prop} {n29 : Int} (bZ : Int32) (wD gF qA nJ nY dQ : Nat → Int32) (jC eO fJ fY jD : Int32) (h_tr_fruits : 0 ≤ Int32.toInt bZ ∧ Int32.toInt bZ ≤ 16) (h_no_ladder : -1 ≤ Int32.toInt fJ ∧ Int32.toInt fJ ≤ 7) (h_no_today : 0 ≤ Int32.toInt jD ∧ Int32.toInt jD ≤ 9) (hpost : ∀ (r : Int32) (no_ground' : Int32) (no_bruised' : Int32) (no_clock' : Int32), (-2 ≤ Int32.toInt r ∧ Int32.toInt r ≤ 63) → post r no_ground' no_bruised' no_clock') (hKn : ∀ (x1 : Int32) (x2 : Int32) (x3 : Int32) (x4 : Int32) (eW : Int32) (dO : Int32) (nG : Int32), (0 ≤ Int32.toInt x1 ∧ Int32.toInt x1 ≤ 65535) → (0 ≤ Int32.toInt x2 ∧ Int32.toInt x2 ≤ 65535) → (0 ≤ Int32.toInt x3 ∧ Int32.toInt x3 ≤ 65535) → (0 ≤ Int32.toInt x4 ∧ Int32.toInt x4 ≤ 16) → (16 - Int32.toInt x4 < n29) → next x1 x2 x3 x4 eW dO nG) (x1 x2 x3 x4 eW dO nG : Int32) (h_x1 : 0 ≤ Int32.toInt x1 ∧ Int32.toInt x1 ≤ 65535) (h_x2 : 0 ≤ Int32.toInt x2 ∧ Int32.toInt x2 ≤ 65535) (h_x3 : 0 ≤ Int32.toInt x3 ∧ Int32.toInt x3 ≤ 65535) (h_x4 : 0 ≤ Int32.toInt x4 ∧ Int32.toInt x4 ≤ 16) (hn29 : 16 - Int32.toInt x4 ≤ n29) : ws_X0_shakeTree_29 post next bZ wD gF qA nJ nY dQ jC eO fJ fY jD x1 x2 x3 x4 eW dO nG := by
  have l0 := li_0
  have l1 := li_1
  have l2 := li_1431655765
  have l3 := li_252645135
  have l4 := li_63
  have l5 := li_858993459
  have l6 := li_9999
  refine And.intro (fun c6 => ?_) (fun c6 => ?_)
  · skip
    have c6 := (fa_le _ _).mp c6
    intro v7 ev7
    intro v8 ev8
    intro v9 ev9
    have hv9 := congrArg Int32.toInt ev9
    intro v11 ev11
    have f12 := tp_r (if v9 < 9999 then v9 else 9999)
    have f14 := tp_r v9
    have f13 := ti_min (9999 : Int32) v9
    have hv11 := congrArg Int32.toInt ev11
    intro v15 ev15
    intro v16 ev16
    have f18 := ti_andr v15 1431655765 (by omega)
    have f17 : Int32.toInt (x2 - (v15 &&& 1431655765)) = Int32.toInt x2 - Int32.toInt (v15 &&& 1431655765) := ta_sub _ _ (by omega)
    rw [← ev16] at f17
    intro v19 ev19
    have f20 := ti_andr v16 858993459 (by omega)
    have hv19 := congrArg Int32.toInt ev19
    intro v21 ev21
    intro v22 ev22
    have f24 := ti_andr v21 858993459 (by omega)
    have f23 : Int32.toInt (v19 + (v21 &&& 858993459)) = Int32.toInt v19 + Int32.toInt (v21 &&& 858993459) := ta_add _ _ (by omega)
    rw [← ev22] at f23
    intro v25 ev25
    have hv25 := congrArg Int32.toInt ev25
    intro v27 ev27
    have f28 := ti_andr v25 252645135 (by omega)
    have hv27 := congrArg Int32.toInt ev27
    intro v29 ev29
    have hv29 := congrArg Int32.toInt ev29
    intro v31 ev31
    have hv31 := congrArg Int32.toInt ev31
    have f33 := ti_andr v31 63 (by omega)
    exact hpost _ _ _ _ (by omega)
  · skip
    have c6 := mt (fa_le _ _).mpr c6
    intro v34 ev34
    have f35 := ti_shr x2 x4 (by omega)
    have hv34 := congrArg Int32.toInt ev34
    have f37 := ti_andr v34 1 (by omega)
    have f38 := ti_andl v34 1 (by omega)
    refine And.intro (fun c36 => ?_) (fun c36 => ?_)
    · skip
      have c36 := (fa_eq _ _).mp c36
      have f39 := tp_r eW
      have f40 := tp_r dO
      have f41 := tp_r nG
      exact ts_X0_shakeTree_63 bZ wD gF qA nJ nY dQ jC eO fJ fY jD h_tr_fruits h_no_ladder h_no_today hpost hKn x1 x2 x3 x4 eW dO nG h_x1 h_x2 h_x3 (by omega) hn29
    · skip
      have c36 := mt (fa_eq _ _).mpr c36
      refine t_X3_lowerThan (by omega) h_x1 (by omega) (fun r42 h_r42 => ?_)
      intro v43 ev43
      have f44 := ti_or 16 65536 x3 r42 (by decide) (by omega) (by omega)
      have hv43 := congrArg Int32.toInt ev43
      have f45 := tp_r eW
      have f46 := tp_r dO
      have f47 := tp_r nG
      exact ts_X0_shakeTree_63 bZ wD gF qA nJ nY dQ jC eO fJ fY jD h_tr_fruits h_no_ladder h_no_today hpost hKn x1 x2 v43 x4 eW dO nG h_x1 h_x2 (by omega) (by omega) hn29
set_option maxHeartbeats 8000000 in
set_option maxRecDepth 200000 in
theorem tb_X0_shakeTree_29 {post : Int32 → Int32 → Int32 → Int32 → Prop} (bZ : Int32) (wD gF qA nJ nY dQ : Nat → Int32) (jC eO fJ fY jD : Int32) (h_tr_fruits : 0 ≤ Int32.toInt bZ ∧ Int32.toInt bZ ≤ 16) (h_no_ladder : -1 ≤ Int32.toInt fJ ∧ Int32.toInt fJ ≤ 7) (h_no_today : 0 ≤ Int32.toInt jD ∧ Int32.toInt jD ≤ 9) (hpost : ∀ (r : Int32) (no_ground' : Int32) (no_bruised' : Int32) (no_clock' : Int32), (-2 ≤ Int32.toInt r ∧ Int32.toInt r ≤ 63) → post r no_ground' no_bruised' no_clock') : ∀ (n : Nat) (x1 x2 x3 x4 eW dO nG : Int32), (0 ≤ Int32.toInt x1 ∧ Int32.toInt x1 ≤ 65535) → (0 ≤ Int32.toInt x2 ∧ Int32.toInt x2 ≤ 65535) → (0 ≤ Int32.toInt x3 ∧ Int32.toInt x3 ≤ 65535) → (0 ≤ Int32.toInt x4 ∧ Int32.toInt x4 ≤ 16) → (16 - Int32.toInt x4 < (n : Int)) → wb_X0_shakeTree_29 post bZ wD gF qA nJ nY dQ jC eO fJ fY jD n x1 x2 x3 x4 eW dO nG := by
  intro n
  induction n with
  | zero =>
    intro x1 x2 x3 x4 eW dO nG h_x1 h_x2 h_x3 h_x4 hm
    exfalso; omega
  | succ n ih =>
    intro x1 x2 x3 x4 eW dO nG h_x1 h_x2 h_x3 h_x4 hm
    exact ts_X0_shakeTree_29 bZ wD gF qA nJ nY dQ jC eO fJ fY jD h_tr_fruits h_no_ladder h_no_today hpost ih x1 x2 x3 x4 eW dO nG h_x1 h_x2 h_x3 h_x4 (by omega)
set_option maxHeartbeats 8000000 in
set_option maxRecDepth 200000 in
theorem t_X0_shakeTree {post : Int32 → Int32 → Int32 → Int32 → Prop} {bZ : Int32} {wD gF qA nJ nY dQ : Nat → Int32} {jC eO eW dO fJ fY jD nG : Int32} (h_tr_fruits : 0 ≤ Int32.toInt bZ ∧ Int32.toInt bZ ≤ 16) (h_no_ladder : -1 ≤ Int32.toInt fJ ∧ Int32.toInt fJ ≤ 7) (h_no_today : 0 ≤ Int32.toInt jD ∧ Int32.toInt jD ≤ 9) (hpost : ∀ (r : Int32) (no_ground' : Int32) (no_bruised' : Int32) (no_clock' : Int32), (-2 ≤ Int32.toInt r ∧ Int32.toInt r ≤ 63) → post r no_ground' no_bruised' no_clock') : wp_X0_shakeTree post bZ wD gF qA nJ nY dQ jC eO eW dO fJ fY jD nG := by
  have l0 := li_m1
  have l1 := li_m2
  have l2 := li_0
  have l3 := li_1
  have l4 := li_2
  refine And.intro (fun c48 => ?_) (fun c48 => ?_)
  · skip
    have c48 := mt (fa_eq _ _).mpr c48
    intro v49 ev49
    have f50 := ti_shl1 16 65536 bZ (by decide) (by omega)
    have hv49 := congrArg Int32.toInt ev49
    intro v51 ev51
    intro v52 ev52
    refine And.intro (fun c53 => ?_) (fun c53 => ?_)
    · skip
      have c53 := mt (fa_eq _ _).mpr c53
      intro v54 ev54
      have hv54 := congrArg Int32.toInt ev54
      intro v56 ev56
      have hv56 := congrArg Int32.toInt ev56
      refine t_X3_within (by omega) h_tr_fruits (fun r58 h_r58 => ?_)
      intro v59 ev59
      have hv59 := congrArg Int32.toInt ev59
      intro v60 ev60
      intro v61 ev61
      refine t_X3_ripeBy h_no_today h_tr_fruits (fun r62 h_r62 => ?_)
      intro v63 ev63
      have f64 := ti_andr ((v59 - 1) &&& (v61 ^^^ (-1))) r62 (by omega)
      have f66 : Int32.toInt (v59 - 1) = Int32.toInt v59 - Int32.toInt (1 : Int32) := ta_sub _ _ (by omega)
      have f67 := ti_andl (v59 - 1) (v61 ^^^ (-1)) (by omega)
      have f68 := ti_andl ((v59 - 1) &&& (v61 ^^^ (-1))) r62 (by omega)
      have hv63 := congrArg Int32.toInt ev63
      have f70 : Int32.toInt (v49 - 1) = Int32.toInt v49 - Int32.toInt (1 : Int32) := ta_sub _ _ (by omega)
      have f71 := ti_andl (v49 - 1) (v52 ^^^ (-1)) (by omega)
      have f72 := ti_andr v63 r58 (by omega)
      have f73 := ti_andl v63 r58 (by omega)
      have f74 := tp_r eW
      have f75 := tp_r dO
      have f76 := tp_r nG
      exact ⟨18, tb_X0_shakeTree_29 bZ wD gF qA nJ nY dQ jC eO fJ fY jD h_tr_fruits h_no_ladder h_no_today hpost _ ((v49 - 1) &&& (v52 ^^^ (-1))) (v63 &&& r58) (v63 &&& r58) 0 eW dO nG (by omega) (by omega) (by omega) (by omega) (by omega)⟩
    · skip
      have c53 := (fa_eq _ _).mp c53
      exfalso; omega
  · skip
    have c48 := (fa_eq _ _).mp c48
    exact hpost _ _ _ _ (by omega)
set_option maxHeartbeats 8000000 in
set_option maxRecDepth 200000 in
theorem t_X9_shake {post : Int32 → Int32 → Int32 → Int32 → Int32 → Int32 → (Nat → Int32) → Prop} {bZ : Int32} {wD gF qA nJ nY dQ : Nat → Int32} {jC eO eW dO fJ fY jD nG oE uF : Int32} {sG : Nat → Int32} (h_tr_fruits : 0 ≤ Int32.toInt bZ ∧ Int32.toInt bZ ≤ 16) (h_no_ladder : -1 ≤ Int32.toInt fJ ∧ Int32.toInt fJ ≤ 7) (h_no_today : 0 ≤ Int32.toInt jD ∧ Int32.toInt jD ≤ 9) (h_pa_undoable : 0 ≤ Int32.toInt oE ∧ Int32.toInt oE ≤ 12) (h_pa_free : 0 ≤ Int32.toInt uF ∧ Int32.toInt uF ≤ 12) (e0_pa_cells : ∀ k : Nat, k % 8 = 4 → -1 ≤ Int32.toInt (sG k) ∧ Int32.toInt (sG k) ≤ 7) (e1_pa_cells : ∀ k : Nat, k % 8 = 6 → 0 ≤ Int32.toInt (sG k) ∧ Int32.toInt (sG k) ≤ 9) (hpost : ∀ (r : Int32) (no_ground' : Int32) (no_bruised' : Int32) (no_clock' : Int32) (pa_undoable' : Int32) (pa_free' : Int32) (pa_cells' : Nat → Int32), (-2 ≤ Int32.toInt r ∧ Int32.toInt r ≤ 63) → (0 ≤ Int32.toInt pa_undoable' ∧ Int32.toInt pa_undoable' ≤ 12) → (0 ≤ Int32.toInt pa_free' ∧ Int32.toInt pa_free' ≤ 12) → (∀ k : Nat, k % 8 = 4 → -1 ≤ Int32.toInt (pa_cells' k) ∧ Int32.toInt (pa_cells' k) ≤ 7) → (∀ k : Nat, k % 8 = 6 → 0 ≤ Int32.toInt (pa_cells' k) ∧ Int32.toInt (pa_cells' k) ≤ 9) → post r no_ground' no_bruised' no_clock' pa_undoable' pa_free' pa_cells') : wp_X9_shake post bZ wD gF qA nJ nY dQ jC eO eW dO fJ fY jD nG oE uF sG := by
  have l0 := li_0
  have l1 := li_1
  have l2 := li_104
  have l3 := li_12
  have l4 := li_13
  have l5 := li_2
  have l6 := li_3
  have l7 := li_4
  have l8 := li_5
  have l9 := li_6
  have l10 := li_7
  have l11 := li_8
  intro v1 ev1
  have f2 : Int32.toInt (uF * 8) = Int32.toInt uF * 8 := ta_mulc _ _ (by decide) (by omega)
  rw [← ev1] at f2
  refine And.intro (fun c3 => ?_) (fun c3 => ?_)
  · skip
    have c3 := (fa_lt _ _).mp c3
    exfalso; omega
  · skip
    have c3 := mt (fa_lt _ _).mpr c3
    have f5 : Int32.toInt (104 - 8) = Int32.toInt (104 : Int32) - Int32.toInt (8 : Int32) := ta_sub _ _ (by omega)
    refine And.intro (fun c4 => ?_) (fun c4 => ?_)
    · skip
      have c4 := (fa_le _ _).mp c4
      refine And.intro (t_in (by omega)) ?_
      have f7 := tp_r jC
      have e6 : ∀ k : Nat, k % 8 = 4 → -1 ≤ Int32.toInt ((upd sG v1.toNatClampNeg jC) k) ∧ Int32.toInt ((upd sG v1.toNatClampNeg jC) k) ≤ 7 := t_updc (C := fun k => k % 8 = 4) e0_pa_cells (fun hk => by have e9 : v1.toNatClampNeg = (Int32.toInt v1).toNat := rfl; have hk : v1.toNatClampNeg % 8 = 4 := hk; omega)
      have e8 : ∀ k : Nat, k % 8 = 6 → 0 ≤ Int32.toInt ((upd sG v1.toNatClampNeg jC) k) ∧ Int32.toInt ((upd sG v1.toNatClampNeg jC) k) ≤ 9 := t_updc (C := fun k => k % 8 = 6) e1_pa_cells (fun hk => by have e9 : v1.toNatClampNeg = (Int32.toInt v1).toNat := rfl; have hk : v1.toNatClampNeg % 8 = 6 := hk; omega)
      intro v9 ev9
      have f10 : Int32.toInt (v1 + 1) = Int32.toInt v1 + Int32.toInt (1 : Int32) := ta_add _ _ (by omega)
      rw [← ev9] at f10
      refine And.intro (t_in (by omega)) ?_
      have f12 := tp_r eO
      have e11 : ∀ k : Nat, k % 8 = 4 → -1 ≤ Int32.toInt ((upd (upd sG v1.toNatClampNeg jC) v9.toNatClampNeg eO) k) ∧ Int32.toInt ((upd (upd sG v1.toNatClampNeg jC) v9.toNatClampNeg eO) k) ≤ 7 := t_updc (C := fun k => k % 8 = 4) e6 (fun hk => by have e9 : v9.toNatClampNeg = (Int32.toInt v9).toNat := rfl; have hk : v9.toNatClampNeg % 8 = 4 := hk; omega)
      have e13 : ∀ k : Nat, k % 8 = 6 → 0 ≤ Int32.toInt ((upd (upd sG v1.toNatClampNeg jC) v9.toNatClampNeg eO) k) ∧ Int32.toInt ((upd (upd sG v1.toNatClampNeg jC) v9.toNatClampNeg eO) k) ≤ 9 := t_updc (C := fun k => k % 8 = 6) e8 (fun hk => by have e9 : v9.toNatClampNeg = (Int32.toInt v9).toNat := rfl; have hk : v9.toNatClampNeg % 8 = 6 := hk; omega)
      intro v14 ev14
      have f15 : Int32.toInt (v1 + 2) = Int32.toInt v1 + Int32.toInt (2 : Int32) := ta_add _ _ (by omega)
      rw [← ev14] at f15
      refine And.intro (t_in (by omega)) ?_
      have f17 := tp_r eW
      have e16 : ∀ k : Nat, k % 8 = 4 → -1 ≤ Int32.toInt ((upd (upd (upd sG v1.toNatClampNeg jC) v9.toNatClampNeg eO) v14.toNatClampNeg eW) k) ∧ Int32.toInt ((upd (upd (upd sG v1.toNatClampNeg jC) v9.toNatClampNeg eO) v14.toNatClampNeg eW) k) ≤ 7 := t_updc (C := fun k => k % 8 = 4) e11 (fun hk => by have e9 : v14.toNatClampNeg = (Int32.toInt v14).toNat := rfl; have hk : v14.toNatClampNeg % 8 = 4 := hk; omega)
      have e18 : ∀ k : Nat, k % 8 = 6 → 0 ≤ Int32.toInt ((upd (upd (upd sG v1.toNatClampNeg jC) v9.toNatClampNeg eO) v14.toNatClampNeg eW) k) ∧ Int32.toInt ((upd (upd (upd sG v1.toNatClampNeg jC) v9.toNatClampNeg eO) v14.toNatClampNeg eW) k) ≤ 9 := t_updc (C := fun k => k % 8 = 6) e13 (fun hk => by have e9 : v14.toNatClampNeg = (Int32.toInt v14).toNat := rfl; have hk : v14.toNatClampNeg % 8 = 6 := hk; omega)
      intro v19 ev19
      have f20 : Int32.toInt (v1 + 3) = Int32.toInt v1 + Int32.toInt (3 : Int32) := ta_add _ _ (by omega)
      rw [← ev19] at f20
      refine And.intro (t_in (by omega)) ?_
      have f22 := tp_r dO
      have e21 : ∀ k : Nat, k % 8 = 4 → -1 ≤ Int32.toInt ((upd (upd (upd (upd sG v1.toNatClampNeg jC) v9.toNatClampNeg eO) v14.toNatClampNeg eW) v19.toNatClampNeg dO) k) ∧ Int32.toInt ((upd (upd (upd (upd sG v1.toNatClampNeg jC) v9.toNatClampNeg eO) v14.toNatClampNeg eW) v19.toNatClampNeg dO) k) ≤ 7 := t_updc (C := fun k => k % 8 = 4) e16 (fun hk => by have e9 : v19.toNatClampNeg = (Int32.toInt v19).toNat := rfl; have hk : v19.toNatClampNeg % 8 = 4 := hk; omega)
      have e23 : ∀ k : Nat, k % 8 = 6 → 0 ≤ Int32.toInt ((upd (upd (upd (upd sG v1.toNatClampNeg jC) v9.toNatClampNeg eO) v14.toNatClampNeg eW) v19.toNatClampNeg dO) k) ∧ Int32.toInt ((upd (upd (upd (upd sG v1.toNatClampNeg jC) v9.toNatClampNeg eO) v14.toNatClampNeg eW) v19.toNatClampNeg dO) k) ≤ 9 := t_updc (C := fun k => k % 8 = 6) e18 (fun hk => by have e9 : v19.toNatClampNeg = (Int32.toInt v19).toNat := rfl; have hk : v19.toNatClampNeg % 8 = 6 := hk; omega)
      intro v24 ev24
      have f25 : Int32.toInt (v1 + 4) = Int32.toInt v1 + Int32.toInt (4 : Int32) := ta_add _ _ (by omega)
      rw [← ev24] at f25
      refine And.intro (t_in (by omega)) ?_
      have e26 : ∀ k : Nat, k % 8 = 4 → -1 ≤ Int32.toInt ((upd (upd (upd (upd (upd sG v1.toNatClampNeg jC) v9.toNatClampNeg eO) v14.toNatClampNeg eW) v19.toNatClampNeg dO) v24.toNatClampNeg fJ) k) ∧ Int32.toInt ((upd (upd (upd (upd (upd sG v1.toNatClampNeg jC) v9.toNatClampNeg eO) v14.toNatClampNeg eW) v19.toNatClampNeg dO) v24.toNatClampNeg fJ) k) ≤ 7 := t_updc (C := fun k => k % 8 = 4) e21 (fun hk => by have e9 : v24.toNatClampNeg = (Int32.toInt v24).toNat := rfl; have hk : v24.toNatClampNeg % 8 = 4 := hk; omega)
      have e27 : ∀ k : Nat, k % 8 = 6 → 0 ≤ Int32.toInt ((upd (upd (upd (upd (upd sG v1.toNatClampNeg jC) v9.toNatClampNeg eO) v14.toNatClampNeg eW) v19.toNatClampNeg dO) v24.toNatClampNeg fJ) k) ∧ Int32.toInt ((upd (upd (upd (upd (upd sG v1.toNatClampNeg jC) v9.toNatClampNeg eO) v14.toNatClampNeg eW) v19.toNatClampNeg dO) v24.toNatClampNeg fJ) k) ≤ 9 := t_updc (C := fun k => k % 8 = 6) e23 (fun hk => by have e9 : v24.toNatClampNeg = (Int32.toInt v24).toNat := rfl; have hk : v24.toNatClampNeg % 8 = 6 := hk; omega)
      intro v28 ev28
      have f29 : Int32.toInt (v1 + 5) = Int32.toInt v1 + Int32.toInt (5 : Int32) := ta_add _ _ (by omega)
      rw [← ev28] at f29
      refine And.intro (t_in (by omega)) ?_
      have f31 := tp_r fY
      have e30 : ∀ k : Nat, k % 8 = 4 → -1 ≤ Int32.toInt ((upd (upd (upd (upd (upd (upd sG v1.toNatClampNeg jC) v9.toNatClampNeg eO) v14.toNatClampNeg eW) v19.toNatClampNeg dO) v24.toNatClampNeg fJ) v28.toNatClampNeg fY) k) ∧ Int32.toInt ((upd (upd (upd (upd (upd (upd sG v1.toNatClampNeg jC) v9.toNatClampNeg eO) v14.toNatClampNeg eW) v19.toNatClampNeg dO) v24.toNatClampNeg fJ) v28.toNatClampNeg fY) k) ≤ 7 := t_updc (C := fun k => k % 8 = 4) e26 (fun hk => by have e9 : v28.toNatClampNeg = (Int32.toInt v28).toNat := rfl; have hk : v28.toNatClampNeg % 8 = 4 := hk; omega)
      have e32 : ∀ k : Nat, k % 8 = 6 → 0 ≤ Int32.toInt ((upd (upd (upd (upd (upd (upd sG v1.toNatClampNeg jC) v9.toNatClampNeg eO) v14.toNatClampNeg eW) v19.toNatClampNeg dO) v24.toNatClampNeg fJ) v28.toNatClampNeg fY) k) ∧ Int32.toInt ((upd (upd (upd (upd (upd (upd sG v1.toNatClampNeg jC) v9.toNatClampNeg eO) v14.toNatClampNeg eW) v19.toNatClampNeg dO) v24.toNatClampNeg fJ) v28.toNatClampNeg fY) k) ≤ 9 := t_updc (C := fun k => k % 8 = 6) e27 (fun hk => by have e9 : v28.toNatClampNeg = (Int32.toInt v28).toNat := rfl; have hk : v28.toNatClampNeg % 8 = 6 := hk; omega)
      intro v33 ev33
      have f34 : Int32.toInt (v1 + 6) = Int32.toInt v1 + Int32.toInt (6 : Int32) := ta_add _ _ (by omega)
      rw [← ev33] at f34
      refine And.intro (t_in (by omega)) ?_
      have e35 : ∀ k : Nat, k % 8 = 4 → -1 ≤ Int32.toInt ((upd (upd (upd (upd (upd (upd (upd sG v1.toNatClampNeg jC) v9.toNatClampNeg eO) v14.toNatClampNeg eW) v19.toNatClampNeg dO) v24.toNatClampNeg fJ) v28.toNatClampNeg fY) v33.toNatClampNeg jD) k) ∧ Int32.toInt ((upd (upd (upd (upd (upd (upd (upd sG v1.toNatClampNeg jC) v9.toNatClampNeg eO) v14.toNatClampNeg eW) v19.toNatClampNeg dO) v24.toNatClampNeg fJ) v28.toNatClampNeg fY) v33.toNatClampNeg jD) k) ≤ 7 := t_updc (C := fun k => k % 8 = 4) e30 (fun hk => by have e9 : v33.toNatClampNeg = (Int32.toInt v33).toNat := rfl; have hk : v33.toNatClampNeg % 8 = 4 := hk; omega)
      have e36 : ∀ k : Nat, k % 8 = 6 → 0 ≤ Int32.toInt ((upd (upd (upd (upd (upd (upd (upd sG v1.toNatClampNeg jC) v9.toNatClampNeg eO) v14.toNatClampNeg eW) v19.toNatClampNeg dO) v24.toNatClampNeg fJ) v28.toNatClampNeg fY) v33.toNatClampNeg jD) k) ∧ Int32.toInt ((upd (upd (upd (upd (upd (upd (upd sG v1.toNatClampNeg jC) v9.toNatClampNeg eO) v14.toNatClampNeg eW) v19.toNatClampNeg dO) v24.toNatClampNeg fJ) v28.toNatClampNeg fY) v33.toNatClampNeg jD) k) ≤ 9 := t_updc (C := fun k => k % 8 = 6) e32 (fun hk => by have e9 : v33.toNatClampNeg = (Int32.toInt v33).toNat := rfl; have hk : v33.toNatClampNeg % 8 = 6 := hk; omega)
      intro v37 ev37
      have f38 : Int32.toInt (v1 + 7) = Int32.toInt v1 + Int32.toInt (7 : Int32) := ta_add _ _ (by omega)
      rw [← ev37] at f38
      refine And.intro (t_in (by omega)) ?_
      have f40 := tp_r nG
      have e39 : ∀ k : Nat, k % 8 = 4 → -1 ≤ Int32.toInt ((upd (upd (upd (upd (upd (upd (upd (upd sG v1.toNatClampNeg jC) v9.toNatClampNeg eO) v14.toNatClampNeg eW) v19.toNatClampNeg dO) v24.toNatClampNeg fJ) v28.toNatClampNeg fY) v33.toNatClampNeg jD) v37.toNatClampNeg nG) k) ∧ Int32.toInt ((upd (upd (upd (upd (upd (upd (upd (upd sG v1.toNatClampNeg jC) v9.toNatClampNeg eO) v14.toNatClampNeg eW) v19.toNatClampNeg dO) v24.toNatClampNeg fJ) v28.toNatClampNeg fY) v33.toNatClampNeg jD) v37.toNatClampNeg nG) k) ≤ 7 := t_updc (C := fun k => k % 8 = 4) e35 (fun hk => by have e9 : v37.toNatClampNeg = (Int32.toInt v37).toNat := rfl; have hk : v37.toNatClampNeg % 8 = 4 := hk; omega)
      have e41 : ∀ k : Nat, k % 8 = 6 → 0 ≤ Int32.toInt ((upd (upd (upd (upd (upd (upd (upd (upd sG v1.toNatClampNeg jC) v9.toNatClampNeg eO) v14.toNatClampNeg eW) v19.toNatClampNeg dO) v24.toNatClampNeg fJ) v28.toNatClampNeg fY) v33.toNatClampNeg jD) v37.toNatClampNeg nG) k) ∧ Int32.toInt ((upd (upd (upd (upd (upd (upd (upd (upd sG v1.toNatClampNeg jC) v9.toNatClampNeg eO) v14.toNatClampNeg eW) v19.toNatClampNeg dO) v24.toNatClampNeg fJ) v28.toNatClampNeg fY) v33.toNatClampNeg jD) v37.toNatClampNeg nG) k) ≤ 9 := t_updc (C := fun k => k % 8 = 6) e36 (fun hk => by have e9 : v37.toNatClampNeg = (Int32.toInt v37).toNat := rfl; have hk : v37.toNatClampNeg % 8 = 6 := hk; omega)
      refine t_X0_shakeTree h_tr_fruits h_no_ladder h_no_today (fun r45 no_ground_42 no_bruised_43 no_clock_44 h_r45 => ?_)
      refine And.intro (fun c46 => ?_) (fun c46 => ?_)
      · skip
        have c46 := (fa_lt _ _).mp c46
        exact hpost _ _ _ _ _ _ _ h_r45 h_pa_undoable h_pa_free e39 e41
      · skip
        have c46 := mt (fa_lt _ _).mpr c46
        intro v47 ev47
        have f48 : Int32.toInt (uF + 1) = Int32.toInt uF + Int32.toInt (1 : Int32) := ta_add _ _ (by omega)
        rw [← ev47] at f48
        intro v49 ev49
        have f50 : Int32.toInt (v47 - v47 / 13 * 13) = Int32.toInt v47 % 13 := ti_rem _ _ (by decide) (by omega) (by decide)
        rw [← ev49] at f50
        intro v51 ev51
        have f52 : Int32.toInt (oE + 1) = Int32.toInt oE + Int32.toInt (1 : Int32) := ta_add _ _ (by omega)
        rw [← ev51] at f52
        intro v53 ev53
        have f54 := ti_min (12 : Int32) v51
        have hv53 := congrArg Int32.toInt ev53
        exact hpost _ _ _ _ _ _ _ h_r45 (by omega) (by omega) e39 e41
    · skip
      have c4 := mt (fa_le _ _).mpr c4
      exfalso; omega
set_option maxHeartbeats 8000000 in
set_option maxRecDepth 200000 in
theorem t_X9_sleep {post : Int32 → Int32 → Int32 → Int32 → Int32 → Int32 → Int32 → Int32 → (Nat → Int32) → Prop} {jC eO eW dO fJ fY jD nG oE uF : Int32} {sG : Nat → Int32} (h_no_ladder : -1 ≤ Int32.toInt fJ ∧ Int32.toInt fJ ≤ 7) (h_no_today : 0 ≤ Int32.toInt jD ∧ Int32.toInt jD ≤ 9) (h_pa_undoable : 0 ≤ Int32.toInt oE ∧ Int32.toInt oE ≤ 12) (h_pa_free : 0 ≤ Int32.toInt uF ∧ Int32.toInt uF ≤ 12) (e0_pa_cells : ∀ k : Nat, k % 8 = 4 → -1 ≤ Int32.toInt (sG k) ∧ Int32.toInt (sG k) ≤ 7) (e1_pa_cells : ∀ k : Nat, k % 8 = 6 → 0 ≤ Int32.toInt (sG k) ∧ Int32.toInt (sG k) ≤ 9) (hpost : ∀ (r : Int32) (no_apron' : Int32) (no_basket' : Int32) (no_ladder' : Int32) (no_today' : Int32) (no_clock' : Int32) (pa_undoable' : Int32) (pa_free' : Int32) (pa_cells' : Nat → Int32), (-1 ≤ Int32.toInt r ∧ Int32.toInt r ≤ 9) → (-1 ≤ Int32.toInt no_ladder' ∧ Int32.toInt no_ladder' ≤ 7) → (1 ≤ Int32.toInt no_today' ∧ Int32.toInt no_today' ≤ 9) → (0 ≤ Int32.toInt pa_undoable' ∧ Int32.toInt pa_undoable' ≤ 12) → (0 ≤ Int32.toInt pa_free' ∧ Int32.toInt pa_free' ≤ 12) → (∀ k : Nat, k % 8 = 4 → -1 ≤ Int32.toInt (pa_cells' k) ∧ Int32.toInt (pa_cells' k) ≤ 7) → (∀ k : Nat, k % 8 = 6 → 0 ≤ Int32.toInt (pa_cells' k) ∧ Int32.toInt (pa_cells' k) ≤ 9) → post r no_apron' no_basket' no_ladder' no_today' no_clock' pa_undoable' pa_free' pa_cells') : wp_X9_sleep post jC eO eW dO fJ fY jD nG oE uF sG := by
  have l0 := li_m1
  have l1 := li_0
  have l2 := li_1
  have l3 := li_104
  have l4 := li_12
  have l5 := li_13
  have l6 := li_2
  have l7 := li_3
  have l8 := li_4
  have l9 := li_5
  have l10 := li_6
  have l11 := li_7
  have l12 := li_8
  have l13 := li_9
  intro v1 ev1
  have f2 : Int32.toInt (uF * 8) = Int32.toInt uF * 8 := ta_mulc _ _ (by decide) (by omega)
  rw [← ev1] at f2
  refine And.intro (fun c3 => ?_) (fun c3 => ?_)
  · skip
    have c3 := (fa_lt _ _).mp c3
    exfalso; omega
  · skip
    have c3 := mt (fa_lt _ _).mpr c3
    have f5 : Int32.toInt (104 - 8) = Int32.toInt (104 : Int32) - Int32.toInt (8 : Int32) := ta_sub _ _ (by omega)
    refine And.intro (fun c4 => ?_) (fun c4 => ?_)
    · skip
      have c4 := (fa_le _ _).mp c4
      refine And.intro (t_in (by omega)) ?_
      have f7 := tp_r jC
      have e6 : ∀ k : Nat, k % 8 = 4 → -1 ≤ Int32.toInt ((upd sG v1.toNatClampNeg jC) k) ∧ Int32.toInt ((upd sG v1.toNatClampNeg jC) k) ≤ 7 := t_updc (C := fun k => k % 8 = 4) e0_pa_cells (fun hk => by have e9 : v1.toNatClampNeg = (Int32.toInt v1).toNat := rfl; have hk : v1.toNatClampNeg % 8 = 4 := hk; omega)
      have e8 : ∀ k : Nat, k % 8 = 6 → 0 ≤ Int32.toInt ((upd sG v1.toNatClampNeg jC) k) ∧ Int32.toInt ((upd sG v1.toNatClampNeg jC) k) ≤ 9 := t_updc (C := fun k => k % 8 = 6) e1_pa_cells (fun hk => by have e9 : v1.toNatClampNeg = (Int32.toInt v1).toNat := rfl; have hk : v1.toNatClampNeg % 8 = 6 := hk; omega)
      intro v9 ev9
      have f10 : Int32.toInt (v1 + 1) = Int32.toInt v1 + Int32.toInt (1 : Int32) := ta_add _ _ (by omega)
      rw [← ev9] at f10
      refine And.intro (t_in (by omega)) ?_
      have f12 := tp_r eO
      have e11 : ∀ k : Nat, k % 8 = 4 → -1 ≤ Int32.toInt ((upd (upd sG v1.toNatClampNeg jC) v9.toNatClampNeg eO) k) ∧ Int32.toInt ((upd (upd sG v1.toNatClampNeg jC) v9.toNatClampNeg eO) k) ≤ 7 := t_updc (C := fun k => k % 8 = 4) e6 (fun hk => by have e9 : v9.toNatClampNeg = (Int32.toInt v9).toNat := rfl; have hk : v9.toNatClampNeg % 8 = 4 := hk; omega)
      have e13 : ∀ k : Nat, k % 8 = 6 → 0 ≤ Int32.toInt ((upd (upd sG v1.toNatClampNeg jC) v9.toNatClampNeg eO) k) ∧ Int32.toInt ((upd (upd sG v1.toNatClampNeg jC) v9.toNatClampNeg eO) k) ≤ 9 := t_updc (C := fun k => k % 8 = 6) e8 (fun hk => by have e9 : v9.toNatClampNeg = (Int32.toInt v9).toNat := rfl; have hk : v9.toNatClampNeg % 8 = 6 := hk; omega)
      intro v14 ev14
      have f15 : Int32.toInt (v1 + 2) = Int32.toInt v1 + Int32.toInt (2 : Int32) := ta_add _ _ (by omega)
      rw [← ev14] at f15
      refine And.intro (t_in (by omega)) ?_
      have f17 := tp_r eW
      have e16 : ∀ k : Nat, k % 8 = 4 → -1 ≤ Int32.toInt ((upd (upd (upd sG v1.toNatClampNeg jC) v9.toNatClampNeg eO) v14.toNatClampNeg eW) k) ∧ Int32.toInt ((upd (upd (upd sG v1.toNatClampNeg jC) v9.toNatClampNeg eO) v14.toNatClampNeg eW) k) ≤ 7 := t_updc (C := fun k => k % 8 = 4) e11 (fun hk => by have e9 : v14.toNatClampNeg = (Int32.toInt v14).toNat := rfl; have hk : v14.toNatClampNeg % 8 = 4 := hk; omega)
      have e18 : ∀ k : Nat, k % 8 = 6 → 0 ≤ Int32.toInt ((upd (upd (upd sG v1.toNatClampNeg jC) v9.toNatClampNeg eO) v14.toNatClampNeg eW) k) ∧ Int32.toInt ((upd (upd (upd sG v1.toNatClampNeg jC) v9.toNatClampNeg eO) v14.toNatClampNeg eW) k) ≤ 9 := t_updc (C := fun k => k % 8 = 6) e13 (fun hk => by have e9 : v14.toNatClampNeg = (Int32.toInt v14).toNat := rfl; have hk : v14.toNatClampNeg % 8 = 6 := hk; omega)
      intro v19 ev19
      have f20 : Int32.toInt (v1 + 3) = Int32.toInt v1 + Int32.toInt (3 : Int32) := ta_add _ _ (by omega)
      rw [← ev19] at f20
      refine And.intro (t_in (by omega)) ?_
      have f22 := tp_r dO
      have e21 : ∀ k : Nat, k % 8 = 4 → -1 ≤ Int32.toInt ((upd (upd (upd (upd sG v1.toNatClampNeg jC) v9.toNatClampNeg eO) v14.toNatClampNeg eW) v19.toNatClampNeg dO) k) ∧ Int32.toInt ((upd (upd (upd (upd sG v1.toNatClampNeg jC) v9.toNatClampNeg eO) v14.toNatClampNeg eW) v19.toNatClampNeg dO) k) ≤ 7 := t_updc (C := fun k => k % 8 = 4) e16 (fun hk => by have e9 : v19.toNatClampNeg = (Int32.toInt v19).toNat := rfl; have hk : v19.toNatClampNeg % 8 = 4 := hk; omega)
      have e23 : ∀ k : Nat, k % 8 = 6 → 0 ≤ Int32.toInt ((upd (upd (upd (upd sG v1.toNatClampNeg jC) v9.toNatClampNeg eO) v14.toNatClampNeg eW) v19.toNatClampNeg dO) k) ∧ Int32.toInt ((upd (upd (upd (upd sG v1.toNatClampNeg jC) v9.toNatClampNeg eO) v14.toNatClampNeg eW) v19.toNatClampNeg dO) k) ≤ 9 := t_updc (C := fun k => k % 8 = 6) e18 (fun hk => by have e9 : v19.toNatClampNeg = (Int32.toInt v19).toNat := rfl; have hk : v19.toNatClampNeg % 8 = 6 := hk; omega)
      intro v24 ev24
      have f25 : Int32.toInt (v1 + 4) = Int32.toInt v1 + Int32.toInt (4 : Int32) := ta_add _ _ (by omega)
      rw [← ev24] at f25
      refine And.intro (t_in (by omega)) ?_
      have e26 : ∀ k : Nat, k % 8 = 4 → -1 ≤ Int32.toInt ((upd (upd (upd (upd (upd sG v1.toNatClampNeg jC) v9.toNatClampNeg eO) v14.toNatClampNeg eW) v19.toNatClampNeg dO) v24.toNatClampNeg fJ) k) ∧ Int32.toInt ((upd (upd (upd (upd (upd sG v1.toNatClampNeg jC) v9.toNatClampNeg eO) v14.toNatClampNeg eW) v19.toNatClampNeg dO) v24.toNatClampNeg fJ) k) ≤ 7 := t_updc (C := fun k => k % 8 = 4) e21 (fun hk => by have e9 : v24.toNatClampNeg = (Int32.toInt v24).toNat := rfl; have hk : v24.toNatClampNeg % 8 = 4 := hk; omega)
      have e27 : ∀ k : Nat, k % 8 = 6 → 0 ≤ Int32.toInt ((upd (upd (upd (upd (upd sG v1.toNatClampNeg jC) v9.toNatClampNeg eO) v14.toNatClampNeg eW) v19.toNatClampNeg dO) v24.toNatClampNeg fJ) k) ∧ Int32.toInt ((upd (upd (upd (upd (upd sG v1.toNatClampNeg jC) v9.toNatClampNeg eO) v14.toNatClampNeg eW) v19.toNatClampNeg dO) v24.toNatClampNeg fJ) k) ≤ 9 := t_updc (C := fun k => k % 8 = 6) e23 (fun hk => by have e9 : v24.toNatClampNeg = (Int32.toInt v24).toNat := rfl; have hk : v24.toNatClampNeg % 8 = 6 := hk; omega)
      intro v28 ev28
      have f29 : Int32.toInt (v1 + 5) = Int32.toInt v1 + Int32.toInt (5 : Int32) := ta_add _ _ (by omega)
      rw [← ev28] at f29
      refine And.intro (t_in (by omega)) ?_
      have f31 := tp_r fY
      have e30 : ∀ k : Nat, k % 8 = 4 → -1 ≤ Int32.toInt ((upd (upd (upd (upd (upd (upd sG v1.toNatClampNeg jC) v9.toNatClampNeg eO) v14.toNatClampNeg eW) v19.toNatClampNeg dO) v24.toNatClampNeg fJ) v28.toNatClampNeg fY) k) ∧ Int32.toInt ((upd (upd (upd (upd (upd (upd sG v1.toNatClampNeg jC) v9.toNatClampNeg eO) v14.toNatClampNeg eW) v19.toNatClampNeg dO) v24.toNatClampNeg fJ) v28.toNatClampNeg fY) k) ≤ 7 := t_updc (C := fun k => k % 8 = 4) e26 (fun hk => by have e9 : v28.toNatClampNeg = (Int32.toInt v28).toNat := rfl; have hk : v28.toNatClampNeg % 8 = 4 := hk; omega)
      have e32 : ∀ k : Nat, k % 8 = 6 → 0 ≤ Int32.toInt ((upd (upd (upd (upd (upd (upd sG v1.toNatClampNeg jC) v9.toNatClampNeg eO) v14.toNatClampNeg eW) v19.toNatClampNeg dO) v24.toNatClampNeg fJ) v28.toNatClampNeg fY) k) ∧ Int32.toInt ((upd (upd (upd (upd (upd (upd sG v1.toNatClampNeg jC) v9.toNatClampNeg eO) v14.toNatClampNeg eW) v19.toNatClampNeg dO) v24.toNatClampNeg fJ) v28.toNatClampNeg fY) k) ≤ 9 := t_updc (C := fun k => k % 8 = 6) e27 (fun hk => by have e9 : v28.toNatClampNeg = (Int32.toInt v28).toNat := rfl; have hk : v28.toNatClampNeg % 8 = 6 := hk; omega)
      intro v33 ev33
      have f34 : Int32.toInt (v1 + 6) = Int32.toInt v1 + Int32.toInt (6 : Int32) := ta_add _ _ (by omega)
      rw [← ev33] at f34
      refine And.intro (t_in (by omega)) ?_
      have e35 : ∀ k : Nat, k % 8 = 4 → -1 ≤ Int32.toInt ((upd (upd (upd (upd (upd (upd (upd sG v1.toNatClampNeg jC) v9.toNatClampNeg eO) v14.toNatClampNeg eW) v19.toNatClampNeg dO) v24.toNatClampNeg fJ) v28.toNatClampNeg fY) v33.toNatClampNeg jD) k) ∧ Int32.toInt ((upd (upd (upd (upd (upd (upd (upd sG v1.toNatClampNeg jC) v9.toNatClampNeg eO) v14.toNatClampNeg eW) v19.toNatClampNeg dO) v24.toNatClampNeg fJ) v28.toNatClampNeg fY) v33.toNatClampNeg jD) k) ≤ 7 := t_updc (C := fun k => k % 8 = 4) e30 (fun hk => by have e9 : v33.toNatClampNeg = (Int32.toInt v33).toNat := rfl; have hk : v33.toNatClampNeg % 8 = 4 := hk; omega)
      have e36 : ∀ k : Nat, k % 8 = 6 → 0 ≤ Int32.toInt ((upd (upd (upd (upd (upd (upd (upd sG v1.toNatClampNeg jC) v9.toNatClampNeg eO) v14.toNatClampNeg eW) v19.toNatClampNeg dO) v24.toNatClampNeg fJ) v28.toNatClampNeg fY) v33.toNatClampNeg jD) k) ∧ Int32.toInt ((upd (upd (upd (upd (upd (upd (upd sG v1.toNatClampNeg jC) v9.toNatClampNeg eO) v14.toNatClampNeg eW) v19.toNatClampNeg dO) v24.toNatClampNeg fJ) v28.toNatClampNeg fY) v33.toNatClampNeg jD) k) ≤ 9 := t_updc (C := fun k => k % 8 = 6) e32 (fun hk => by have e9 : v33.toNatClampNeg = (Int32.toInt v33).toNat := rfl; have hk : v33.toNatClampNeg % 8 = 6 := hk; omega)
      intro v37 ev37
      have f38 : Int32.toInt (v1 + 7) = Int32.toInt v1 + Int32.toInt (7 : Int32) := ta_add _ _ (by omega)
      rw [← ev37] at f38
      refine And.intro (t_in (by omega)) ?_
      have f40 := tp_r nG
      have e39 : ∀ k : Nat, k % 8 = 4 → -1 ≤ Int32.toInt ((upd (upd (upd (upd (upd (upd (upd (upd sG v1.toNatClampNeg jC) v9.toNatClampNeg eO) v14.toNatClampNeg eW) v19.toNatClampNeg dO) v24.toNatClampNeg fJ) v28.toNatClampNeg fY) v33.toNatClampNeg jD) v37.toNatClampNeg nG) k) ∧ Int32.toInt ((upd (upd (upd (upd (upd (upd (upd (upd sG v1.toNatClampNeg jC) v9.toNatClampNeg eO) v14.toNatClampNeg eW) v19.toNatClampNeg dO) v24.toNatClampNeg fJ) v28.toNatClampNeg fY) v33.toNatClampNeg jD) v37.toNatClampNeg nG) k) ≤ 7 := t_updc (C := fun k => k % 8 = 4) e35 (fun hk => by have e9 : v37.toNatClampNeg = (Int32.toInt v37).toNat := rfl; have hk : v37.toNatClampNeg % 8 = 4 := hk; omega)
      have e41 : ∀ k : Nat, k % 8 = 6 → 0 ≤ Int32.toInt ((upd (upd (upd (upd (upd (upd (upd (upd sG v1.toNatClampNeg jC) v9.toNatClampNeg eO) v14.toNatClampNeg eW) v19.toNatClampNeg dO) v24.toNatClampNeg fJ) v28.toNatClampNeg fY) v33.toNatClampNeg jD) v37.toNatClampNeg nG) k) ∧ Int32.toInt ((upd (upd (upd (upd (upd (upd (upd (upd sG v1.toNatClampNeg jC) v9.toNatClampNeg eO) v14.toNatClampNeg eW) v19.toNatClampNeg dO) v24.toNatClampNeg fJ) v28.toNatClampNeg fY) v33.toNatClampNeg jD) v37.toNatClampNeg nG) k) ≤ 9 := t_updc (C := fun k => k % 8 = 6) e36 (fun hk => by have e9 : v37.toNatClampNeg = (Int32.toInt v37).toNat := rfl; have hk : v37.toNatClampNeg % 8 = 6 := hk; omega)
      refine And.intro (fun c42 => ?_) (fun c42 => ?_)
      · skip
        have c42 := (fa_lt _ _).mp c42
        intro v43 ev43
        have f44 : Int32.toInt (jD + 1) = Int32.toInt jD + Int32.toInt (1 : Int32) := ta_add _ _ (by omega)
        rw [← ev43] at f44
        intro v45 ev45
        refine And.intro (fun c46 => ?_) (fun c46 => ?_)
        · skip
          have c46 := (fa_lt _ _).mp c46
          exfalso; omega
        · skip
          have c46 := mt (fa_lt _ _).mpr c46
          intro v47 ev47
          have f48 : Int32.toInt (uF + 1) = Int32.toInt uF + Int32.toInt (1 : Int32) := ta_add _ _ (by omega)
          rw [← ev47] at f48
          intro v49 ev49
          have f50 : Int32.toInt (v47 - v47 / 13 * 13) = Int32.toInt v47 % 13 := ti_rem _ _ (by decide) (by omega) (by decide)
          rw [← ev49] at f50
          intro v51 ev51
          have f52 : Int32.toInt (oE + 1) = Int32.toInt oE + Int32.toInt (1 : Int32) := ta_add _ _ (by omega)
          rw [← ev51] at f52
          intro v53 ev53
          have f54 := ti_min (12 : Int32) v51
          have hv53 := congrArg Int32.toInt ev53
          exact hpost _ _ _ _ _ _ _ _ _ (by omega) (by omega) (by omega) (by omega) (by omega) e39 e41
      · skip
        have c42 := mt (fa_lt _ _).mpr c42
        refine And.intro (fun _ => ?_) (fun h9 => absurd h9 (by decide))
        exact hpost _ _ _ _ _ _ _ _ _ (by omega) h_no_ladder (by omega) h_pa_undoable h_pa_free e39 e41
    · skip
      have c4 := mt (fa_le _ _).mpr c4
      exfalso; omega
set_option maxHeartbeats 8000000 in
set_option maxRecDepth 200000 in
theorem ts_X9_doAct_143 {post : Int32 → Int32 → Int32 → Int32 → Int32 → Int32 → Int32 → Int32 → Int32 → (Nat → Int32) → (Nat → Int32) → Prop} (bZ bD : Int32) (wD gF pE qA nJ nY dQ : Nat → Int32) (pG : Int32) (oF : Nat → Int32) (h_tr_fruits : 0 ≤ Int32.toInt bZ ∧ Int32.toInt bZ ≤ 16) (h_tr_standings : 0 ≤ Int32.toInt bD ∧ Int32.toInt bD ≤ 8) (h_ru_length : 0 ≤ Int32.toInt pG ∧ Int32.toInt pG ≤ 40) (hpost : ∀ (r : Int32) (no_apron' : Int32) (no_basket' : Int32) (no_ground' : Int32) (no_bruised' : Int32) (no_ladder' : Int32) (no_helper' : Int32) (no_today' : Int32) (no_clock' : Int32) (ru_given' : Nat → Int32) (ru_stack' : Nat → Int32), (-1 ≤ Int32.toInt no_ladder' ∧ Int32.toInt no_ladder' ≤ 7) → (0 ≤ Int32.toInt no_today' ∧ Int32.toInt no_today' ≤ 9) → post r no_apron' no_basket' no_ground' no_bruised' no_ladder' no_helper' no_today' no_clock' ru_given' ru_stack') (jC eO eW dO fJ fY jD nG : Int32) (qO qQ : Nat → Int32) (h_no_ladder : -1 ≤ Int32.toInt fJ ∧ Int32.toInt fJ ≤ 7) (h_no_today : 0 ≤ Int32.toInt jD ∧ Int32.toInt jD ≤ 9) : ws_X9_doAct_143 post bZ bD wD gF pE qA nJ nY dQ pG oF jC eO eW dO fJ fY jD nG qO qQ := by
  have l0 := li_m1
  have l1 := li_1
  have l2 := li_9
  refine And.intro (fun c1 => ?_) (fun c1 => ?_)
  · skip
    have c1 := (fa_lt _ _).mp c1
    intro v2 ev2
    have f3 : Int32.toInt (jD + 1) = Int32.toInt jD + Int32.toInt (1 : Int32) := ta_add _ _ (by omega)
    rw [← ev2] at f3
    intro v4 ev4
    exact hpost _ _ _ _ _ _ _ _ _ _ _ (by omega) (by omega)
  · skip
    have c1 := mt (fa_lt _ _).mpr c1
    exact hpost _ _ _ _ _ _ _ _ _ _ _ h_no_ladder h_no_today
set_option maxHeartbeats 8000000 in
set_option maxRecDepth 200000 in
theorem t_X9_doAct {post : Int32 → Int32 → Int32 → Int32 → Int32 → Int32 → Int32 → Int32 → Int32 → (Nat → Int32) → (Nat → Int32) → Prop} {p0 p1 bZ bD : Int32} {wD gF pE qA nJ nY dQ : Nat → Int32} {jC eO eW dO fJ fY jD nG pG : Int32} {qO qQ oF : Nat → Int32} (h_tr_fruits : 0 ≤ Int32.toInt bZ ∧ Int32.toInt bZ ≤ 16) (h_tr_standings : 0 ≤ Int32.toInt bD ∧ Int32.toInt bD ≤ 8) (h_no_ladder : -1 ≤ Int32.toInt fJ ∧ Int32.toInt fJ ≤ 7) (h_no_today : 0 ≤ Int32.toInt jD ∧ Int32.toInt jD ≤ 9) (h_ru_length : 0 ≤ Int32.toInt pG ∧ Int32.toInt pG ≤ 40) (hpost : ∀ (r : Int32) (no_apron' : Int32) (no_basket' : Int32) (no_ground' : Int32) (no_bruised' : Int32) (no_ladder' : Int32) (no_helper' : Int32) (no_today' : Int32) (no_clock' : Int32) (ru_given' : Nat → Int32) (ru_stack' : Nat → Int32), (-1 ≤ Int32.toInt no_ladder' ∧ Int32.toInt no_ladder' ≤ 7) → (0 ≤ Int32.toInt no_today' ∧ Int32.toInt no_today' ≤ 9) → post r no_apron' no_basket' no_ground' no_bruised' no_ladder' no_helper' no_today' no_clock' ru_given' ru_stack') : wp_X9_doAct post p0 p1 bZ bD wD gF pE qA nJ nY dQ jC eO eW dO fJ fY jD nG pG qO qQ oF := by
  have l0 := li_m1
  have l1 := li_0
  have l2 := li_100
  have l3 := li_104
  have l4 := li_107
  have l5 := li_109
  have l6 := li_111
  have l7 := li_112
  have l8 := li_252645135
  have l9 := li_858993459
  have l10 := li_97
  have l11 := li_9999
  have f5 := tp_r p0
  refine And.intro (fun c6 => ?_) ?_
  · skip
    have c6 := (fa_eq _ _).mp c6
    refine t_X9_isYesOrNo  (fun r7 h_r7 => ?_)
    refine And.intro (fun c8 => ?_) (fun c8 => ?_)
    · skip
      have c8 := mt (fa_eq _ _).mpr c8
      exact hpost _ _ _ _ _ _ _ _ _ _ _ h_no_ladder h_no_today
    · skip
      have c8 := (fa_eq _ _).mp c8
      exact hpost _ _ _ _ _ _ _ _ _ _ _ h_no_ladder h_no_today
  refine And.intro (fun c9 => ?_) ?_
  · skip
    have c9 := (fa_eq _ _).mp c9
    refine And.intro (fun c10 => ?_) (fun c10 => ?_)
    · skip
      have c10 := (fa_eq _ _).mp c10
      exact hpost _ _ _ _ _ _ _ _ _ _ _ h_no_ladder h_no_today
    · skip
      have c10 := mt (fa_eq _ _).mpr c10
      have f12 := tp_r jC
      refine And.intro (fun c11 => ?_) (fun c11 => ?_)
      · skip
        have c11 := mt (fa_eq _ _).mpr c11
        intro v13 ev13
        intro v14 ev14
        have hv14 := congrArg Int32.toInt ev14
        intro v16 ev16
        have f17 := ti_andr v14 858993459 (by omega)
        have hv16 := congrArg Int32.toInt ev16
        intro v18 ev18
        intro v19 ev19
        have f21 := ti_andr v18 858993459 (by omega)
        have f20 : Int32.toInt (v16 + (v18 &&& 858993459)) = Int32.toInt v16 + Int32.toInt (v18 &&& 858993459) := ta_add _ _ (by omega)
        rw [← ev19] at f20
        intro v22 ev22
        have hv22 := congrArg Int32.toInt ev22
        intro v24 ev24
        have f25 := ti_andr v22 252645135 (by omega)
        have hv24 := congrArg Int32.toInt ev24
        intro v26 ev26
        have hv26 := congrArg Int32.toInt ev26
        intro v28 ev28
        have hv28 := congrArg Int32.toInt ev28
        intro v30 ev30
        refine And.intro (t_in (by omega)) ?_
        intro v31 ev31
        have hv31 := congrArg Int32.toInt ev31
        intro v33 ev33
        have hv33 := congrArg Int32.toInt ev33
        intro v35 ev35
        have hv35 := congrArg Int32.toInt ev35
        intro v37 ev37
        have f38 := tp_r (if v35 < 9999 then v35 else 9999)
        have f40 := tp_r v35
        have f39 := ti_min (9999 : Int32) v35
        have hv37 := congrArg Int32.toInt ev37
        exact hpost _ _ _ _ _ _ _ _ _ _ _ h_no_ladder h_no_today
      · skip
        have c11 := (fa_eq _ _).mp c11
        exact hpost _ _ _ _ _ _ _ _ _ _ _ h_no_ladder h_no_today
  refine And.intro (fun c41 => ?_) ?_
  · skip
    have c41 := (fa_eq _ _).mp c41
    refine t_X0_pickFruit h_tr_fruits h_no_ladder h_no_today h_ru_length (fun r47 no_apron_42 no_bruised_43 no_clock_44 ru_given_45 ru_stack_46 h_r47 => ?_)
    exact hpost _ _ _ _ _ _ _ _ _ _ _ h_no_ladder h_no_today
  refine And.intro (fun c48 => ?_) ?_
  · skip
    have c48 := (fa_eq _ _).mp c48
    refine t_X0_shakeTree h_tr_fruits h_no_ladder h_no_today (fun r52 no_ground_49 no_bruised_50 no_clock_51 h_r52 => ?_)
    exact hpost _ _ _ _ _ _ _ _ _ _ _ h_no_ladder h_no_today
  refine And.intro (fun c53 => ?_) ?_
  · skip
    have c53 := (fa_eq _ _).mp c53
    refine t_X0_setLadder h_tr_standings h_no_ladder (fun r58 no_apron_54 no_basket_55 no_ladder_56 no_clock_57 h_no_ladder_56 => ?_)
    exact hpost _ _ _ _ _ _ _ _ _ _ _ h_no_ladder_56 h_no_today
  refine And.intro (fun c59 => ?_) ?_
  · skip
    have c59 := (fa_eq _ _).mp c59
    refine t_X9_isYesOrNo  (fun r60 h_r60 => ?_)
    refine And.intro (fun c61 => ?_) (fun c61 => ?_)
    · skip
      have c61 := mt (fa_eq _ _).mpr c61
      exact hpost _ _ _ _ _ _ _ _ _ _ _ h_no_ladder h_no_today
    · skip
      have c61 := (fa_eq _ _).mp c61
      exact hpost _ _ _ _ _ _ _ _ _ _ _ h_no_ladder h_no_today
  refine And.intro (fun c62 => ?_) ?_
  · skip
    have c62 := (fa_eq _ _).mp c62
    refine t_X0_pickFruit h_tr_fruits h_no_ladder h_no_today h_ru_length (fun r68 no_apron_63 no_bruised_64 no_clock_65 ru_given_66 ru_stack_67 h_r68 => ?_)
    exact hpost _ _ _ _ _ _ _ _ _ _ _ h_no_ladder h_no_today
  intro c69 c70 c71 c72 c73 c74 c75
  have c69 := mt (fa_eq _ _).mpr c69
  have c70 := mt (fa_eq _ _).mpr c70
  have c71 := mt (fa_eq _ _).mpr c71
  have c72 := mt (fa_eq _ _).mpr c72
  have c73 := mt (fa_eq _ _).mpr c73
  have c74 := mt (fa_eq _ _).mpr c74
  have c75 := mt (fa_eq _ _).mpr c75
  have f76 := tp_r jC
  have f77 := tp_r eO
  have f78 := tp_r eW
  have f79 := tp_r dO
  have f80 := tp_r fY
  have f81 := tp_r nG
  exact ts_X9_doAct_143 bZ bD wD gF pE qA nJ nY dQ pG oF h_tr_fruits h_tr_standings h_ru_length hpost jC eO eW dO fJ fY jD nG qO qQ h_no_ladder h_no_today
set_option maxHeartbeats 8000000 in
set_option maxRecDepth 200000 in
theorem ts_X9_doActs_118 {post : Int32 → Int32 → Int32 → Int32 → Int32 → Int32 → Int32 → Int32 → Int32 → (Nat → Int32) → (Nat → Int32) → Int32 → Int32 → (Nat → Int32) → Int32 → (Nat → Int32) → Prop} (vZ : Nat → Int32) (bZ bD : Int32) (wD gF pE qA nJ nY dQ : Nat → Int32) (pG : Int32) (oF : Nat → Int32) (h_tr_fruits : 0 ≤ Int32.toInt bZ ∧ Int32.toInt bZ ≤ 16) (h_tr_standings : 0 ≤ Int32.toInt bD ∧ Int32.toInt bD ≤ 8) (h_ru_length : 0 ≤ Int32.toInt pG ∧ Int32.toInt pG ≤ 40) (hpost : ∀ (r : Int32) (no_apron' : Int32) (no_basket' : Int32) (no_ground' : Int32) (no_bruised' : Int32) (no_ladder' : Int32) (no_helper' : Int32) (no_today' : Int32) (no_clock' : Int32) (ru_given' : Nat → Int32) (ru_stack' : Nat → Int32) (pa_undoable' : Int32) (pa_free' : Int32) (pa_cells' : Nat → Int32) (ro_size' : Int32) (ro_numbers' : Nat → Int32), (-1 ≤ Int32.toInt no_ladder' ∧ Int32.toInt no_ladder' ≤ 7) → (0 ≤ Int32.toInt no_today' ∧ Int32.toInt no_today' ≤ 9) → (0 ≤ Int32.toInt pa_undoable' ∧ Int32.toInt pa_undoable' ≤ 12) → (0 ≤ Int32.toInt pa_free' ∧ Int32.toInt pa_free' ≤ 12) → (∀ k : Nat, k % 8 = 4 → -1 ≤ Int32.toInt (pa_cells' k) ∧ Int32.toInt (pa_cells' k) ≤ 7) → (∀ k : Nat, k % 8 = 6 → 0 ≤ Int32.toInt (pa_cells' k) ∧ Int32.toInt (pa_cells' k) ≤ 9) → (2 ≤ Int32.toInt ro_size' ∧ Int32.toInt ro_size' ≤ 2) → post r no_apron' no_basket' no_ground' no_bruised' no_ladder' no_helper' no_today' no_clock' ru_given' ru_stack' pa_undoable' pa_free' pa_cells' ro_size' ro_numbers') (x2 x3 x4 jC eO eW dO fJ fY jD nG : Int32) (qO qQ : Nat → Int32) (oE uF : Int32) (sG : Nat → Int32) (qF : Int32) (jJ : Nat → Int32) (h_x4 : 0 ≤ Int32.toInt x4 ∧ Int32.toInt x4 ≤ 1) (h_no_ladder : -1 ≤ Int32.toInt fJ ∧ Int32.toInt fJ ≤ 7) (h_no_today : 0 ≤ Int32.toInt jD ∧ Int32.toInt jD ≤ 9) (h_pa_undoable : 0 ≤ Int32.toInt oE ∧ Int32.toInt oE ≤ 12) (h_pa_free : 0 ≤ Int32.toInt uF ∧ Int32.toInt uF ≤ 12) (e0_pa_cells : ∀ k : Nat, k % 8 = 4 → -1 ≤ Int32.toInt (sG k) ∧ Int32.toInt (sG k) ≤ 7) (e1_pa_cells : ∀ k : Nat, k % 8 = 6 → 0 ≤ Int32.toInt (sG k) ∧ Int32.toInt (sG k) ≤ 9) (h_ro_size : 0 ≤ Int32.toInt qF ∧ Int32.toInt qF ≤ 16) : ws_X9_doActs_118 post vZ bZ bD wD gF pE qA nJ nY dQ pG oF x2 x3 x4 jC eO eW dO fJ fY jD nG qO qQ oE uF sG qF jJ := by
  have l0 := li_0
  have l1 := li_1
  have l2 := li_16
  refine And.intro (fun h9 => absurd h9 (by decide)) (fun _ => ?_)
  refine And.intro (t_in (by omega)) ?_
  intro v1 ev1
  have f2 : Int32.toInt (0 + 1) = Int32.toInt (0 : Int32) + Int32.toInt (1 : Int32) := ta_add _ _ (by omega)
  rw [← ev1] at f2
  refine And.intro (fun c3 => ?_) (fun c3 => ?_)
  · skip
    have c3 := (fa_le _ _).mp c3
    exfalso; omega
  · skip
    have c3 := mt (fa_le _ _).mpr c3
    refine And.intro (t_in (by omega)) ?_
    intro v4 ev4
    have f5 : Int32.toInt (v1 + 1) = Int32.toInt v1 + Int32.toInt (1 : Int32) := ta_add _ _ (by omega)
    rw [← ev4] at f5
    exact hpost _ _ _ _ _ _ _ _ _ _ _ _ _ _ _ _ h_no_ladder h_no_today h_pa_undoable h_pa_free e0_pa_cells e1_pa_cells (by omega)
set_option maxHeartbeats 8000000 in
set_option maxRecDepth 200000 in
theorem ts_X9_doActs_107 {post : Int32 → Int32 → Int32 → Int32 → Int32 → Int32 → Int32 → Int32 → Int32 → (Nat → Int32) → (Nat → Int32) → Int32 → Int32 → (Nat → Int32) → Int32 → (Nat → Int32) → Prop} (vZ : Nat → Int32) (bZ bD : Int32) (wD gF pE qA nJ nY dQ : Nat → Int32) (pG : Int32) (oF : Nat → Int32) (h_tr_fruits : 0 ≤ Int32.toInt bZ ∧ Int32.toInt bZ ≤ 16) (h_tr_standings : 0 ≤ Int32.toInt bD ∧ Int32.toInt bD ≤ 8) (h_ru_length : 0 ≤ Int32.toInt pG ∧ Int32.toInt pG ≤ 40) (hpost : ∀ (r : Int32) (no_apron' : Int32) (no_basket' : Int32) (no_ground' : Int32) (no_bruised' : Int32) (no_ladder' : Int32) (no_helper' : Int32) (no_today' : Int32) (no_clock' : Int32) (ru_given' : Nat → Int32) (ru_stack' : Nat → Int32) (pa_undoable' : Int32) (pa_free' : Int32) (pa_cells' : Nat → Int32) (ro_size' : Int32) (ro_numbers' : Nat → Int32), (-1 ≤ Int32.toInt no_ladder' ∧ Int32.toInt no_ladder' ≤ 7) → (0 ≤ Int32.toInt no_today' ∧ Int32.toInt no_today' ≤ 9) → (0 ≤ Int32.toInt pa_undoable' ∧ Int32.toInt pa_undoable' ≤ 12) → (0 ≤ Int32.toInt pa_free' ∧ Int32.toInt pa_free' ≤ 12) → (∀ k : Nat, k % 8 = 4 → -1 ≤ Int32.toInt (pa_cells' k) ∧ Int32.toInt (pa_cells' k) ≤ 7) → (∀ k : Nat, k % 8 = 6 → 0 ≤ Int32.toInt (pa_cells' k) ∧ Int32.toInt (pa_cells' k) ≤ 9) → (2 ≤ Int32.toInt ro_size' ∧ Int32.toInt ro_size' ≤ 2) → post r no_apron' no_basket' no_ground' no_bruised' no_ladder' no_helper' no_today' no_clock' ru_given' ru_stack' pa_undoable' pa_free' pa_cells' ro_size' ro_numbers') (x2 x3 x4 jC eO eW dO fJ fY jD nG : Int32) (qO qQ : Nat → Int32) (oE uF : Int32) (sG : Nat → Int32) (qF : Int32) (jJ : Nat → Int32) (h_x4 : 0 ≤ Int32.toInt x4 ∧ Int32.toInt x4 ≤ 1) (h_no_ladder : -1 ≤ Int32.toInt fJ ∧ Int32.toInt fJ ≤ 7) (h_no_today : 0 ≤ Int32.toInt jD ∧ Int32.toInt jD ≤ 9) (h_pa_undoable : 0 ≤ Int32.toInt oE ∧ Int32.toInt oE ≤ 12) (h_pa_free : 0 ≤ Int32.toInt uF ∧ Int32.toInt uF ≤ 12) (e0_pa_cells : ∀ k : Nat, k % 8 = 4 → -1 ≤ Int32.toInt (sG k) ∧ Int32.toInt (sG k) ≤ 7) (e1_pa_cells : ∀ k : Nat, k % 8 = 6 → 0 ≤ Int32.toInt (sG k) ∧ Int32.toInt (sG k) ≤ 9) (h_ro_size : 0 ≤ Int32.toInt qF ∧ Int32.toInt qF ≤ 16) : ws_X9_doActs_107 post vZ bZ bD wD gF pE qA nJ nY dQ pG oF x2 x3 x4 jC eO eW dO fJ fY jD nG qO qQ oE uF sG qF jJ := by
  have l0 := li_0
  have l1 := li_1
  have l2 := li_12
  have l3 := li_13
  have f7 := tp_r x2
  refine And.intro (fun c6 => ?_) (fun c6 => ?_)
  · skip
    have c6 := (fa_le _ _).mp c6
    have f8 := tp_r x3
    have f9 := tp_r jC
    have f10 := tp_r eO
    have f11 := tp_r eW
    have f12 := tp_r dO
    have f13 := tp_r fY
    have f14 := tp_r nG
    exact ts_X9_doActs_118 vZ bZ bD wD gF pE qA nJ nY dQ pG oF h_tr_fruits h_tr_standings h_ru_length hpost x2 x3 x4 jC eO eW dO fJ fY jD nG qO qQ oE uF sG qF jJ h_x4 h_no_ladder h_no_today h_pa_undoable h_pa_free e0_pa_cells e1_pa_cells h_ro_size
  · skip
    have c6 := mt (fa_le _ _).mpr c6
    intro v15 ev15
    have f16 : Int32.toInt (uF + 1) = Int32.toInt uF + Int32.toInt (1 : Int32) := ta_add _ _ (by omega)
    rw [← ev15] at f16
    intro v17 ev17
    have f18 : Int32.toInt (v15 - v15 / 13 * 13) = Int32.toInt v15 % 13 := ti_rem _ _ (by decide) (by omega) (by decide)
    rw [← ev17] at f18
    intro v19 ev19
    have f20 : Int32.toInt (oE + 1) = Int32.toInt oE + Int32.toInt (1 : Int32) := ta_add _ _ (by omega)
    rw [← ev19] at f20
    intro v21 ev21
    have f22 := ti_min (12 : Int32) v19
    have hv21 := congrArg Int32.toInt ev21
    have f23 := tp_r x3
    have f24 := tp_r jC
    have f25 := tp_r eO
    have f26 := tp_r eW
    have f27 := tp_r dO
    have f28 := tp_r fY
    have f29 := tp_r nG
    exact ts_X9_doActs_118 vZ bZ bD wD gF pE qA nJ nY dQ pG oF h_tr_fruits h_tr_standings h_ru_length hpost x2 x3 x4 jC eO eW dO fJ fY jD nG qO qQ v21 v17 sG qF jJ h_x4 h_no_ladder h_no_today (by omega) (by omega) e0_pa_cells e1_pa_cells h_ro_size
set_option maxHeartbeats 8000000 in
set_option maxRecDepth 200000 in
theorem ts_X9_doActs_101 {post : Int32 → Int32 → Int32 → Int32 → Int32 → Int32 → Int32 → Int32 → Int32 → (Nat → Int32) → (Nat → Int32) → Int32 → Int32 → (Nat → Int32) → Int32 → (Nat → Int32) → Prop} {K21 : Int32 → Int32 → Int32 → Int32 → Int32 → Int32 → Int32 → Int32 → Int32 → Int32 → Int32 → Int32 → Int32 → (Nat → Int32) → (Nat → Int32) → Int32 → Int32 → (Nat → Int32) → Int32 → (Nat → Int32) → Prop} {n21 : Int} (vZ : Nat → Int32) (bZ bD : Int32) (wD gF pE qA nJ nY dQ : Nat → Int32) (pG : Int32) (oF : Nat → Int32) (h_tr_fruits : 0 ≤ Int32.toInt bZ ∧ Int32.toInt bZ ≤ 16) (h_tr_standings : 0 ≤ Int32.toInt bD ∧ Int32.toInt bD ≤ 8) (h_ru_length : 0 ≤ Int32.toInt pG ∧ Int32.toInt pG ≤ 40) (hpost : ∀ (r : Int32) (no_apron' : Int32) (no_basket' : Int32) (no_ground' : Int32) (no_bruised' : Int32) (no_ladder' : Int32) (no_helper' : Int32) (no_today' : Int32) (no_clock' : Int32) (ru_given' : Nat → Int32) (ru_stack' : Nat → Int32) (pa_undoable' : Int32) (pa_free' : Int32) (pa_cells' : Nat → Int32) (ro_size' : Int32) (ro_numbers' : Nat → Int32), (-1 ≤ Int32.toInt no_ladder' ∧ Int32.toInt no_ladder' ≤ 7) → (0 ≤ Int32.toInt no_today' ∧ Int32.toInt no_today' ≤ 9) → (0 ≤ Int32.toInt pa_undoable' ∧ Int32.toInt pa_undoable' ≤ 12) → (0 ≤ Int32.toInt pa_free' ∧ Int32.toInt pa_free' ≤ 12) → (∀ k : Nat, k % 8 = 4 → -1 ≤ Int32.toInt (pa_cells' k) ∧ Int32.toInt (pa_cells' k) ≤ 7) → (∀ k : Nat, k % 8 = 6 → 0 ≤ Int32.toInt (pa_cells' k) ∧ Int32.toInt (pa_cells' k) ≤ 9) → (2 ≤ Int32.toInt ro_size' ∧ Int32.toInt ro_size' ≤ 2) → post r no_apron' no_basket' no_ground' no_bruised' no_ladder' no_helper' no_today' no_clock' ru_given' ru_stack' pa_undoable' pa_free' pa_cells' ro_size' ro_numbers') (hK21 : ∀ (x1 : Int32) (x2 : Int32) (x3 : Int32) (x4 : Int32) (x5 : Int32) (jC : Int32) (eO : Int32) (eW : Int32) (dO : Int32) (fJ : Int32) (fY : Int32) (jD : Int32) (nG : Int32) (qO : Nat → Int32) (qQ : Nat → Int32) (oE : Int32) (uF : Int32) (sG : Nat → Int32) (qF : Int32) (jJ : Nat → Int32), (-1 ≤ Int32.toInt x1 ∧ Int32.toInt x1 ≤ 30) → (0 ≤ Int32.toInt x4 ∧ Int32.toInt x4 ≤ 1) → (0 ≤ Int32.toInt x5 ∧ Int32.toInt x5 ≤ 30) → (-1 ≤ Int32.toInt fJ ∧ Int32.toInt fJ ≤ 7) → (0 ≤ Int32.toInt jD ∧ Int32.toInt jD ≤ 9) → (0 ≤ Int32.toInt oE ∧ Int32.toInt oE ≤ 12) → (0 ≤ Int32.toInt uF ∧ Int32.toInt uF ≤ 12) → (∀ k : Nat, k % 8 = 4 → -1 ≤ Int32.toInt (sG k) ∧ Int32.toInt (sG k) ≤ 7) → (∀ k : Nat, k % 8 = 6 → 0 ≤ Int32.toInt (sG k) ∧ Int32.toInt (sG k) ≤ 9) → (0 ≤ Int32.toInt qF ∧ Int32.toInt qF ≤ 16) → (30 - Int32.toInt x5 < n21) → K21 x1 x2 x3 x4 x5 jC eO eW dO fJ fY jD nG qO qQ oE uF sG qF jJ) (x1 x2 x3 x4 x5 jC eO eW dO fJ fY jD nG : Int32) (qO qQ : Nat → Int32) (oE uF : Int32) (sG : Nat → Int32) (qF : Int32) (jJ : Nat → Int32) (h_x1 : 1 ≤ Int32.toInt x1 ∧ Int32.toInt x1 ≤ 30) (h_x4 : 0 ≤ Int32.toInt x4 ∧ Int32.toInt x4 ≤ 1) (h_x5 : 0 ≤ Int32.toInt x5 ∧ Int32.toInt x5 ≤ 29) (h_no_ladder : -1 ≤ Int32.toInt fJ ∧ Int32.toInt fJ ≤ 7) (h_no_today : 0 ≤ Int32.toInt jD ∧ Int32.toInt jD ≤ 9) (h_pa_undoable : 0 ≤ Int32.toInt oE ∧ Int32.toInt oE ≤ 12) (h_pa_free : 0 ≤ Int32.toInt uF ∧ Int32.toInt uF ≤ 12) (e0_pa_cells : ∀ k : Nat, k % 8 = 4 → -1 ≤ Int32.toInt (sG k) ∧ Int32.toInt (sG k) ≤ 7) (e1_pa_cells : ∀ k : Nat, k % 8 = 6 → 0 ≤ Int32.toInt (sG k) ∧ Int32.toInt (sG k) ≤ 9) (h_ro_size : 0 ≤ Int32.toInt qF ∧ Int32.toInt qF ≤ 16) (hn21 : 30 - Int32.toInt x5 ≤ n21) : ws_X9_doActs_101 post K21 vZ bZ bD wD gF pE qA nJ nY dQ pG oF x1 x2 x3 x4 x5 jC eO eW dO fJ fY jD nG qO qQ oE uF sG qF jJ := by
  have l0 := li_1
  intro v30 ev30
  have f31 : Int32.toInt (x5 + 1) = Int32.toInt x5 + Int32.toInt (1 : Int32) := ta_add _ _ (by omega)
  rw [← ev30] at f31
  have f32 := tp_r x2
  have f33 := tp_r x3
  have f34 := tp_r jC
  have f35 := tp_r eO
  have f36 := tp_r eW
  have f37 := tp_r dO
  have f38 := tp_r fY
  have f39 := tp_r nG
  exact hK21 x1 x2 x3 x4 v30 jC eO eW dO fJ fY jD nG qO qQ oE uF sG qF jJ (by omega) h_x4 (by omega) h_no_ladder h_no_today h_pa_undoable h_pa_free e0_pa_cells e1_pa_cells h_ro_size (by omega)
set_option maxHeartbeats 8000000 in
set_option maxRecDepth 200000 in
theorem ts_X9_doActs_99 {post : Int32 → Int32 → Int32 → Int32 → Int32 → Int32 → Int32 → Int32 → Int32 → (Nat → Int32) → (Nat → Int32) → Int32 → Int32 → (Nat → Int32) → Int32 → (Nat → Int32) → Prop} {K21 : Int32 → Int32 → Int32 → Int32 → Int32 → Int32 → Int32 → Int32 → Int32 → Int32 → Int32 → Int32 → Int32 → (Nat → Int32) → (Nat → Int32) → Int32 → Int32 → (Nat → Int32) → Int32 → (Nat → Int32) → Prop} {n21 : Int} (vZ : Nat → Int32) (bZ bD : Int32) (wD gF pE qA nJ nY dQ : Nat → Int32) (pG : Int32) (oF : Nat → Int32) (h_tr_fruits : 0 ≤ Int32.toInt bZ ∧ Int32.toInt bZ ≤ 16) (h_tr_standings : 0 ≤ Int32.toInt bD ∧ Int32.toInt bD ≤ 8) (h_ru_length : 0 ≤ Int32.toInt pG ∧ Int32.toInt pG ≤ 40) (hpost : ∀ (r : Int32) (no_apron' : Int32) (no_basket' : Int32) (no_ground' : Int32) (no_bruised' : Int32) (no_ladder' : Int32) (no_helper' : Int32) (no_today' : Int32) (no_clock' : Int32) (ru_given' : Nat → Int32) (ru_stack' : Nat → Int32) (pa_undoable' : Int32) (pa_free' : Int32) (pa_cells' : Nat → Int32) (ro_size' : Int32) (ro_numbers' : Nat → Int32), (-1 ≤ Int32.toInt no_ladder' ∧ Int32.toInt no_ladder' ≤ 7) → (0 ≤ Int32.toInt no_today' ∧ Int32.toInt no_today' ≤ 9) → (0 ≤ Int32.toInt pa_undoable' ∧ Int32.toInt pa_undoable' ≤ 12) → (0 ≤ Int32.toInt pa_free' ∧ Int32.toInt pa_free' ≤ 12) → (∀ k : Nat, k % 8 = 4 → -1 ≤ Int32.toInt (pa_cells' k) ∧ Int32.toInt (pa_cells' k) ≤ 7) → (∀ k : Nat, k % 8 = 6 → 0 ≤ Int32.toInt (pa_cells' k) ∧ Int32.toInt (pa_cells' k) ≤ 9) → (2 ≤ Int32.toInt ro_size' ∧ Int32.toInt ro_size' ≤ 2) → post r no_apron' no_basket' no_ground' no_bruised' no_ladder' no_helper' no_today' no_clock' ru_given' ru_stack' pa_undoable' pa_free' pa_cells' ro_size' ro_numbers') (hK21 : ∀ (x1 : Int32) (x2 : Int32) (x3 : Int32) (x4 : Int32) (x5 : Int32) (jC : Int32) (eO : Int32) (eW : Int32) (dO : Int32) (fJ : Int32) (fY : Int32) (jD : Int32) (nG : Int32) (qO : Nat → Int32) (qQ : Nat → Int32) (oE : Int32) (uF : Int32) (sG : Nat → Int32) (qF : Int32) (jJ : Nat → Int32), (-1 ≤ Int32.toInt x1 ∧ Int32.toInt x1 ≤ 30) → (0 ≤ Int32.toInt x4 ∧ Int32.toInt x4 ≤ 1) → (0 ≤ Int32.toInt x5 ∧ Int32.toInt x5 ≤ 30) → (-1 ≤ Int32.toInt fJ ∧ Int32.toInt fJ ≤ 7) → (0 ≤ Int32.toInt jD ∧ Int32.toInt jD ≤ 9) → (0 ≤ Int32.toInt oE ∧ Int32.toInt oE ≤ 12) → (0 ≤ Int32.toInt uF ∧ Int32.toInt uF ≤ 12) → (∀ k : Nat, k % 8 = 4 → -1 ≤ Int32.toInt (sG k) ∧ Int32.toInt (sG k) ≤ 7) → (∀ k : Nat, k % 8 = 6 → 0 ≤ Int32.toInt (sG k) ∧ Int32.toInt (sG k) ≤ 9) → (0 ≤ Int32.toInt qF ∧ Int32.toInt qF ≤ 16) → (30 - Int32.toInt x5 < n21) → K21 x1 x2 x3 x4 x5 jC eO eW dO fJ fY jD nG qO qQ oE uF sG qF jJ) (x1 x2 x4 x5 k0 k1 jC eO eW dO fJ fY jD nG : Int32) (qO qQ : Nat → Int32) (oE uF : Int32) (sG : Nat → Int32) (qF : Int32) (jJ : Nat → Int32) (h_x1 : 1 ≤ Int32.toInt x1 ∧ Int32.toInt x1 ≤ 30) (h_x4 : 0 ≤ Int32.toInt x4 ∧ Int32.toInt x4 ≤ 0) (h_x5 : 0 ≤ Int32.toInt x5 ∧ Int32.toInt x5 ≤ 29) (h_k1 : 0 ≤ Int32.toInt k1 ∧ Int32.toInt k1 ≤ 1) (h_no_ladder : -1 ≤ Int32.toInt fJ ∧ Int32.toInt fJ ≤ 7) (h_no_today : 0 ≤ Int32.toInt jD ∧ Int32.toInt jD ≤ 9) (h_pa_undoable : 0 ≤ Int32.toInt oE ∧ Int32.toInt oE ≤ 12) (h_pa_free : 0 ≤ Int32.toInt uF ∧ Int32.toInt uF ≤ 12) (e0_pa_cells : ∀ k : Nat, k % 8 = 4 → -1 ≤ Int32.toInt (sG k) ∧ Int32.toInt (sG k) ≤ 7) (e1_pa_cells : ∀ k : Nat, k % 8 = 6 → 0 ≤ Int32.toInt (sG k) ∧ Int32.toInt (sG k) ≤ 9) (h_ro_size : 0 ≤ Int32.toInt qF ∧ Int32.toInt qF ≤ 16) (hn21 : 30 - Int32.toInt x5 ≤ n21) : ws_X9_doActs_99 post K21 vZ bZ bD wD gF pE qA nJ nY dQ pG oF x1 x2 x4 x5 k0 k1 jC eO eW dO fJ fY jD nG qO qQ oE uF sG qF jJ := by
  intro v40 ev40
  have hv40 := congrArg Int32.toInt ev40
  have f42 := tp_r x2
  have f43 := tp_r v40
  have f44 := tp_r jC
  have f45 := tp_r eO
  have f46 := tp_r eW
  have f47 := tp_r dO
  have f48 := tp_r fY
  have f49 := tp_r nG
  exact ts_X9_doActs_101 vZ bZ bD wD gF pE qA nJ nY dQ pG oF h_tr_fruits h_tr_standings h_ru_length hpost hK21 x1 x2 v40 x4 x5 jC eO eW dO fJ fY jD nG qO qQ oE uF sG qF jJ h_x1 (by omega) h_x5 h_no_ladder h_no_today h_pa_undoable h_pa_free e0_pa_cells e1_pa_cells h_ro_size hn21
set_option maxHeartbeats 8000000 in
set_option maxRecDepth 200000 in
theorem ts_X9_doActs_94 {post : Int32 → Int32 → Int32 → Int32 → Int32 → Int32 → Int32 → Int32 → Int32 → (Nat → Int32) → (Nat → Int32) → Int32 → Int32 → (Nat → Int32) → Int32 → (Nat → Int32) → Prop} {K21 : Int32 → Int32 → Int32 → Int32 → Int32 → Int32 → Int32 → Int32 → Int32 → Int32 → Int32 → Int32 → Int32 → (Nat → Int32) → (Nat → Int32) → Int32 → Int32 → (Nat → Int32) → Int32 → (Nat → Int32) → Prop} {n21 : Int} (vZ : Nat → Int32) (bZ bD : Int32) (wD gF pE qA nJ nY dQ : Nat → Int32) (pG : Int32) (oF : Nat → Int32) (h_tr_fruits : 0 ≤ Int32.toInt bZ ∧ Int32.toInt bZ ≤ 16) (h_tr_standings : 0 ≤ Int32.toInt bD ∧ Int32.toInt bD ≤ 8) (h_ru_length : 0 ≤ Int32.toInt pG ∧ Int32.toInt pG ≤ 40) (hpost : ∀ (r : Int32) (no_apron' : Int32) (no_basket' : Int32) (no_ground' : Int32) (no_bruised' : Int32) (no_ladder' : Int32) (no_helper' : Int32) (no_today' : Int32) (no_clock' : Int32) (ru_given' : Nat → Int32) (ru_stack' : Nat → Int32) (pa_undoable' : Int32) (pa_free' : Int32) (pa_cells' : Nat → Int32) (ro_size' : Int32) (ro_numbers' : Nat → Int32), (-1 ≤ Int32.toInt no_ladder' ∧ Int32.toInt no_ladder' ≤ 7) → (0 ≤ Int32.toInt no_today' ∧ Int32.toInt no_today' ≤ 9) → (0 ≤ Int32.toInt pa_undoable' ∧ Int32.toInt pa_undoable' ≤ 12) → (0 ≤ Int32.toInt pa_free' ∧ Int32.toInt pa_free' ≤ 12) → (∀ k : Nat, k % 8 = 4 → -1 ≤ Int32.toInt (pa_cells' k) ∧ Int32.toInt (pa_cells' k) ≤ 7) → (∀ k : Nat, k % 8 = 6 → 0 ≤ Int32.toInt (pa_cells' k) ∧ Int32.toInt (pa_cells' k) ≤ 9) → (2 ≤ Int32.toInt ro_size' ∧ Int32.toInt ro_size' ≤ 2) → post r no_apron' no_basket' no_ground' no_bruised' no_ladder' no_helper' no_today' no_clock' ru_given' ru_stack' pa_undoable' pa_free' pa_cells' ro_size' ro_numbers') (hK21 : ∀ (x1 : Int32) (x2 : Int32) (x3 : Int32) (x4 : Int32) (x5 : Int32) (jC : Int32) (eO : Int32) (eW : Int32) (dO : Int32) (fJ : Int32) (fY : Int32) (jD : Int32) (nG : Int32) (qO : Nat → Int32) (qQ : Nat → Int32) (oE : Int32) (uF : Int32) (sG : Nat → Int32) (qF : Int32) (jJ : Nat → Int32), (-1 ≤ Int32.toInt x1 ∧ Int32.toInt x1 ≤ 30) → (0 ≤ Int32.toInt x4 ∧ Int32.toInt x4 ≤ 1) → (0 ≤ Int32.toInt x5 ∧ Int32.toInt x5 ≤ 30) → (-1 ≤ Int32.toInt fJ ∧ Int32.toInt fJ ≤ 7) → (0 ≤ Int32.toInt jD ∧ Int32.toInt jD ≤ 9) → (0 ≤ Int32.toInt oE ∧ Int32.toInt oE ≤ 12) → (0 ≤ Int32.toInt uF ∧ Int32.toInt uF ≤ 12) → (∀ k : Nat, k % 8 = 4 → -1 ≤ Int32.toInt (sG k) ∧ Int32.toInt (sG k) ≤ 7) → (∀ k : Nat, k % 8 = 6 → 0 ≤ Int32.toInt (sG k) ∧ Int32.toInt (sG k) ≤ 9) → (0 ≤ Int32.toInt qF ∧ Int32.toInt qF ≤ 16) → (30 - Int32.toInt x5 < n21) → K21 x1 x2 x3 x4 x5 jC eO eW dO fJ fY jD nG qO qQ oE uF sG qF jJ) (x1 x2 x4 x5 k0 jC eO eW dO fJ fY jD nG : Int32) (qO qQ : Nat → Int32) (oE uF : Int32) (sG : Nat → Int32) (qF : Int32) (jJ : Nat → Int32) (h_x1 : 1 ≤ Int32.toInt x1 ∧ Int32.toInt x1 ≤ 30) (h_x4 : 0 ≤ Int32.toInt x4 ∧ Int32.toInt x4 ≤ 0) (h_x5 : 0 ≤ Int32.toInt x5 ∧ Int32.toInt x5 ≤ 29) (h_no_ladder : -1 ≤ Int32.toInt fJ ∧ Int32.toInt fJ ≤ 7) (h_no_today : 0 ≤ Int32.toInt jD ∧ Int32.toInt jD ≤ 9) (h_pa_undoable : 0 ≤ Int32.toInt oE ∧ Int32.toInt oE ≤ 12) (h_pa_free : 0 ≤ Int32.toInt uF ∧ Int32.toInt uF ≤ 12) (e0_pa_cells : ∀ k : Nat, k % 8 = 4 → -1 ≤ Int32.toInt (sG k) ∧ Int32.toInt (sG k) ≤ 7) (e1_pa_cells : ∀ k : Nat, k % 8 = 6 → 0 ≤ Int32.toInt (sG k) ∧ Int32.toInt (sG k) ≤ 9) (h_ro_size : 0 ≤ Int32.toInt qF ∧ Int32.toInt qF ≤ 16) (hn21 : 30 - Int32.toInt x5 ≤ n21) : ws_X9_doActs_94 post K21 vZ bZ bD wD gF pE qA nJ nY dQ pG oF x1 x2 x4 x5 k0 jC eO eW dO fJ fY jD nG qO qQ oE uF sG qF jJ := by
  have l0 := li_1
  have f50 := tp_r x2
  have f51 := tp_r k0
  have f52 := tp_r jC
  have f53 := tp_r eO
  have f54 := tp_r eW
  have f55 := tp_r dO
  have f56 := tp_r fY
  have f57 := tp_r nG
  exact ts_X9_doActs_99 vZ bZ bD wD gF pE qA nJ nY dQ pG oF h_tr_fruits h_tr_standings h_ru_length hpost hK21 x1 x2 x4 x5 k0 1 jC eO eW dO fJ fY jD nG qO qQ oE uF sG qF jJ h_x1 h_x4 h_x5 (by omega) h_no_ladder h_no_today h_pa_undoable h_pa_free e0_pa_cells e1_pa_cells h_ro_size hn21
set_option maxHeartbeats 8000000 in
set_option maxRecDepth 200000 in
theorem ts_X9_doActs_21 {post : Int32 → Int32 → Int32 → Int32 → Int32 → Int32 → Int32 → Int32 → Int32 → (Nat → Int32) → (Nat → Int32) → Int32 → Int32 → (Nat → Int32) → Int32 → (Nat → Int32) → Prop} {next : Int32 → Int32 → Int32 → Int32 → Int32 → Int32 → Int32 → Int32 → Int32 → Int32 → Int32 → Int32 → Int32 → (Nat → Int32) → (Nat → Int32) → Int32 → Int32 → (Nat → Int32) → Int32 → (Nat → Int32) → Prop} {n21 : Int} (vZ : Nat → Int32) (bZ bD : Int32) (wD gF pE qA nJ nY dQ : Nat → Int32) (pG : Int32) (oF : Nat → Int32) (h_tr_fruits : 0 ≤ Int32.toInt bZ ∧ Int32.toInt bZ ≤ 16) (h_tr_standings : 0 ≤ Int32.toInt bD ∧ Int32.toInt bD ≤ 8) (h_ru_length : 0 ≤ Int32.toInt pG ∧ Int32.toInt pG ≤ 40) (hpost : ∀ (r : Int32) (no_apron' : Int32) (no_basket' : Int32) (no_ground' : Int32) (no_bruised' : Int32) (no_ladder' : Int32) (no_helper' : Int32) (no_today' : Int32) (no_clock' : Int32) (ru_given' : Nat → Int32) (ru_stack' : Nat → Int32) (pa_undoable' : Int32) (pa_free' : Int32) (pa_cells' : Nat → Int32) (ro_size' : Int32) (ro_numbers' : Nat → Int32), (-1 ≤ Int32.toInt no_ladder' ∧ Int32.toInt no_ladder' ≤ 7) → (0 ≤ Int32.toInt no_today' ∧ Int32.toInt no_today' ≤ 9) → (0 ≤ Int32.toInt pa_undoable' ∧ Int32.toInt pa_undoable' ≤ 12) → (0 ≤ Int32.toInt pa_free' ∧ Int32.toInt pa_free' ≤ 12) → (∀ k : Nat, k % 8 = 4 → -1 ≤ Int32.toInt (pa_cells' k) ∧ Int32.toInt (pa_cells' k) ≤ 7) → (∀ k : Nat, k % 8 = 6 → 0 ≤ Int32.toInt (pa_cells' k) ∧ Int32.toInt (pa_cells' k) ≤ 9) → (2 ≤ Int32.toInt ro_size' ∧ Int32.toInt ro_size' ≤ 2) → post r no_apron' no_basket' no_ground' no_bruised' no_ladder' no_helper' no_today' no_clock' ru_given' ru_stack' pa_undoable' pa_free' pa_cells' ro_size' ro_numbers') (hKn : ∀ (x1 : Int32) (x2 : Int32) (x3 : Int32) (x4 : Int32) (x5 : Int32) (jC : Int32) (eO : Int32) (eW : Int32) (dO : Int32) (fJ : Int32) (fY : Int32) (jD : Int32) (nG : Int32) (qO : Nat → Int32) (qQ : Nat → Int32) (oE : Int32) (uF : Int32) (sG : Nat → Int32) (qF : Int32) (jJ : Nat → Int32), (-1 ≤ Int32.toInt x1 ∧ Int32.toInt x1 ≤ 30) → (0 ≤ Int32.toInt x4 ∧ Int32.toInt x4 ≤ 1) → (0 ≤ Int32.toInt x5 ∧ Int32.toInt x5 ≤ 30) → (-1 ≤ Int32.toInt fJ ∧ Int32.toInt fJ ≤ 7) → (0 ≤ Int32.toInt jD ∧ Int32.toInt jD ≤ 9) → (0 ≤ Int32.toInt oE ∧ Int32.toInt oE ≤ 12) → (0 ≤ Int32.toInt uF ∧ Int32.toInt uF ≤ 12) → (∀ k : Nat, k % 8 = 4 → -1 ≤ Int32.toInt (sG k) ∧ Int32.toInt (sG k) ≤ 7) → (∀ k : Nat, k % 8 = 6 → 0 ≤ Int32.toInt (sG k) ∧ Int32.toInt (sG k) ≤ 9) → (0 ≤ Int32.toInt qF ∧ Int32.toInt qF ≤ 16) → (30 - Int32.toInt x5 < n21) → next x1 x2 x3 x4 x5 jC eO eW dO fJ fY jD nG qO qQ oE uF sG qF jJ) (x1 x2 x3 x4 x5 jC eO eW dO fJ fY jD nG : Int32) (qO qQ : Nat → Int32) (oE uF : Int32) (sG : Nat → Int32) (qF : Int32) (jJ : Nat → Int32) (h_x1 : -1 ≤ Int32.toInt x1 ∧ Int32.toInt x1 ≤ 30) (h_x4 : 0 ≤ Int32.toInt x4 ∧ Int32.toInt x4 ≤ 1) (h_x5 : 0 ≤ Int32.toInt x5 ∧ Int32.toInt x5 ≤ 30) (h_no_ladder : -1 ≤ Int32.toInt fJ ∧ Int32.toInt fJ ≤ 7) (h_no_today : 0 ≤ Int32.toInt jD ∧ Int32.toInt jD ≤ 9) (h_pa_undoable : 0 ≤ Int32.toInt oE ∧ Int32.toInt oE ≤ 12) (h_pa_free : 0 ≤ Int32.toInt uF ∧ Int32.toInt uF ≤ 12) (e0_pa_cells : ∀ k : Nat, k % 8 = 4 → -1 ≤ Int32.toInt (sG k) ∧ Int32.toInt (sG k) ≤ 7) (e1_pa_cells : ∀ k : Nat, k % 8 = 6 → 0 ≤ Int32.toInt (sG k) ∧ Int32.toInt (sG k) ≤ 9) (h_ro_size : 0 ≤ Int32.toInt qF ∧ Int32.toInt qF ≤ 16) (hn21 : 30 - Int32.toInt x5 ≤ n21) : ws_X9_doActs_21 post next vZ bZ bD wD gF pE qA nJ nY dQ pG oF x1 x2 x3 x4 x5 jC eO eW dO fJ fY jD nG qO qQ oE uF sG qF jJ := by
  have l0 := li_0
  have l1 := li_1
  have l2 := li_104
  have l3 := li_112
  have l4 := li_30
  refine And.intro (fun c58 => ?_) (fun c58 => ?_)
  · skip
    have c58 := (fa_le _ _).mp c58
    have f59 := tp_r x2
    have f60 := tp_r x3
    have f61 := tp_r jC
    have f62 := tp_r eO
    have f63 := tp_r eW
    have f64 := tp_r dO
    have f65 := tp_r fY
    have f66 := tp_r nG
    exact ts_X9_doActs_107 vZ bZ bD wD gF pE qA nJ nY dQ pG oF h_tr_fruits h_tr_standings h_ru_length hpost x2 x3 x4 jC eO eW dO fJ fY jD nG qO qQ oE uF sG qF jJ h_x4 h_no_ladder h_no_today h_pa_undoable h_pa_free e0_pa_cells e1_pa_cells h_ro_size
  · skip
    have c58 := mt (fa_le _ _).mpr c58
    refine And.intro (fun c67 => ?_) (fun c67 => ?_)
    · skip
      have c67 := (fa_le _ _).mp c67
      exfalso; omega
    · skip
      have c67 := mt (fa_le _ _).mpr c67
      refine And.intro (fun c68 => ?_) (fun c68 => ?_)
      · skip
        have c68 := mt (fa_eq _ _).mpr c68
        have f69 := tp_r x2
        have f70 := tp_r x3
        have f71 := tp_r jC
        have f72 := tp_r eO
        have f73 := tp_r eW
        have f74 := tp_r dO
        have f75 := tp_r fY
        have f76 := tp_r nG
        exact ts_X9_doActs_107 vZ bZ bD wD gF pE qA nJ nY dQ pG oF h_tr_fruits h_tr_standings h_ru_length hpost x2 x3 x4 jC eO eW dO fJ fY jD nG qO qQ oE uF sG qF jJ h_x4 h_no_ladder h_no_today h_pa_undoable h_pa_free e0_pa_cells e1_pa_cells h_ro_size
      · skip
        have c68 := (fa_eq _ _).mp c68
        refine And.intro (t_in (by omega)) ?_
        intro v77 ev77
        have hv77 := congrArg Int32.toInt ev77
        intro v79 ev79
        refine And.intro (t_in (by omega)) ?_
        intro v80 ev80
        have hv80 := congrArg Int32.toInt ev80
        intro v81 ev81
        refine t_X9_doAct h_tr_fruits h_tr_standings h_no_ladder h_no_today h_ru_length (fun r92 aGF aE3 aE4 aDs no_ladder_86 aE5 no_today_88 aGG ru_given_90 ru_stack_91 h_no_ladder_86 h_no_today_88 => ?_)
        have f94 := tp_r r92
        refine And.intro (fun c93 => ?_) (fun c93 => ?_)
        · skip
          have c93 := (fa_le _ _).mp c93
          intro v95 ev95
          have hv95 := congrArg Int32.toInt ev95
          have f98 := tp_r v79
          refine And.intro (fun c97 => ?_) (fun c97 => ?_)
          · skip
            have c97 := (fa_eq _ _).mp c97
            have f99 := tp_r v95
            have f100 := tp_r x3
            have f101 := tp_r aGF
            have f102 := tp_r aE3
            have f103 := tp_r aE4
            have f104 := tp_r aDs
            have f105 := tp_r aE5
            have f106 := tp_r aGG
            exact ts_X9_doActs_94 vZ bZ bD wD gF pE qA nJ nY dQ pG oF h_tr_fruits h_tr_standings h_ru_length hpost hKn x1 v95 x4 x5 x3 aGF aE3 aE4 aDs no_ladder_86 aE5 no_today_88 aGG ru_given_90 ru_stack_91 oE uF sG qF jJ (by omega) (by omega) (by omega) h_no_ladder_86 h_no_today_88 h_pa_undoable h_pa_free e0_pa_cells e1_pa_cells h_ro_size hn21
          · skip
            have c97 := mt (fa_eq _ _).mpr c97
            refine And.intro (fun c107 => ?_) (fun c107 => ?_)
            · skip
              have c107 := mt (fa_eq _ _).mpr c107
              have f108 := tp_r v95
              have f109 := tp_r x3
              have f110 := tp_r aGF
              have f111 := tp_r aE3
              have f112 := tp_r aE4
              have f113 := tp_r aDs
              have f114 := tp_r aE5
              have f115 := tp_r aGG
              exact ts_X9_doActs_99 vZ bZ bD wD gF pE qA nJ nY dQ pG oF h_tr_fruits h_tr_standings h_ru_length hpost hKn x1 v95 x4 x5 x3 0 aGF aE3 aE4 aDs no_ladder_86 aE5 no_today_88 aGG ru_given_90 ru_stack_91 oE uF sG qF jJ (by omega) (by omega) (by omega) (by omega) h_no_ladder_86 h_no_today_88 h_pa_undoable h_pa_free e0_pa_cells e1_pa_cells h_ro_size hn21
            · skip
              have c107 := (fa_eq _ _).mp c107
              have f116 := tp_r v95
              have f117 := tp_r x3
              have f118 := tp_r aGF
              have f119 := tp_r aE3
              have f120 := tp_r aE4
              have f121 := tp_r aDs
              have f122 := tp_r aE5
              have f123 := tp_r aGG
              exact ts_X9_doActs_94 vZ bZ bD wD gF pE qA nJ nY dQ pG oF h_tr_fruits h_tr_standings h_ru_length hpost hKn x1 v95 x4 x5 x3 aGF aE3 aE4 aDs no_ladder_86 aE5 no_today_88 aGG ru_given_90 ru_stack_91 oE uF sG qF jJ (by omega) (by omega) (by omega) h_no_ladder_86 h_no_today_88 h_pa_undoable h_pa_free e0_pa_cells e1_pa_cells h_ro_size hn21
        · skip
          have c93 := mt (fa_le _ _).mpr c93
          have f124 := tp_r x2
          have f125 := tp_r x3
          have f126 := tp_r aGF
          have f127 := tp_r aE3
          have f128 := tp_r aE4
          have f129 := tp_r aDs
          have f130 := tp_r aE5
          have f131 := tp_r aGG
          exact ts_X9_doActs_101 vZ bZ bD wD gF pE qA nJ nY dQ pG oF h_tr_fruits h_tr_standings h_ru_length hpost hKn x1 x2 x3 1 x5 aGF aE3 aE4 aDs no_ladder_86 aE5 no_today_88 aGG ru_given_90 ru_stack_91 oE uF sG qF jJ (by omega) (by omega) (by omega) h_no_ladder_86 h_no_today_88 h_pa_undoable h_pa_free e0_pa_cells e1_pa_cells h_ro_size hn21
set_option maxHeartbeats 8000000 in
set_option maxRecDepth 200000 in
theorem tb_X9_doActs_21 {post : Int32 → Int32 → Int32 → Int32 → Int32 → Int32 → Int32 → Int32 → Int32 → (Nat → Int32) → (Nat → Int32) → Int32 → Int32 → (Nat → Int32) → Int32 → (Nat → Int32) → Prop} (vZ : Nat → Int32) (bZ bD : Int32) (wD gF pE qA nJ nY dQ : Nat → Int32) (pG : Int32) (oF : Nat → Int32) (h_tr_fruits : 0 ≤ Int32.toInt bZ ∧ Int32.toInt bZ ≤ 16) (h_tr_standings : 0 ≤ Int32.toInt bD ∧ Int32.toInt bD ≤ 8) (h_ru_length : 0 ≤ Int32.toInt pG ∧ Int32.toInt pG ≤ 40) (hpost : ∀ (r : Int32) (no_apron' : Int32) (no_basket' : Int32) (no_ground' : Int32) (no_bruised' : Int32) (no_ladder' : Int32) (no_helper' : Int32) (no_today' : Int32) (no_clock' : Int32) (ru_given' : Nat → Int32) (ru_stack' : Nat → Int32) (pa_undoable' : Int32) (pa_free' : Int32) (pa_cells' : Nat → Int32) (ro_size' : Int32) (ro_numbers' : Nat → Int32), (-1 ≤ Int32.toInt no_ladder' ∧ Int32.toInt no_ladder' ≤ 7) → (0 ≤ Int32.toInt no_today' ∧ Int32.toInt no_today' ≤ 9) → (0 ≤ Int32.toInt pa_undoable' ∧ Int32.toInt pa_undoable' ≤ 12) → (0 ≤ Int32.toInt pa_free' ∧ Int32.toInt pa_free' ≤ 12) → (∀ k : Nat, k % 8 = 4 → -1 ≤ Int32.toInt (pa_cells' k) ∧ Int32.toInt (pa_cells' k) ≤ 7) → (∀ k : Nat, k % 8 = 6 → 0 ≤ Int32.toInt (pa_cells' k) ∧ Int32.toInt (pa_cells' k) ≤ 9) → (2 ≤ Int32.toInt ro_size' ∧ Int32.toInt ro_size' ≤ 2) → post r no_apron' no_basket' no_ground' no_bruised' no_ladder' no_helper' no_today' no_clock' ru_given' ru_stack' pa_undoable' pa_free' pa_cells' ro_size' ro_numbers') : ∀ (n : Nat) (x1 x2 x3 x4 x5 jC eO eW dO fJ fY jD nG : Int32) (qO qQ : Nat → Int32) (oE uF : Int32) (sG : Nat → Int32) (qF : Int32) (jJ : Nat → Int32), (-1 ≤ Int32.toInt x1 ∧ Int32.toInt x1 ≤ 30) → (0 ≤ Int32.toInt x4 ∧ Int32.toInt x4 ≤ 1) → (0 ≤ Int32.toInt x5 ∧ Int32.toInt x5 ≤ 30) → (-1 ≤ Int32.toInt fJ ∧ Int32.toInt fJ ≤ 7) → (0 ≤ Int32.toInt jD ∧ Int32.toInt jD ≤ 9) → (0 ≤ Int32.toInt oE ∧ Int32.toInt oE ≤ 12) → (0 ≤ Int32.toInt uF ∧ Int32.toInt uF ≤ 12) → (∀ k : Nat, k % 8 = 4 → -1 ≤ Int32.toInt (sG k) ∧ Int32.toInt (sG k) ≤ 7) → (∀ k : Nat, k % 8 = 6 → 0 ≤ Int32.toInt (sG k) ∧ Int32.toInt (sG k) ≤ 9) → (0 ≤ Int32.toInt qF ∧ Int32.toInt qF ≤ 16) → (30 - Int32.toInt x5 < (n : Int)) → wb_X9_doActs_21 post vZ bZ bD wD gF pE qA nJ nY dQ pG oF n x1 x2 x3 x4 x5 jC eO eW dO fJ fY jD nG qO qQ oE uF sG qF jJ := by
  intro n
  induction n with
  | zero =>
    intro x1 x2 x3 x4 x5 jC eO eW dO fJ fY jD nG qO qQ oE uF sG qF jJ h_x1 h_x4 h_x5 h_no_ladder h_no_today h_pa_undoable h_pa_free e0_pa_cells e1_pa_cells h_ro_size hm
    exfalso; omega
  | succ n ih =>
    intro x1 x2 x3 x4 x5 jC eO eW dO fJ fY jD nG qO qQ oE uF sG qF jJ h_x1 h_x4 h_x5 h_no_ladder h_no_today h_pa_undoable h_pa_free e0_pa_cells e1_pa_cells h_ro_size hm
    exact ts_X9_doActs_21 vZ bZ bD wD gF pE qA nJ nY dQ pG oF h_tr_fruits h_tr_standings h_ru_length hpost ih x1 x2 x3 x4 x5 jC eO eW dO fJ fY jD nG qO qQ oE uF sG qF jJ h_x1 h_x4 h_x5 h_no_ladder h_no_today h_pa_undoable h_pa_free e0_pa_cells e1_pa_cells h_ro_size (by omega)
set_option maxHeartbeats 8000000 in
set_option maxRecDepth 200000 in
theorem t_X9_doActs {post : Int32 → Int32 → Int32 → Int32 → Int32 → Int32 → Int32 → Int32 → Int32 → (Nat → Int32) → (Nat → Int32) → Int32 → Int32 → (Nat → Int32) → Int32 → (Nat → Int32) → Prop} {p0 : Int32} {vZ : Nat → Int32} {bZ bD : Int32} {wD gF pE qA nJ nY dQ : Nat → Int32} {jC eO eW dO fJ fY jD nG pG : Int32} {qO qQ oF : Nat → Int32} {oE uF : Int32} {sG : Nat → Int32} {qF : Int32} {jJ : Nat → Int32} (h_p0 : -1 ≤ Int32.toInt p0 ∧ Int32.toInt p0 ≤ 30) (h_tr_fruits : 0 ≤ Int32.toInt bZ ∧ Int32.toInt bZ ≤ 16) (h_tr_standings : 0 ≤ Int32.toInt bD ∧ Int32.toInt bD ≤ 8) (h_no_ladder : -1 ≤ Int32.toInt fJ ∧ Int32.toInt fJ ≤ 7) (h_no_today : 0 ≤ Int32.toInt jD ∧ Int32.toInt jD ≤ 9) (h_ru_length : 0 ≤ Int32.toInt pG ∧ Int32.toInt pG ≤ 40) (h_pa_undoable : 0 ≤ Int32.toInt oE ∧ Int32.toInt oE ≤ 12) (h_pa_free : 0 ≤ Int32.toInt uF ∧ Int32.toInt uF ≤ 12) (e0_pa_cells : ∀ k : Nat, k % 8 = 4 → -1 ≤ Int32.toInt (sG k) ∧ Int32.toInt (sG k) ≤ 7) (e1_pa_cells : ∀ k : Nat, k % 8 = 6 → 0 ≤ Int32.toInt (sG k) ∧ Int32.toInt (sG k) ≤ 9) (h_ro_size : 0 ≤ Int32.toInt qF ∧ Int32.toInt qF ≤ 16) (hpost : ∀ (r : Int32) (no_apron' : Int32) (no_basket' : Int32) (no_ground' : Int32) (no_bruised' : Int32) (no_ladder' : Int32) (no_helper' : Int32) (no_today' : Int32) (no_clock' : Int32) (ru_given' : Nat → Int32) (ru_stack' : Nat → Int32) (pa_undoable' : Int32) (pa_free' : Int32) (pa_cells' : Nat → Int32) (ro_size' : Int32) (ro_numbers' : Nat → Int32), (-1 ≤ Int32.toInt no_ladder' ∧ Int32.toInt no_ladder' ≤ 7) → (0 ≤ Int32.toInt no_today' ∧ Int32.toInt no_today' ≤ 9) → (0 ≤ Int32.toInt pa_undoable' ∧ Int32.toInt pa_undoable' ≤ 12) → (0 ≤ Int32.toInt pa_free' ∧ Int32.toInt pa_free' ≤ 12) → (∀ k : Nat, k % 8 = 4 → -1 ≤ Int32.toInt (pa_cells' k) ∧ Int32.toInt (pa_cells' k) ≤ 7) → (∀ k : Nat, k % 8 = 6 → 0 ≤ Int32.toInt (pa_cells' k) ∧ Int32.toInt (pa_cells' k) ≤ 9) → (2 ≤ Int32.toInt ro_size' ∧ Int32.toInt ro_size' ≤ 2) → post r no_apron' no_basket' no_ground' no_bruised' no_ladder' no_helper' no_today' no_clock' ru_given' ru_stack' pa_undoable' pa_free' pa_cells' ro_size' ro_numbers') : wp_X9_doActs post p0 vZ bZ bD wD gF pE qA nJ nY dQ jC eO eW dO fJ fY jD nG pG qO qQ oF oE uF sG qF jJ := by
  have l0 := li_0
  have l1 := li_1
  have l2 := li_104
  have l3 := li_2
  have l4 := li_3
  have l5 := li_4
  have l6 := li_5
  have l7 := li_6
  have l8 := li_7
  have l9 := li_8
  intro v132 ev132
  have f133 : Int32.toInt (uF * 8) = Int32.toInt uF * 8 := ta_mulc _ _ (by decide) (by omega)
  rw [← ev132] at f133
  refine And.intro (fun c134 => ?_) (fun c134 => ?_)
  · skip
    have c134 := (fa_lt _ _).mp c134
    exfalso; omega
  · skip
    have c134 := mt (fa_lt _ _).mpr c134
    have f136 : Int32.toInt (104 - 8) = Int32.toInt (104 : Int32) - Int32.toInt (8 : Int32) := ta_sub _ _ (by omega)
    refine And.intro (fun c135 => ?_) (fun c135 => ?_)
    · skip
      have c135 := (fa_le _ _).mp c135
      refine And.intro (t_in (by omega)) ?_
      have f138 := tp_r jC
      have e137 : ∀ k : Nat, k % 8 = 4 → -1 ≤ Int32.toInt ((upd sG v132.toNatClampNeg jC) k) ∧ Int32.toInt ((upd sG v132.toNatClampNeg jC) k) ≤ 7 := t_updc (C := fun k => k % 8 = 4) e0_pa_cells (fun hk => by have e9 : v132.toNatClampNeg = (Int32.toInt v132).toNat := rfl; have hk : v132.toNatClampNeg % 8 = 4 := hk; omega)
      have e139 : ∀ k : Nat, k % 8 = 6 → 0 ≤ Int32.toInt ((upd sG v132.toNatClampNeg jC) k) ∧ Int32.toInt ((upd sG v132.toNatClampNeg jC) k) ≤ 9 := t_updc (C := fun k => k % 8 = 6) e1_pa_cells (fun hk => by have e9 : v132.toNatClampNeg = (Int32.toInt v132).toNat := rfl; have hk : v132.toNatClampNeg % 8 = 6 := hk; omega)
      intro v140 ev140
      have f141 : Int32.toInt (v132 + 1) = Int32.toInt v132 + Int32.toInt (1 : Int32) := ta_add _ _ (by omega)
      rw [← ev140] at f141
      refine And.intro (t_in (by omega)) ?_
      have f143 := tp_r eO
      have e142 : ∀ k : Nat, k % 8 = 4 → -1 ≤ Int32.toInt ((upd (upd sG v132.toNatClampNeg jC) v140.toNatClampNeg eO) k) ∧ Int32.toInt ((upd (upd sG v132.toNatClampNeg jC) v140.toNatClampNeg eO) k) ≤ 7 := t_updc (C := fun k => k % 8 = 4) e137 (fun hk => by have e9 : v140.toNatClampNeg = (Int32.toInt v140).toNat := rfl; have hk : v140.toNatClampNeg % 8 = 4 := hk; omega)
      have e144 : ∀ k : Nat, k % 8 = 6 → 0 ≤ Int32.toInt ((upd (upd sG v132.toNatClampNeg jC) v140.toNatClampNeg eO) k) ∧ Int32.toInt ((upd (upd sG v132.toNatClampNeg jC) v140.toNatClampNeg eO) k) ≤ 9 := t_updc (C := fun k => k % 8 = 6) e139 (fun hk => by have e9 : v140.toNatClampNeg = (Int32.toInt v140).toNat := rfl; have hk : v140.toNatClampNeg % 8 = 6 := hk; omega)
      intro v145 ev145
      have f146 : Int32.toInt (v132 + 2) = Int32.toInt v132 + Int32.toInt (2 : Int32) := ta_add _ _ (by omega)
      rw [← ev145] at f146
      refine And.intro (t_in (by omega)) ?_
      have f148 := tp_r eW
      have e147 : ∀ k : Nat, k % 8 = 4 → -1 ≤ Int32.toInt ((upd (upd (upd sG v132.toNatClampNeg jC) v140.toNatClampNeg eO) v145.toNatClampNeg eW) k) ∧ Int32.toInt ((upd (upd (upd sG v132.toNatClampNeg jC) v140.toNatClampNeg eO) v145.toNatClampNeg eW) k) ≤ 7 := t_updc (C := fun k => k % 8 = 4) e142 (fun hk => by have e9 : v145.toNatClampNeg = (Int32.toInt v145).toNat := rfl; have hk : v145.toNatClampNeg % 8 = 4 := hk; omega)
      have e149 : ∀ k : Nat, k % 8 = 6 → 0 ≤ Int32.toInt ((upd (upd (upd sG v132.toNatClampNeg jC) v140.toNatClampNeg eO) v145.toNatClampNeg eW) k) ∧ Int32.toInt ((upd (upd (upd sG v132.toNatClampNeg jC) v140.toNatClampNeg eO) v145.toNatClampNeg eW) k) ≤ 9 := t_updc (C := fun k => k % 8 = 6) e144 (fun hk => by have e9 : v145.toNatClampNeg = (Int32.toInt v145).toNat := rfl; have hk : v145.toNatClampNeg % 8 = 6 := hk; omega)
      intro v150 ev150
      have f151 : Int32.toInt (v132 + 3) = Int32.toInt v132 + Int32.toInt (3 : Int32) := ta_add _ _ (by omega)
      rw [← ev150] at f151
      refine And.intro (t_in (by omega)) ?_
      have f153 := tp_r dO
      have e152 : ∀ k : Nat, k % 8 = 4 → -1 ≤ Int32.toInt ((upd (upd (upd (upd sG v132.toNatClampNeg jC) v140.toNatClampNeg eO) v145.toNatClampNeg eW) v150.toNatClampNeg dO) k) ∧ Int32.toInt ((upd (upd (upd (upd sG v132.toNatClampNeg jC) v140.toNatClampNeg eO) v145.toNatClampNeg eW) v150.toNatClampNeg dO) k) ≤ 7 := t_updc (C := fun k => k % 8 = 4) e147 (fun hk => by have e9 : v150.toNatClampNeg = (Int32.toInt v150).toNat := rfl; have hk : v150.toNatClampNeg % 8 = 4 := hk; omega)
      have e154 : ∀ k : Nat, k % 8 = 6 → 0 ≤ Int32.toInt ((upd (upd (upd (upd sG v132.toNatClampNeg jC) v140.toNatClampNeg eO) v145.toNatClampNeg eW) v150.toNatClampNeg dO) k) ∧ Int32.toInt ((upd (upd (upd (upd sG v132.toNatClampNeg jC) v140.toNatClampNeg eO) v145.toNatClampNeg eW) v150.toNatClampNeg dO) k) ≤ 9 := t_updc (C := fun k => k % 8 = 6) e149 (fun hk => by have e9 : v150.toNatClampNeg = (Int32.toInt v150).toNat := rfl; have hk : v150.toNatClampNeg % 8 = 6 := hk; omega)
      intro v155 ev155
      have f156 : Int32.toInt (v132 + 4) = Int32.toInt v132 + Int32.toInt (4 : Int32) := ta_add _ _ (by omega)
      rw [← ev155] at f156
      refine And.intro (t_in (by omega)) ?_
      have e157 : ∀ k : Nat, k % 8 = 4 → -1 ≤ Int32.toInt ((upd (upd (upd (upd (upd sG v132.toNatClampNeg jC) v140.toNatClampNeg eO) v145.toNatClampNeg eW) v150.toNatClampNeg dO) v155.toNatClampNeg fJ) k) ∧ Int32.toInt ((upd (upd (upd (upd (upd sG v132.toNatClampNeg jC) v140.toNatClampNeg eO) v145.toNatClampNeg eW) v150.toNatClampNeg dO) v155.toNatClampNeg fJ) k) ≤ 7 := t_updc (C := fun k => k % 8 = 4) e152 (fun hk => by have e9 : v155.toNatClampNeg = (Int32.toInt v155).toNat := rfl; have hk : v155.toNatClampNeg % 8 = 4 := hk; omega)
      have e158 : ∀ k : Nat, k % 8 = 6 → 0 ≤ Int32.toInt ((upd (upd (upd (upd (upd sG v132.toNatClampNeg jC) v140.toNatClampNeg eO) v145.toNatClampNeg eW) v150.toNatClampNeg dO) v155.toNatClampNeg fJ) k) ∧ Int32.toInt ((upd (upd (upd (upd (upd sG v132.toNatClampNeg jC) v140.toNatClampNeg eO) v145.toNatClampNeg eW) v150.toNatClampNeg dO) v155.toNatClampNeg fJ) k) ≤ 9 := t_updc (C := fun k => k % 8 = 6) e154 (fun hk => by have e9 : v155.toNatClampNeg = (Int32.toInt v155).toNat := rfl; have hk : v155.toNatClampNeg % 8 = 6 := hk; omega)
      intro v159 ev159
      have f160 : Int32.toInt (v132 + 5) = Int32.toInt v132 + Int32.toInt (5 : Int32) := ta_add _ _ (by omega)
      rw [← ev159] at f160
      refine And.intro (t_in (by omega)) ?_
      have f162 := tp_r fY
      have e161 : ∀ k : Nat, k % 8 = 4 → -1 ≤ Int32.toInt ((upd (upd (upd (upd (upd (upd sG v132.toNatClampNeg jC) v140.toNatClampNeg eO) v145.toNatClampNeg eW) v150.toNatClampNeg dO) v155.toNatClampNeg fJ) v159.toNatClampNeg fY) k) ∧ Int32.toInt ((upd (upd (upd (upd (upd (upd sG v132.toNatClampNeg jC) v140.toNatClampNeg eO) v145.toNatClampNeg eW) v150.toNatClampNeg dO) v155.toNatClampNeg fJ) v159.toNatClampNeg fY) k) ≤ 7 := t_updc (C := fun k => k % 8 = 4) e157 (fun hk => by have e9 : v159.toNatClampNeg = (Int32.toInt v159).toNat := rfl; have hk : v159.toNatClampNeg % 8 = 4 := hk; omega)
      have e163 : ∀ k : Nat, k % 8 = 6 → 0 ≤ Int32.toInt ((upd (upd (upd (upd (upd (upd sG v132.toNatClampNeg jC) v140.toNatClampNeg eO) v145.toNatClampNeg eW) v150.toNatClampNeg dO) v155.toNatClampNeg fJ) v159.toNatClampNeg fY) k) ∧ Int32.toInt ((upd (upd (upd (upd (upd (upd sG v132.toNatClampNeg jC) v140.toNatClampNeg eO) v145.toNatClampNeg eW) v150.toNatClampNeg dO) v155.toNatClampNeg fJ) v159.toNatClampNeg fY) k) ≤ 9 := t_updc (C := fun k => k % 8 = 6) e158 (fun hk => by have e9 : v159.toNatClampNeg = (Int32.toInt v159).toNat := rfl; have hk : v159.toNatClampNeg % 8 = 6 := hk; omega)
      intro v164 ev164
      have f165 : Int32.toInt (v132 + 6) = Int32.toInt v132 + Int32.toInt (6 : Int32) := ta_add _ _ (by omega)
      rw [← ev164] at f165
      refine And.intro (t_in (by omega)) ?_
      have e166 : ∀ k : Nat, k % 8 = 4 → -1 ≤ Int32.toInt ((upd (upd (upd (upd (upd (upd (upd sG v132.toNatClampNeg jC) v140.toNatClampNeg eO) v145.toNatClampNeg eW) v150.toNatClampNeg dO) v155.toNatClampNeg fJ) v159.toNatClampNeg fY) v164.toNatClampNeg jD) k) ∧ Int32.toInt ((upd (upd (upd (upd (upd (upd (upd sG v132.toNatClampNeg jC) v140.toNatClampNeg eO) v145.toNatClampNeg eW) v150.toNatClampNeg dO) v155.toNatClampNeg fJ) v159.toNatClampNeg fY) v164.toNatClampNeg jD) k) ≤ 7 := t_updc (C := fun k => k % 8 = 4) e161 (fun hk => by have e9 : v164.toNatClampNeg = (Int32.toInt v164).toNat := rfl; have hk : v164.toNatClampNeg % 8 = 4 := hk; omega)
      have e167 : ∀ k : Nat, k % 8 = 6 → 0 ≤ Int32.toInt ((upd (upd (upd (upd (upd (upd (upd sG v132.toNatClampNeg jC) v140.toNatClampNeg eO) v145.toNatClampNeg eW) v150.toNatClampNeg dO) v155.toNatClampNeg fJ) v159.toNatClampNeg fY) v164.toNatClampNeg jD) k) ∧ Int32.toInt ((upd (upd (upd (upd (upd (upd (upd sG v132.toNatClampNeg jC) v140.toNatClampNeg eO) v145.toNatClampNeg eW) v150.toNatClampNeg dO) v155.toNatClampNeg fJ) v159.toNatClampNeg fY) v164.toNatClampNeg jD) k) ≤ 9 := t_updc (C := fun k => k % 8 = 6) e163 (fun hk => by have e9 : v164.toNatClampNeg = (Int32.toInt v164).toNat := rfl; have hk : v164.toNatClampNeg % 8 = 6 := hk; omega)
      intro v168 ev168
      have f169 : Int32.toInt (v132 + 7) = Int32.toInt v132 + Int32.toInt (7 : Int32) := ta_add _ _ (by omega)
      rw [← ev168] at f169
      refine And.intro (t_in (by omega)) ?_
      have f171 := tp_r nG
      have e170 : ∀ k : Nat, k % 8 = 4 → -1 ≤ Int32.toInt ((upd (upd (upd (upd (upd (upd (upd (upd sG v132.toNatClampNeg jC) v140.toNatClampNeg eO) v145.toNatClampNeg eW) v150.toNatClampNeg dO) v155.toNatClampNeg fJ) v159.toNatClampNeg fY) v164.toNatClampNeg jD) v168.toNatClampNeg nG) k) ∧ Int32.toInt ((upd (upd (upd (upd (upd (upd (upd (upd sG v132.toNatClampNeg jC) v140.toNatClampNeg eO) v145.toNatClampNeg eW) v150.toNatClampNeg dO) v155.toNatClampNeg fJ) v159.toNatClampNeg fY) v164.toNatClampNeg jD) v168.toNatClampNeg nG) k) ≤ 7 := t_updc (C := fun k => k % 8 = 4) e166 (fun hk => by have e9 : v168.toNatClampNeg = (Int32.toInt v168).toNat := rfl; have hk : v168.toNatClampNeg % 8 = 4 := hk; omega)
      have e172 : ∀ k : Nat, k % 8 = 6 → 0 ≤ Int32.toInt ((upd (upd (upd (upd (upd (upd (upd (upd sG v132.toNatClampNeg jC) v140.toNatClampNeg eO) v145.toNatClampNeg eW) v150.toNatClampNeg dO) v155.toNatClampNeg fJ) v159.toNatClampNeg fY) v164.toNatClampNeg jD) v168.toNatClampNeg nG) k) ∧ Int32.toInt ((upd (upd (upd (upd (upd (upd (upd (upd sG v132.toNatClampNeg jC) v140.toNatClampNeg eO) v145.toNatClampNeg eW) v150.toNatClampNeg dO) v155.toNatClampNeg fJ) v159.toNatClampNeg fY) v164.toNatClampNeg jD) v168.toNatClampNeg nG) k) ≤ 9 := t_updc (C := fun k => k % 8 = 6) e167 (fun hk => by have e9 : v168.toNatClampNeg = (Int32.toInt v168).toNat := rfl; have hk : v168.toNatClampNeg % 8 = 6 := hk; omega)
      exact ⟨32, tb_X9_doActs_21 vZ bZ bD wD gF pE qA nJ nY dQ pG oF h_tr_fruits h_tr_standings h_ru_length hpost _ p0 0 0 0 0 jC eO eW dO fJ fY jD nG qO qQ oE uF (upd (upd (upd (upd (upd (upd (upd (upd sG v132.toNatClampNeg jC) v140.toNatClampNeg eO) v145.toNatClampNeg eW) v150.toNatClampNeg dO) v155.toNatClampNeg fJ) v159.toNatClampNeg fY) v164.toNatClampNeg jD) v168.toNatClampNeg nG) qF jJ h_p0 (by omega) (by omega) h_no_ladder h_no_today h_pa_undoable h_pa_free e170 e172 h_ro_size (by omega)⟩
    · skip
      have c135 := mt (fa_le _ _).mpr c135
      exfalso; omega
set_option maxHeartbeats 8000000 in
set_option maxRecDepth 200000 in
theorem ts_X9_readAct_143 {post : Int32 → Int32 → Prop} (rY : Int32) (qM : Nat → Int32) (h_tx_stop : 0 ≤ Int32.toInt rY ∧ Int32.toInt rY ≤ 60) (h_tx_signs : ∀ k : Nat, 0 ≤ Int32.toInt (qM k) ∧ Int32.toInt (qM k) ≤ 65535) (hpost : ∀ (r : Int32) (tx_place' : Int32), (0 ≤ Int32.toInt tx_place' ∧ Int32.toInt tx_place' ≤ 80) → post r tx_place') (x1 x2 qJ : Int32) (h_x1 : 97 ≤ Int32.toInt x1 ∧ Int32.toInt x1 ≤ 125) (h_x2 : 0 ≤ Int32.toInt x2 ∧ Int32.toInt x2 ≤ 2) (h_tx_place : 0 ≤ Int32.toInt qJ ∧ Int32.toInt qJ ≤ 60) : ws_X9_readAct_143 post rY qM x1 x2 qJ := by
  have l0 := li_m1
  have l1 := li_0
  have l2 := li_1
  have l3 := li_100
  refine And.intro (fun c1 => ?_) (fun c1 => ?_)
  · skip
    have c1 := (fa_le _ _).mp c1
    refine And.intro (fun c2 => ?_) (fun c2 => ?_)
    · skip
      have c2 := mt (fa_eq _ _).mpr c2
      refine t_X8_readNumber (by omega) (by omega) (by omega) h_tx_signs (fun r4 aEo h_tx_place_3 => ?_)
      have f6 := tp_r r4
      refine And.intro (fun c5 => ?_) (fun c5 => ?_)
      · skip
        have c5 := mt (fa_eq _ _).mpr c5
        intro v7 ev7
        have f8 : Int32.toInt (x1 * 100) = Int32.toInt x1 * 100 := ta_mulc _ _ (by decide) (by omega)
        rw [← ev7] at f8
        exact hpost _ _ h_tx_place_3
      · skip
        have c5 := (fa_eq _ _).mp c5
        exact hpost _ _ h_tx_place_3
    · skip
      have c2 := (fa_eq _ _).mp c2
      exact hpost _ _ (by omega)
  · skip
    have c1 := mt (fa_le _ _).mpr c1
    intro v9 ev9
    have f10 : Int32.toInt (qJ + 1) = Int32.toInt qJ + Int32.toInt (1 : Int32) := ta_add _ _ (by omega)
    rw [← ev9] at f10
    refine And.intro (fun c11 => ?_) (fun c11 => ?_)
    · skip
      have c11 := mt (fa_eq _ _).mpr c11
      refine t_X8_readNumber (by omega) (by omega) (by omega) h_tx_signs (fun r13 aB9 h_tx_place_12 => ?_)
      have f15 := tp_r r13
      refine And.intro (fun c14 => ?_) (fun c14 => ?_)
      · skip
        have c14 := mt (fa_eq _ _).mpr c14
        intro v16 ev16
        have f17 : Int32.toInt (x1 * 100) = Int32.toInt x1 * 100 := ta_mulc _ _ (by decide) (by omega)
        rw [← ev16] at f17
        exact hpost _ _ h_tx_place_12
      · skip
        have c14 := (fa_eq _ _).mp c14
        exact hpost _ _ h_tx_place_12
    · skip
      have c11 := (fa_eq _ _).mp c11
      exact hpost _ _ (by omega)
set_option maxHeartbeats 8000000 in
set_option maxRecDepth 200000 in
theorem ts_X9_readAct_133 {post : Int32 → Int32 → Prop} (rY : Int32) (qM : Nat → Int32) (h_tx_stop : 0 ≤ Int32.toInt rY ∧ Int32.toInt rY ≤ 60) (h_tx_signs : ∀ k : Nat, 0 ≤ Int32.toInt (qM k) ∧ Int32.toInt (qM k) ≤ 65535) (hpost : ∀ (r : Int32) (tx_place' : Int32), (0 ≤ Int32.toInt tx_place' ∧ Int32.toInt tx_place' ≤ 80) → post r tx_place') (x1 qJ : Int32) (h_x1 : 104 ≤ Int32.toInt x1 ∧ Int32.toInt x1 ≤ 112) (h_tx_place : 0 ≤ Int32.toInt qJ ∧ Int32.toInt qJ ≤ 60) : ws_X9_readAct_133 post rY qM x1 qJ := by
  have l0 := li_2
  exact ts_X9_readAct_143 rY qM h_tx_stop h_tx_signs hpost x1 2 qJ (by omega) (by omega) h_tx_place
set_option maxHeartbeats 8000000 in
set_option maxRecDepth 200000 in
theorem ts_X9_readAct_138 {post : Int32 → Int32 → Prop} (rY : Int32) (qM : Nat → Int32) (h_tx_stop : 0 ≤ Int32.toInt rY ∧ Int32.toInt rY ≤ 60) (h_tx_signs : ∀ k : Nat, 0 ≤ Int32.toInt (qM k) ∧ Int32.toInt (qM k) ≤ 65535) (hpost : ∀ (r : Int32) (tx_place' : Int32), (0 ≤ Int32.toInt tx_place' ∧ Int32.toInt tx_place' ≤ 80) → post r tx_place') (x1 x2 qJ : Int32) (h_x1 : 97 ≤ Int32.toInt x1 ∧ Int32.toInt x1 ≤ 125) (h_x2 : 0 ≤ Int32.toInt x2 ∧ Int32.toInt x2 ≤ 0) (h_tx_place : 0 ≤ Int32.toInt qJ ∧ Int32.toInt qJ ≤ 60) : ws_X9_readAct_138 post rY qM x1 x2 qJ := by
  exact ts_X9_readAct_143 rY qM h_tx_stop h_tx_signs hpost x1 x2 qJ h_x1 (by omega) h_tx_place
set_option maxHeartbeats 8000000 in
set_option maxRecDepth 200000 in
theorem t_X9_readAct {post : Int32 → Int32 → Prop} {qJ rY : Int32} {qM : Nat → Int32} (h_tx_place : 0 ≤ Int32.toInt qJ ∧ Int32.toInt qJ ≤ 60) (h_tx_stop : 0 ≤ Int32.toInt rY ∧ Int32.toInt rY ≤ 60) (h_tx_signs : ∀ k : Nat, 0 ≤ Int32.toInt (qM k) ∧ Int32.toInt (qM k) ≤ 65535) (hpost : ∀ (r : Int32) (tx_place' : Int32), (0 ≤ Int32.toInt tx_place' ∧ Int32.toInt tx_place' ≤ 80) → post r tx_place') : wp_X9_readAct post qJ rY qM := by
  have l0 := li_m1
  have l1 := li_0
  have l2 := li_1
  have l3 := li_100
  have l4 := li_104
  have l5 := li_107
  have l6 := li_109
  have l7 := li_111
  have l8 := li_112
  have l9 := li_122
  have l10 := li_97
  refine And.intro (fun c18 => ?_) (fun c18 => ?_)
  · skip
    have c18 := (fa_le _ _).mp c18
    refine And.intro (fun c19 => ?_) ?_
    · skip
      have c19 := (fa_eq _ _).mp c19
      exfalso; omega
    refine And.intro (fun c20 => ?_) ?_
    · skip
      have c20 := (fa_eq _ _).mp c20
      exfalso; omega
    refine And.intro (fun c21 => ?_) ?_
    · skip
      have c21 := (fa_eq _ _).mp c21
      exfalso; omega
    refine And.intro (fun c22 => ?_) ?_
    · skip
      have c22 := (fa_eq _ _).mp c22
      exfalso; omega
    refine And.intro (fun c23 => ?_) ?_
    · skip
      have c23 := (fa_eq _ _).mp c23
      exfalso; omega
    refine And.intro (fun c24 => ?_) ?_
    · skip
      have c24 := (fa_eq _ _).mp c24
      exfalso; omega
    refine And.intro (fun c25 => ?_) ?_
    · skip
      have c25 := (fa_eq _ _).mp c25
      exfalso; omega
    refine And.intro (fun c26 => ?_) ?_
    · skip
      have c26 := (fa_eq _ _).mp c26
      exfalso; omega
    intro c27 c28 c29 c30 c31 c32 c33 c34
    have c27 := mt (fa_eq _ _).mpr c27
    have c28 := mt (fa_eq _ _).mpr c28
    have c29 := mt (fa_eq _ _).mpr c29
    have c30 := mt (fa_eq _ _).mpr c30
    have c31 := mt (fa_eq _ _).mpr c31
    have c32 := mt (fa_eq _ _).mpr c32
    have c33 := mt (fa_eq _ _).mpr c33
    have c34 := mt (fa_eq _ _).mpr c34
    exact hpost _ _ (by omega)
  · skip
    have c18 := mt (fa_le _ _).mpr c18
    refine And.intro (t_in (by omega)) ?_
    intro v35 ev35
    have f36 := h_tx_signs qJ.toNatClampNeg
    have hv35 := congrArg Int32.toInt ev35
    refine And.intro (fun c37 => ?_) ?_
    · skip
      have c37 := (fa_eq _ _).mp c37
      exact ts_X9_readAct_138 rY qM h_tx_stop h_tx_signs hpost v35 0 qJ (by omega) (by omega) h_tx_place
    refine And.intro (fun c38 => ?_) ?_
    · skip
      have c38 := (fa_eq _ _).mp c38
      exact ts_X9_readAct_138 rY qM h_tx_stop h_tx_signs hpost v35 0 qJ (by omega) (by omega) h_tx_place
    refine And.intro (fun c39 => ?_) ?_
    · skip
      have c39 := (fa_eq _ _).mp c39
      exact ts_X9_readAct_133 rY qM h_tx_stop h_tx_signs hpost v35 qJ (by omega) h_tx_place
    refine And.intro (fun c40 => ?_) ?_
    · skip
      have c40 := (fa_eq _ _).mp c40
      exact ts_X9_readAct_138 rY qM h_tx_stop h_tx_signs hpost v35 0 qJ (by omega) (by omega) h_tx_place
    refine And.intro (fun c41 => ?_) ?_
    · skip
      have c41 := (fa_eq _ _).mp c41
      exact ts_X9_readAct_143 rY qM h_tx_stop h_tx_signs hpost v35 1 qJ (by omega) (by omega) h_tx_place
    refine And.intro (fun c42 => ?_) ?_
    · skip
      have c42 := (fa_eq _ _).mp c42
      exact ts_X9_readAct_138 rY qM h_tx_stop h_tx_signs hpost v35 0 qJ (by omega) (by omega) h_tx_place
    refine And.intro (fun c43 => ?_) ?_
    · skip
      have c43 := (fa_eq _ _).mp c43
      exact ts_X9_readAct_133 rY qM h_tx_stop h_tx_signs hpost v35 qJ (by omega) h_tx_place
    refine And.intro (fun c44 => ?_) ?_
    · skip
      have c44 := (fa_eq _ _).mp c44
      exact ts_X9_readAct_138 rY qM h_tx_stop h_tx_signs hpost v35 0 qJ (by omega) (by omega) h_tx_place
    intro c45 c46 c47 c48 c49 c50 c51 c52
    have c45 := mt (fa_eq _ _).mpr c45
    have c46 := mt (fa_eq _ _).mpr c46
    have c47 := mt (fa_eq _ _).mpr c47
    have c48 := mt (fa_eq _ _).mpr c48
    have c49 := mt (fa_eq _ _).mpr c49
    have c50 := mt (fa_eq _ _).mpr c50
    have c51 := mt (fa_eq _ _).mpr c51
    have c52 := mt (fa_eq _ _).mpr c52
    exact hpost _ _ (by omega)
set_option maxHeartbeats 8000000 in
set_option maxRecDepth 200000 in
theorem ts_X9_readActs_2 {post next : Int32 → (Nat → Int32) → Int32 → Prop} {n2 : Int} (rY : Int32) (qM : Nat → Int32) (h_tx_stop : 0 ≤ Int32.toInt rY ∧ Int32.toInt rY ≤ 60) (h_tx_signs : ∀ k : Nat, 0 ≤ Int32.toInt (qM k) ∧ Int32.toInt (qM k) ≤ 65535) (hpost : ∀ (r : Int32) (x_acts' : Nat → Int32) (tx_place' : Int32), (-1 ≤ Int32.toInt r ∧ Int32.toInt r ≤ 30) → (0 ≤ Int32.toInt tx_place' ∧ Int32.toInt tx_place' ≤ 80) → post r x_acts' tx_place') (hKn : ∀ (x1 : Int32) (vZ : Nat → Int32) (qJ : Int32), (0 ≤ Int32.toInt x1 ∧ Int32.toInt x1 ≤ 30) → (0 ≤ Int32.toInt qJ ∧ Int32.toInt qJ ≤ 60) → (30 - Int32.toInt x1 < n2) → next x1 vZ qJ) (x1 : Int32) (vZ : Nat → Int32) (qJ : Int32) (h_x1 : 0 ≤ Int32.toInt x1 ∧ Int32.toInt x1 ≤ 30) (h_tx_place : 0 ≤ Int32.toInt qJ ∧ Int32.toInt qJ ≤ 60) (hn2 : 30 - Int32.toInt x1 ≤ n2) : ws_X9_readActs_2 post next rY qM x1 vZ qJ := by
  have l0 := li_m1
  have l1 := li_1
  have l2 := li_30
  have l3 := li_59
  refine And.intro (fun c1 => ?_) (fun c1 => ?_)
  · skip
    have c1 := (fa_le _ _).mp c1
    exact hpost _ _ _ (by omega) (by omega)
  · skip
    have c1 := mt (fa_le _ _).mpr c1
    refine t_X9_readAct h_tx_place h_tx_stop h_tx_signs (fun r3 xO h_tx_place_2 => ?_)
    have f5 := tp_r r3
    refine And.intro (fun c4 => ?_) (fun c4 => ?_)
    · skip
      have c4 := mt (fa_eq _ _).mpr c4
      refine And.intro (t_in (by omega)) ?_
      refine And.intro (fun c6 => ?_) (fun c6 => ?_)
      · skip
        have c6 := (fa_le _ _).mp c6
        refine And.intro (fun h9 => absurd h9 (by decide)) (fun _ => ?_)
        refine And.intro (fun h9 => absurd h9 (by decide)) (fun _ => ?_)
        have f7 : Int32.toInt (x1 + 1) = Int32.toInt x1 + Int32.toInt (1 : Int32) := ta_add _ _ (by omega)
        exact hpost _ _ _ (by omega) h_tx_place_2
      · skip
        have c6 := mt (fa_le _ _).mpr c6
        refine And.intro (t_in (by omega)) ?_
        intro v8 ev8
        have f9 := h_tx_signs xO.toNatClampNeg
        have hv8 := congrArg Int32.toInt ev8
        refine And.intro (fun c10 => ?_) (fun c10 => ?_)
        · skip
          have c10 := (fa_eq _ _).mp c10
          intro v11 ev11
          have f12 : Int32.toInt (xO + 1) = Int32.toInt xO + Int32.toInt (1 : Int32) := ta_add _ _ (by omega)
          rw [← ev11] at f12
          refine And.intro (fun _ => ?_) (fun h9 => absurd h9 (by decide))
          intro v13 ev13
          have f14 : Int32.toInt (x1 + 1) = Int32.toInt x1 + Int32.toInt (1 : Int32) := ta_add _ _ (by omega)
          rw [← ev13] at f14
          exact hKn v13 (upd vZ x1.toNatClampNeg r3) v11 (by omega) (by omega) (by omega)
        · skip
          have c10 := mt (fa_eq _ _).mpr c10
          refine And.intro (fun h9 => absurd h9 (by decide)) (fun _ => ?_)
          have f15 : Int32.toInt (x1 + 1) = Int32.toInt x1 + Int32.toInt (1 : Int32) := ta_add _ _ (by omega)
          exact hpost _ _ _ (by omega) h_tx_place_2
    · skip
      have c4 := (fa_eq _ _).mp c4
      exact hpost _ _ _ (by omega) h_tx_place_2
set_option maxHeartbeats 8000000 in
set_option maxRecDepth 200000 in
theorem tb_X9_readActs_2 {post : Int32 → (Nat → Int32) → Int32 → Prop} (rY : Int32) (qM : Nat → Int32) (h_tx_stop : 0 ≤ Int32.toInt rY ∧ Int32.toInt rY ≤ 60) (h_tx_signs : ∀ k : Nat, 0 ≤ Int32.toInt (qM k) ∧ Int32.toInt (qM k) ≤ 65535) (hpost : ∀ (r : Int32) (x_acts' : Nat → Int32) (tx_place' : Int32), (-1 ≤ Int32.toInt r ∧ Int32.toInt r ≤ 30) → (0 ≤ Int32.toInt tx_place' ∧ Int32.toInt tx_place' ≤ 80) → post r x_acts' tx_place') : ∀ (n : Nat) (x1 : Int32) (vZ : Nat → Int32) (qJ : Int32), (0 ≤ Int32.toInt x1 ∧ Int32.toInt x1 ≤ 30) → (0 ≤ Int32.toInt qJ ∧ Int32.toInt qJ ≤ 60) → (30 - Int32.toInt x1 < (n : Int)) → wb_X9_readActs_2 post rY qM n x1 vZ qJ := by
  intro n
  induction n with
  | zero =>
    intro x1 vZ qJ h_x1 h_tx_place hm
    exfalso; omega
  | succ n ih =>
    intro x1 vZ qJ h_x1 h_tx_place hm
    exact ts_X9_readActs_2 rY qM h_tx_stop h_tx_signs hpost ih x1 vZ qJ h_x1 h_tx_place (by omega)
set_option maxHeartbeats 8000000 in
set_option maxRecDepth 200000 in
theorem t_X9_readActs {post : Int32 → (Nat → Int32) → Int32 → Prop} {vZ : Nat → Int32} {qJ rY : Int32} {qM : Nat → Int32} (h_tx_place : 0 ≤ Int32.toInt qJ ∧ Int32.toInt qJ ≤ 0) (h_tx_stop : 0 ≤ Int32.toInt rY ∧ Int32.toInt rY ≤ 60) (h_tx_signs : ∀ k : Nat, 0 ≤ Int32.toInt (qM k) ∧ Int32.toInt (qM k) ≤ 65535) (hpost : ∀ (r : Int32) (x_acts' : Nat → Int32) (tx_place' : Int32), (-1 ≤ Int32.toInt r ∧ Int32.toInt r ≤ 30) → (0 ≤ Int32.toInt tx_place' ∧ Int32.toInt tx_place' ≤ 80) → post r x_acts' tx_place') : wp_X9_readActs post vZ qJ rY qM := by
  have l0 := li_0
  exact ⟨32, tb_X9_readActs_2 rY qM h_tx_stop h_tx_signs hpost _ 0 vZ qJ (by omega) (by omega) (by omega)⟩
set_option maxHeartbeats 8000000 in
set_option maxRecDepth 200000 in
theorem ts_X9_day_68 {post : Int32 → (Nat → Int32) → Int32 → Int32 → Int32 → Int32 → Int32 → Int32 → Int32 → Int32 → Int32 → Int32 → Int32 → (Nat → Int32) → (Nat → Int32) → Int32 → Int32 → (Nat → Int32) → Int32 → (Nat → Int32) → Prop} (qM : Nat → Int32) (bZ bD : Int32) (wD gF pE qA nJ nY dQ : Nat → Int32) (pG : Int32) (oF : Nat → Int32) (h_tx_signs : ∀ k : Nat, 0 ≤ Int32.toInt (qM k) ∧ Int32.toInt (qM k) ≤ 65535) (h_tr_fruits : 0 ≤ Int32.toInt bZ ∧ Int32.toInt bZ ≤ 16) (h_tr_standings : 0 ≤ Int32.toInt bD ∧ Int32.toInt bD ≤ 8) (h_ru_length : 0 ≤ Int32.toInt pG ∧ Int32.toInt pG ≤ 40) (hpost : ∀ (r : Int32) (x_acts' : Nat → Int32) (tx_length' : Int32) (tx_place' : Int32) (tx_stop' : Int32) (no_apron' : Int32) (no_basket' : Int32) (no_ground' : Int32) (no_bruised' : Int32) (no_ladder' : Int32) (no_helper' : Int32) (no_today' : Int32) (no_clock' : Int32) (ru_given' : Nat → Int32) (ru_stack' : Nat → Int32) (pa_undoable' : Int32) (pa_free' : Int32) (pa_cells' : Nat → Int32) (ro_size' : Int32) (ro_numbers' : Nat → Int32), (0 ≤ Int32.toInt tx_length' ∧ Int32.toInt tx_length' ≤ 0) → (0 ≤ Int32.toInt tx_place' ∧ Int32.toInt tx_place' ≤ 80) → (0 ≤ Int32.toInt tx_stop' ∧ Int32.toInt tx_stop' ≤ 60) → (-1 ≤ Int32.toInt no_ladder' ∧ Int32.toInt no_ladder' ≤ 7) → (0 ≤ Int32.toInt no_today' ∧ Int32.toInt no_today' ≤ 9) → (0 ≤ Int32.toInt pa_undoable' ∧ Int32.toInt pa_undoable' ≤ 12) → (0 ≤ Int32.toInt pa_free' ∧ Int32.toInt pa_free' ≤ 12) → (∀ k : Nat, k % 8 = 4 → -1 ≤ Int32.toInt (pa_cells' k) ∧ Int32.toInt (pa_cells' k) ≤ 7) → (∀ k : Nat, k % 8 = 6 → 0 ≤ Int32.toInt (pa_cells' k) ∧ Int32.toInt (pa_cells' k) ≤ 9) → (0 ≤ Int32.toInt ro_size' ∧ Int32.toInt ro_size' ≤ 16) → post r x_acts' tx_length' tx_place' tx_stop' no_apron' no_basket' no_ground' no_bruised' no_ladder' no_helper' no_today' no_clock' ru_given' ru_stack' pa_undoable' pa_free' pa_cells' ro_size' ro_numbers') (k0 : Int32) (vZ : Nat → Int32) (qI qJ rY jC eO eW dO fJ fY jD nG : Int32) (qO qQ : Nat → Int32) (oE uF : Int32) (sG : Nat → Int32) (qF : Int32) (jJ : Nat → Int32) (h_tx_length : 0 ≤ Int32.toInt qI ∧ Int32.toInt qI ≤ 80) (h_tx_place : 0 ≤ Int32.toInt qJ ∧ Int32.toInt qJ ≤ 80) (h_tx_stop : 0 ≤ Int32.toInt rY ∧ Int32.toInt rY ≤ 60) (h_no_ladder : -1 ≤ Int32.toInt fJ ∧ Int32.toInt fJ ≤ 7) (h_no_today : 0 ≤ Int32.toInt jD ∧ Int32.toInt jD ≤ 9) (h_pa_undoable : 0 ≤ Int32.toInt oE ∧ Int32.toInt oE ≤ 12) (h_pa_free : 0 ≤ Int32.toInt uF ∧ Int32.toInt uF ≤ 12) (e0_pa_cells : ∀ k : Nat, k % 8 = 4 → -1 ≤ Int32.toInt (sG k) ∧ Int32.toInt (sG k) ≤ 7) (e1_pa_cells : ∀ k : Nat, k % 8 = 6 → 0 ≤ Int32.toInt (sG k) ∧ Int32.toInt (sG k) ≤ 9) (h_ro_size : 0 ≤ Int32.toInt qF ∧ Int32.toInt qF ≤ 16) : ws_X9_day_68 post qM bZ bD wD gF pE qA nJ nY dQ pG oF k0 vZ qI qJ rY jC eO eW dO fJ fY jD nG qO qQ oE uF sG qF jJ := by
  have l0 := li_0
  exact hpost _ _ _ _ _ _ _ _ _ _ _ _ _ _ _ _ _ _ _ _ (by omega) h_tx_place h_tx_stop h_no_ladder h_no_today h_pa_undoable h_pa_free e0_pa_cells e1_pa_cells h_ro_size
set_option maxHeartbeats 8000000 in
set_option maxRecDepth 200000 in
theorem ts_X9_day_48 {post : Int32 → (Nat → Int32) → Int32 → Int32 → Int32 → Int32 → Int32 → Int32 → Int32 → Int32 → Int32 → Int32 → Int32 → (Nat → Int32) → (Nat → Int32) → Int32 → Int32 → (Nat → Int32) → Int32 → (Nat → Int32) → Prop} (qM : Nat → Int32) (bZ bD : Int32) (wD gF pE qA nJ nY dQ : Nat → Int32) (pG : Int32) (oF : Nat → Int32) (h_tx_signs : ∀ k : Nat, 0 ≤ Int32.toInt (qM k) ∧ Int32.toInt (qM k) ≤ 65535) (h_tr_fruits : 0 ≤ Int32.toInt bZ ∧ Int32.toInt bZ ≤ 16) (h_tr_standings : 0 ≤ Int32.toInt bD ∧ Int32.toInt bD ≤ 8) (h_ru_length : 0 ≤ Int32.toInt pG ∧ Int32.toInt pG ≤ 40) (hpost : ∀ (r : Int32) (x_acts' : Nat → Int32) (tx_length' : Int32) (tx_place' : Int32) (tx_stop' : Int32) (no_apron' : Int32) (no_basket' : Int32) (no_ground' : Int32) (no_bruised' : Int32) (no_ladder' : Int32) (no_helper' : Int32) (no_today' : Int32) (no_clock' : Int32) (ru_given' : Nat → Int32) (ru_stack' : Nat → Int32) (pa_undoable' : Int32) (pa_free' : Int32) (pa_cells' : Nat → Int32) (ro_size' : Int32) (ro_numbers' : Nat → Int32), (0 ≤ Int32.toInt tx_length' ∧ Int32.toInt tx_length' ≤ 0) → (0 ≤ Int32.toInt tx_place' ∧ Int32.toInt tx_place' ≤ 80) → (0 ≤ Int32.toInt tx_stop' ∧ Int32.toInt tx_stop' ≤ 60) → (-1 ≤ Int32.toInt no_ladder' ∧ Int32.toInt no_ladder' ≤ 7) → (0 ≤ Int32.toInt no_today' ∧ Int32.toInt no_today' ≤ 9) → (0 ≤ Int32.toInt pa_undoable' ∧ Int32.toInt pa_undoable' ≤ 12) → (0 ≤ Int32.toInt pa_free' ∧ Int32.toInt pa_free' ≤ 12) → (∀ k : Nat, k % 8 = 4 → -1 ≤ Int32.toInt (pa_cells' k) ∧ Int32.toInt (pa_cells' k) ≤ 7) → (∀ k : Nat, k % 8 = 6 → 0 ≤ Int32.toInt (pa_cells' k) ∧ Int32.toInt (pa_cells' k) ≤ 9) → (0 ≤ Int32.toInt ro_size' ∧ Int32.toInt ro_size' ≤ 16) → post r x_acts' tx_length' tx_place' tx_stop' no_apron' no_basket' no_ground' no_bruised' no_ladder' no_helper' no_today' no_clock' ru_given' ru_stack' pa_undoable' pa_free' pa_cells' ro_size' ro_numbers') (x1 k0 : Int32) (vZ : Nat → Int32) (qI qJ rY jC eO eW dO fJ fY jD nG : Int32) (qO qQ : Nat → Int32) (oE uF : Int32) (sG : Nat → Int32) (qF : Int32) (jJ : Nat → Int32) (h_x1 : -1 ≤ Int32.toInt x1 ∧ Int32.toInt x1 ≤ 30) (h_k0 : 0 ≤ Int32.toInt k0 ∧ Int32.toInt k0 ≤ 1) (h_tx_length : 0 ≤ Int32.toInt qI ∧ Int32.toInt qI ≤ 80) (h_tx_place : 0 ≤ Int32.toInt qJ ∧ Int32.toInt qJ ≤ 80) (h_tx_stop : 0 ≤ Int32.toInt rY ∧ Int32.toInt rY ≤ 60) (h_no_ladder : -1 ≤ Int32.toInt fJ ∧ Int32.toInt fJ ≤ 7) (h_no_today : 0 ≤ Int32.toInt jD ∧ Int32.toInt jD ≤ 9) (h_pa_undoable : 0 ≤ Int32.toInt oE ∧ Int32.toInt oE ≤ 12) (h_pa_free : 0 ≤ Int32.toInt uF ∧ Int32.toInt uF ≤ 12) (e0_pa_cells : ∀ k : Nat, k % 8 = 4 → -1 ≤ Int32.toInt (sG k) ∧ Int32.toInt (sG k) ≤ 7) (e1_pa_cells : ∀ k : Nat, k % 8 = 6 → 0 ≤ Int32.toInt (sG k) ∧ Int32.toInt (sG k) ≤ 9) (h_ro_size : 0 ≤ Int32.toInt qF ∧ Int32.toInt qF ≤ 16) : ws_X9_day_48 post qM bZ bD wD gF pE qA nJ nY dQ pG oF x1 k0 vZ qI qJ rY jC eO eW dO fJ fY jD nG qO qQ oE uF sG qF jJ := by
  have l0 := li_m1
  have l1 := li_0
  refine And.intro (fun c1 => ?_) (fun c1 => ?_)
  · skip
    have c1 := (fa_eq _ _).mp c1
    have f2 : Int32.toInt ((-1) - qJ) = Int32.toInt ((-1) : Int32) - Int32.toInt qJ := ta_sub _ _ (by omega)
    obtain ⟨w3, ew3⟩ : ∃ w9 : Int32, w9 = (-1) - qJ := ⟨_, rfl⟩
    rw [← ew3] at f2
    have f4 := tp_r jC
    have f5 := tp_r eO
    have f6 := tp_r eW
    have f7 := tp_r dO
    have f8 := tp_r fY
    have f9 := tp_r nG
    have key9 := ts_X9_day_68 qM bZ bD wD gF pE qA nJ nY dQ pG oF h_tx_signs h_tr_fruits h_tr_standings h_ru_length hpost w3 vZ qI qJ rY jC eO eW dO fJ fY jD nG qO qQ oE uF sG qF jJ h_tx_length h_tx_place h_tx_stop h_no_ladder h_no_today h_pa_undoable h_pa_free e0_pa_cells e1_pa_cells h_ro_size
    subst ew3
    exact key9
  · skip
    have c1 := mt (fa_eq _ _).mpr c1
    refine t_X9_doActs h_x1 h_tr_fruits h_tr_standings h_no_ladder h_no_today h_ru_length h_pa_undoable h_pa_free e0_pa_cells e1_pa_cells h_ro_size (fun r25 no_apron_10 no_basket_11 no_ground_12 no_bruised_13 no_ladder_14 no_helper_15 no_today_16 no_clock_17 ru_given_18 ru_stack_19 pa_undoable_20 pa_free_21 pa_cells_22 ro_size_23 ro_numbers_24 h_no_ladder_14 h_no_today_16 h_pa_undoable_20 h_pa_free_21 e0_pa_cells_22 e1_pa_cells_22 h_ro_size_23 => ?_)
    have f26 := tp_r r25
    have f27 := tp_r no_apron_10
    have f28 := tp_r no_basket_11
    have f29 := tp_r no_ground_12
    have f30 := tp_r no_bruised_13
    have f31 := tp_r no_helper_15
    have f32 := tp_r no_clock_17
    exact ts_X9_day_68 qM bZ bD wD gF pE qA nJ nY dQ pG oF h_tx_signs h_tr_fruits h_tr_standings h_ru_length hpost r25 vZ qI qJ rY no_apron_10 no_basket_11 no_ground_12 no_bruised_13 no_ladder_14 no_helper_15 no_today_16 no_clock_17 ru_given_18 ru_stack_19 pa_undoable_20 pa_free_21 pa_cells_22 ro_size_23 ro_numbers_24 h_tx_length h_tx_place h_tx_stop h_no_ladder_14 h_no_today_16 h_pa_undoable_20 h_pa_free_21 e0_pa_cells_22 e1_pa_cells_22 (by omega)
set_option maxHeartbeats 8000000 in
set_option maxRecDepth 200000 in
theorem ts_X9_day_47 {post : Int32 → (Nat → Int32) → Int32 → Int32 → Int32 → Int32 → Int32 → Int32 → Int32 → Int32 → Int32 → Int32 → Int32 → (Nat → Int32) → (Nat → Int32) → Int32 → Int32 → (Nat → Int32) → Int32 → (Nat → Int32) → Prop} (qM : Nat → Int32) (bZ bD : Int32) (wD gF pE qA nJ nY dQ : Nat → Int32) (pG : Int32) (oF : Nat → Int32) (h_tx_signs : ∀ k : Nat, 0 ≤ Int32.toInt (qM k) ∧ Int32.toInt (qM k) ≤ 65535) (h_tr_fruits : 0 ≤ Int32.toInt bZ ∧ Int32.toInt bZ ≤ 16) (h_tr_standings : 0 ≤ Int32.toInt bD ∧ Int32.toInt bD ≤ 8) (h_ru_length : 0 ≤ Int32.toInt pG ∧ Int32.toInt pG ≤ 40) (hpost : ∀ (r : Int32) (x_acts' : Nat → Int32) (tx_length' : Int32) (tx_place' : Int32) (tx_stop' : Int32) (no_apron' : Int32) (no_basket' : Int32) (no_ground' : Int32) (no_bruised' : Int32) (no_ladder' : Int32) (no_helper' : Int32) (no_today' : Int32) (no_clock' : Int32) (ru_given' : Nat → Int32) (ru_stack' : Nat → Int32) (pa_undoable' : Int32) (pa_free' : Int32) (pa_cells' : Nat → Int32) (ro_size' : Int32) (ro_numbers' : Nat → Int32), (0 ≤ Int32.toInt tx_length' ∧ Int32.toInt tx_length' ≤ 0) → (0 ≤ Int32.toInt tx_place' ∧ Int32.toInt tx_place' ≤ 80) → (0 ≤ Int32.toInt tx_stop' ∧ Int32.toInt tx_stop' ≤ 60) → (-1 ≤ Int32.toInt no_ladder' ∧ Int32.toInt no_ladder' ≤ 7) → (0 ≤ Int32.toInt no_today' ∧ Int32.toInt no_today' ≤ 9) → (0 ≤ Int32.toInt pa_undoable' ∧ Int32.toInt pa_undoable' ≤ 12) → (0 ≤ Int32.toInt pa_free' ∧ Int32.toInt pa_free' ≤ 12) → (∀ k : Nat, k % 8 = 4 → -1 ≤ Int32.toInt (pa_cells' k) ∧ Int32.toInt (pa_cells' k) ≤ 7) → (∀ k : Nat, k % 8 = 6 → 0 ≤ Int32.toInt (pa_cells' k) ∧ Int32.toInt (pa_cells' k) ≤ 9) → (0 ≤ Int32.toInt ro_size' ∧ Int32.toInt ro_size' ≤ 16) → post r x_acts' tx_length' tx_place' tx_stop' no_apron' no_basket' no_ground' no_bruised' no_ladder' no_helper' no_today' no_clock' ru_given' ru_stack' pa_undoable' pa_free' pa_cells' ro_size' ro_numbers') (x1 : Int32) (vZ : Nat → Int32) (qI qJ rY jC eO eW dO fJ fY jD nG : Int32) (qO qQ : Nat → Int32) (oE uF : Int32) (sG : Nat → Int32) (qF : Int32) (jJ : Nat → Int32) (h_x1 : -1 ≤ Int32.toInt x1 ∧ Int32.toInt x1 ≤ 30) (h_tx_length : 0 ≤ Int32.toInt qI ∧ Int32.toInt qI ≤ 80) (h_tx_place : 0 ≤ Int32.toInt qJ ∧ Int32.toInt qJ ≤ 80) (h_tx_stop : 0 ≤ Int32.toInt rY ∧ Int32.toInt rY ≤ 60) (h_no_ladder : -1 ≤ Int32.toInt fJ ∧ Int32.toInt fJ ≤ 7) (h_no_today : 0 ≤ Int32.toInt jD ∧ Int32.toInt jD ≤ 9) (h_pa_undoable : 0 ≤ Int32.toInt oE ∧ Int32.toInt oE ≤ 12) (h_pa_free : 0 ≤ Int32.toInt uF ∧ Int32.toInt uF ≤ 12) (e0_pa_cells : ∀ k : Nat, k % 8 = 4 → -1 ≤ Int32.toInt (sG k) ∧ Int32.toInt (sG k) ≤ 7) (e1_pa_cells : ∀ k : Nat, k % 8 = 6 → 0 ≤ Int32.toInt (sG k) ∧ Int32.toInt (sG k) ≤ 9) (h_ro_size : 0 ≤ Int32.toInt qF ∧ Int32.toInt qF ≤ 16) : ws_X9_day_47 post qM bZ bD wD gF pE qA nJ nY dQ pG oF x1 vZ qI qJ rY jC eO eW dO fJ fY jD nG qO qQ oE uF sG qF jJ := by
  have l0 := li_0
  have f33 := tp_r jC
  have f34 := tp_r eO
  have f35 := tp_r eW
  have f36 := tp_r dO
  have f37 := tp_r fY
  have f38 := tp_r nG
  exact ts_X9_day_48 qM bZ bD wD gF pE qA nJ nY dQ pG oF h_tx_signs h_tr_fruits h_tr_standings h_ru_length hpost x1 0 vZ qI qJ rY jC eO eW dO fJ fY jD nG qO qQ oE uF sG qF jJ h_x1 (by omega) h_tx_length h_tx_place h_tx_stop h_no_ladder h_no_today h_pa_undoable h_pa_free e0_pa_cells e1_pa_cells h_ro_size
set_option maxHeartbeats 8000000 in
set_option maxRecDepth 200000 in
theorem ts_X9_day_27 {post : Int32 → (Nat → Int32) → Int32 → Int32 → Int32 → Int32 → Int32 → Int32 → Int32 → Int32 → Int32 → Int32 → Int32 → (Nat → Int32) → (Nat → Int32) → Int32 → Int32 → (Nat → Int32) → Int32 → (Nat → Int32) → Prop} (qM : Nat → Int32) (bZ bD : Int32) (wD gF pE qA nJ nY dQ : Nat → Int32) (pG : Int32) (oF : Nat → Int32) (h_tx_signs : ∀ k : Nat, 0 ≤ Int32.toInt (qM k) ∧ Int32.toInt (qM k) ≤ 65535) (h_tr_fruits : 0 ≤ Int32.toInt bZ ∧ Int32.toInt bZ ≤ 16) (h_tr_standings : 0 ≤ Int32.toInt bD ∧ Int32.toInt bD ≤ 8) (h_ru_length : 0 ≤ Int32.toInt pG ∧ Int32.toInt pG ≤ 40) (hpost : ∀ (r : Int32) (x_acts' : Nat → Int32) (tx_length' : Int32) (tx_place' : Int32) (tx_stop' : Int32) (no_apron' : Int32) (no_basket' : Int32) (no_ground' : Int32) (no_bruised' : Int32) (no_ladder' : Int32) (no_helper' : Int32) (no_today' : Int32) (no_clock' : Int32) (ru_given' : Nat → Int32) (ru_stack' : Nat → Int32) (pa_undoable' : Int32) (pa_free' : Int32) (pa_cells' : Nat → Int32) (ro_size' : Int32) (ro_numbers' : Nat → Int32), (0 ≤ Int32.toInt tx_length' ∧ Int32.toInt tx_length' ≤ 0) → (0 ≤ Int32.toInt tx_place' ∧ Int32.toInt tx_place' ≤ 80) → (0 ≤ Int32.toInt tx_stop' ∧ Int32.toInt tx_stop' ≤ 60) → (-1 ≤ Int32.toInt no_ladder' ∧ Int32.toInt no_ladder' ≤ 7) → (0 ≤ Int32.toInt no_today' ∧ Int32.toInt no_today' ≤ 9) → (0 ≤ Int32.toInt pa_undoable' ∧ Int32.toInt pa_undoable' ≤ 12) → (0 ≤ Int32.toInt pa_free' ∧ Int32.toInt pa_free' ≤ 12) → (∀ k : Nat, k % 8 = 4 → -1 ≤ Int32.toInt (pa_cells' k) ∧ Int32.toInt (pa_cells' k) ≤ 7) → (∀ k : Nat, k % 8 = 6 → 0 ≤ Int32.toInt (pa_cells' k) ∧ Int32.toInt (pa_cells' k) ≤ 9) → (0 ≤ Int32.toInt ro_size' ∧ Int32.toInt ro_size' ≤ 16) → post r x_acts' tx_length' tx_place' tx_stop' no_apron' no_basket' no_ground' no_bruised' no_ladder' no_helper' no_today' no_clock' ru_given' ru_stack' pa_undoable' pa_free' pa_cells' ro_size' ro_numbers') (k0 : Int32) (vZ : Nat → Int32) (qI qJ rY jC eO eW dO fJ fY jD nG : Int32) (qO qQ : Nat → Int32) (oE uF : Int32) (sG : Nat → Int32) (qF : Int32) (jJ : Nat → Int32) (h_k0 : -1 ≤ Int32.toInt k0 ∧ Int32.toInt k0 ≤ 30) (h_tx_length : 0 ≤ Int32.toInt qI ∧ Int32.toInt qI ≤ 80) (h_tx_place : 0 ≤ Int32.toInt qJ ∧ Int32.toInt qJ ≤ 80) (h_tx_stop : 0 ≤ Int32.toInt rY ∧ Int32.toInt rY ≤ 60) (h_no_ladder : -1 ≤ Int32.toInt fJ ∧ Int32.toInt fJ ≤ 7) (h_no_today : 0 ≤ Int32.toInt jD ∧ Int32.toInt jD ≤ 9) (h_pa_undoable : 0 ≤ Int32.toInt oE ∧ Int32.toInt oE ≤ 12) (h_pa_free : 0 ≤ Int32.toInt uF ∧ Int32.toInt uF ≤ 12) (e0_pa_cells : ∀ k : Nat, k % 8 = 4 → -1 ≤ Int32.toInt (sG k) ∧ Int32.toInt (sG k) ≤ 7) (e1_pa_cells : ∀ k : Nat, k % 8 = 6 → 0 ≤ Int32.toInt (sG k) ∧ Int32.toInt (sG k) ≤ 9) (h_ro_size : 0 ≤ Int32.toInt qF ∧ Int32.toInt qF ≤ 16) : ws_X9_day_27 post qM bZ bD wD gF pE qA nJ nY dQ pG oF k0 vZ qI qJ rY jC eO eW dO fJ fY jD nG qO qQ oE uF sG qF jJ := by
  have l0 := li_m1
  have l1 := li_1
  refine And.intro (fun c39 => ?_) (fun c39 => ?_)
  · skip
    have c39 := (fa_eq _ _).mp c39
    have f40 := tp_r jC
    have f41 := tp_r eO
    have f42 := tp_r eW
    have f43 := tp_r dO
    have f44 := tp_r fY
    have f45 := tp_r nG
    exact ts_X9_day_47 qM bZ bD wD gF pE qA nJ nY dQ pG oF h_tx_signs h_tr_fruits h_tr_standings h_ru_length hpost k0 vZ qI qJ rY jC eO eW dO fJ fY jD nG qO qQ oE uF sG qF jJ h_k0 h_tx_length h_tx_place h_tx_stop h_no_ladder h_no_today h_pa_undoable h_pa_free e0_pa_cells e1_pa_cells h_ro_size
  · skip
    have c39 := mt (fa_eq _ _).mpr c39
    refine And.intro (fun c46 => ?_) (fun c46 => ?_)
    · skip
      have c46 := mt (fa_eq _ _).mpr c46
      refine And.intro (fun _ => ?_) (fun h9 => absurd h9 (by decide))
      have f47 := tp_r jC
      have f48 := tp_r eO
      have f49 := tp_r eW
      have f50 := tp_r dO
      have f51 := tp_r fY
      have f52 := tp_r nG
      exact ts_X9_day_47 qM bZ bD wD gF pE qA nJ nY dQ pG oF h_tx_signs h_tr_fruits h_tr_standings h_ru_length hpost k0 vZ qI qJ rY jC eO eW dO fJ fY jD nG qO qQ oE uF sG qF jJ h_k0 h_tx_length h_tx_place h_tx_stop h_no_ladder h_no_today h_pa_undoable h_pa_free e0_pa_cells e1_pa_cells h_ro_size
    · skip
      have c46 := (fa_eq _ _).mp c46
      refine And.intro (fun h9 => absurd h9 (by decide)) (fun _ => ?_)
      have f53 := tp_r jC
      have f54 := tp_r eO
      have f55 := tp_r eW
      have f56 := tp_r dO
      have f57 := tp_r fY
      have f58 := tp_r nG
      exact ts_X9_day_48 qM bZ bD wD gF pE qA nJ nY dQ pG oF h_tx_signs h_tr_fruits h_tr_standings h_ru_length hpost k0 1 vZ qI qJ rY jC eO eW dO fJ fY jD nG qO qQ oE uF sG qF jJ h_k0 (by omega) h_tx_length h_tx_place h_tx_stop h_no_ladder h_no_today h_pa_undoable h_pa_free e0_pa_cells e1_pa_cells h_ro_size
set_option maxHeartbeats 8000000 in
set_option maxRecDepth 200000 in
theorem t_X9_day {post : Int32 → (Nat → Int32) → Int32 → Int32 → Int32 → Int32 → Int32 → Int32 → Int32 → Int32 → Int32 → Int32 → Int32 → (Nat → Int32) → (Nat → Int32) → Int32 → Int32 → (Nat → Int32) → Int32 → (Nat → Int32) → Prop} {vZ : Nat → Int32} {qI qJ rY : Int32} {qM : Nat → Int32} {bZ bD : Int32} {wD gF pE qA nJ nY dQ : Nat → Int32} {jC eO eW dO fJ fY jD nG pG : Int32} {qO qQ oF : Nat → Int32} {oE uF : Int32} {sG : Nat → Int32} {qF : Int32} {jJ : Nat → Int32} (h_tx_length : 0 ≤ Int32.toInt qI ∧ Int32.toInt qI ≤ 80) (h_tx_place : 0 ≤ Int32.toInt qJ ∧ Int32.toInt qJ ≤ 80) (h_tx_stop : 0 ≤ Int32.toInt rY ∧ Int32.toInt rY ≤ 80) (h_tx_signs : ∀ k : Nat, 0 ≤ Int32.toInt (qM k) ∧ Int32.toInt (qM k) ≤ 65535) (h_tr_fruits : 0 ≤ Int32.toInt bZ ∧ Int32.toInt bZ ≤ 16) (h_tr_standings : 0 ≤ Int32.toInt bD ∧ Int32.toInt bD ≤ 8) (h_no_ladder : -1 ≤ Int32.toInt fJ ∧ Int32.toInt fJ ≤ 7) (h_no_today : 0 ≤ Int32.toInt jD ∧ Int32.toInt jD ≤ 9) (h_ru_length : 0 ≤ Int32.toInt pG ∧ Int32.toInt pG ≤ 40) (h_pa_undoable : 0 ≤ Int32.toInt oE ∧ Int32.toInt oE ≤ 12) (h_pa_free : 0 ≤ Int32.toInt uF ∧ Int32.toInt uF ≤ 12) (e0_pa_cells : ∀ k : Nat, k % 8 = 4 → -1 ≤ Int32.toInt (sG k) ∧ Int32.toInt (sG k) ≤ 7) (e1_pa_cells : ∀ k : Nat, k % 8 = 6 → 0 ≤ Int32.toInt (sG k) ∧ Int32.toInt (sG k) ≤ 9) (h_ro_size : 0 ≤ Int32.toInt qF ∧ Int32.toInt qF ≤ 16) (hpost : ∀ (r : Int32) (x_acts' : Nat → Int32) (tx_length' : Int32) (tx_place' : Int32) (tx_stop' : Int32) (no_apron' : Int32) (no_basket' : Int32) (no_ground' : Int32) (no_bruised' : Int32) (no_ladder' : Int32) (no_helper' : Int32) (no_today' : Int32) (no_clock' : Int32) (ru_given' : Nat → Int32) (ru_stack' : Nat → Int32) (pa_undoable' : Int32) (pa_free' : Int32) (pa_cells' : Nat → Int32) (ro_size' : Int32) (ro_numbers' : Nat → Int32), (0 ≤ Int32.toInt tx_length' ∧ Int32.toInt tx_length' ≤ 0) → (0 ≤ Int32.toInt tx_place' ∧ Int32.toInt tx_place' ≤ 80) → (0 ≤ Int32.toInt tx_stop' ∧ Int32.toInt tx_stop' ≤ 60) → (-1 ≤ Int32.toInt no_ladder' ∧ Int32.toInt no_ladder' ≤ 7) → (0 ≤ Int32.toInt no_today' ∧ Int32.toInt no_today' ≤ 9) → (0 ≤ Int32.toInt pa_undoable' ∧ Int32.toInt pa_undoable' ≤ 12) → (0 ≤ Int32.toInt pa_free' ∧ Int32.toInt pa_free' ≤ 12) → (∀ k : Nat, k % 8 = 4 → -1 ≤ Int32.toInt (pa_cells' k) ∧ Int32.toInt (pa_cells' k) ≤ 7) → (∀ k : Nat, k % 8 = 6 → 0 ≤ Int32.toInt (pa_cells' k) ∧ Int32.toInt (pa_cells' k) ≤ 9) → (0 ≤ Int32.toInt ro_size' ∧ Int32.toInt ro_size' ≤ 16) → post r x_acts' tx_length' tx_place' tx_stop' no_apron' no_basket' no_ground' no_bruised' no_ladder' no_helper' no_today' no_clock' ru_given' ru_stack' pa_undoable' pa_free' pa_cells' ro_size' ro_numbers') : wp_X9_day post vZ qI qJ rY qM bZ bD wD gF pE qA nJ nY dQ jC eO eW dO fJ fY jD nG pG qO qQ oF oE uF sG qF jJ := by
  have l0 := li_0
  have l1 := li_60
  intro v59 ev59
  have f60 := ti_min qI (60 : Int32)
  have hv59 := congrArg Int32.toInt ev59
  refine And.intro (fun c61 => ?_) (fun c61 => ?_)
  · skip
    have c61 := mt (fa_eq _ _).mpr c61
    refine t_X9_readActs (by omega) (by omega) h_tx_signs (fun r64 x_acts_62 tx_place_63 h_r64 h_tx_place_63 => ?_)
    have f65 := tp_r jC
    have f66 := tp_r eO
    have f67 := tp_r eW
    have f68 := tp_r dO
    have f69 := tp_r fY
    have f70 := tp_r nG
    exact ts_X9_day_27 qM bZ bD wD gF pE qA nJ nY dQ pG oF h_tx_signs h_tr_fruits h_tr_standings h_ru_length hpost r64 x_acts_62 qI tx_place_63 v59 jC eO eW dO fJ fY jD nG qO qQ oE uF sG qF jJ h_r64 h_tx_length h_tx_place_63 (by omega) h_no_ladder h_no_today h_pa_undoable h_pa_free e0_pa_cells e1_pa_cells h_ro_size
  · skip
    have c61 := (fa_eq _ _).mp c61
    have f71 := tp_r jC
    have f72 := tp_r eO
    have f73 := tp_r eW
    have f74 := tp_r dO
    have f75 := tp_r fY
    have f76 := tp_r nG
    exact ts_X9_day_27 qM bZ bD wD gF pE qA nJ nY dQ pG oF h_tx_signs h_tr_fruits h_tr_standings h_ru_length hpost 0 vZ qI 0 v59 jC eO eW dO fJ fY jD nG qO qQ oE uF sG qF jJ (by omega) h_tx_length (by omega) (by omega) h_no_ladder h_no_today h_pa_undoable h_pa_free e0_pa_cells e1_pa_cells h_ro_size
