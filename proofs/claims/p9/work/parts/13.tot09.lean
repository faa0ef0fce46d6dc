set_option maxHeartbeats 8000000 in
set_option maxRecDepth 200000 in
theorem t_X9_again {post : Int32 → Int32 → Int32 → Int32 → Int32 → Int32 → Int32 → Int32 → Int32 → Int32 → Prop} {p0 : Int32} {no_apron : Int32} {no_basket : Int32} {no_ground : Int32} {no_bruised : Int32} {no_ladder : Int32} {no_helper : Int32} {no_today : Int32} {no_clock : Int32} {pa_undoable : Int32} {pa_keptCells : Nat → Int32} {pa_isKept : Nat → Int32} (h_no_ladder : -1 ≤ Int32.toInt no_ladder ∧ Int32.toInt no_ladder ≤ 7) (h_no_today : 0 ≤ Int32.toInt no_today ∧ Int32.toInt no_today ≤ 9) (h_pa_undoable : 0 ≤ Int32.toInt pa_undoable ∧ Int32.toInt pa_undoable ≤ 12) (e0_pa_keptCells : ∀ k : Nat, k % 8 = 4 → -1 ≤ Int32.toInt (pa_keptCells k) ∧ Int32.toInt (pa_keptCells k) ≤ 7) (e1_pa_keptCells : ∀ k : Nat, k % 8 = 6 → 0 ≤ Int32.toInt (pa_keptCells k) ∧ Int32.toInt (pa_keptCells k) ≤ 9) (h_pa_isKept : ∀ k : Nat, 0 ≤ Int32.toInt (pa_isKept k) ∧ Int32.toInt (pa_isKept k) ≤ 1) (hpost : ∀ (r : Int32) (no_apron' : Int32) (no_basket' : Int32) (no_ground' : Int32) (no_bruised' : Int32) (no_ladder' : Int32) (no_helper' : Int32) (no_today' : Int32) (no_clock' : Int32) (pa_undoable' : Int32), (0 ≤ Int32.toInt r ∧ Int32.toInt r ≤ 1) → (-1 ≤ Int32.toInt no_ladder' ∧ Int32.toInt no_ladder' ≤ 7) → (0 ≤ Int32.toInt no_today' ∧ Int32.toInt no_today' ≤ 9) → (0 ≤ Int32.toInt pa_undoable' ∧ Int32.toInt pa_undoable' ≤ 12) → post r no_apron' no_basket' no_ground' no_bruised' no_ladder' no_helper' no_today' no_clock' pa_undoable') : wp_X9_again post p0 no_apron no_basket no_ground no_bruised no_ladder no_helper no_today no_clock pa_undoable pa_keptCells pa_isKept := by
  have l0 : Int32.toInt (0 : Int32) = 0 := (by decide)
  have l1 : Int32.toInt (1 : Int32) = 1 := (by decide)
  have l2 : Int32.toInt (16 : Int32) = 16 := (by decide)
  have l3 : Int32.toInt (2 : Int32) = 2 := (by decide)
  have l4 : Int32.toInt (3 : Int32) = 3 := (by decide)
  have l5 : Int32.toInt (4 : Int32) = 4 := (by decide)
  have l6 : Int32.toInt (5 : Int32) = 5 := (by decide)
  have l7 : Int32.toInt (6 : Int32) = 6 := (by decide)
  have l8 : Int32.toInt (7 : Int32) = 7 := (by decide)
  have l9 : Int32.toInt (8 : Int32) = 8 := (by decide)
  have f2 := tp_r p0
  refine And.intro (fun c1 => ?_) (fun c1 => ?_)
  · skip
    have c1 := (fa_lt _ _).mp c1
    refine And.intro (t_bool (by omega)) ?_
    exact hpost _ _ _ _ _ _ _ _ _ _ (by omega) (by omega) (by omega) (by omega)
  · skip
    have c1 := mt (fa_lt _ _).mpr c1
    refine And.intro (fun c3 => ?_) (fun c3 => ?_)
    · skip
      have c3 := (fa_le _ _).mp c3
      refine And.intro (t_bool (by omega)) ?_
      exact hpost _ _ _ _ _ _ _ _ _ _ (by omega) (by omega) (by omega) (by omega)
    · skip
      have c3 := mt (fa_le _ _).mpr c3
      refine And.intro (t_in (by omega)) ?_
      have f5 := h_pa_isKept p0.toNatClampNeg
      refine And.intro (fun c4 => ?_) (fun c4 => ?_)
      · skip
        have c4 := mt (fa_eq _ _).mpr c4
        intro v6 ev6
        have f7 : Int32.toInt (p0 * 8) = Int32.toInt p0 * 8 := ta_mulc _ _ (by decide) (by omega)
        rw [← ev6] at f7
        refine And.intro (fun c8 => ?_) (fun c8 => ?_)
        · skip
          have c8 := (fa_lt _ _).mp c8
          exfalso; omega
        · skip
          have c8 := mt (fa_lt _ _).mpr c8
          have f10 : Int32.toInt (16 - 8) = Int32.toInt (16 : Int32) - Int32.toInt (8 : Int32) := ta_sub _ _ (by omega)
          refine And.intro (fun c9 => ?_) (fun c9 => ?_)
          · skip
            have c9 := (fa_le _ _).mp c9
            refine And.intro (t_in (by omega)) ?_
            intro v11 ev11
            have hv11 := congrArg Int32.toInt ev11
            intro v13 ev13
            have f14 : Int32.toInt (v6 + 1) = Int32.toInt v6 + Int32.toInt (1 : Int32) := ta_add _ _ (by omega)
            rw [← ev13] at f14
            refine And.intro (t_in (by omega)) ?_
            intro v15 ev15
            have hv15 := congrArg Int32.toInt ev15
            intro v17 ev17
            have f18 : Int32.toInt (v6 + 2) = Int32.toInt v6 + Int32.toInt (2 : Int32) := ta_add _ _ (by omega)
            rw [← ev17] at f18
            refine And.intro (t_in (by omega)) ?_
            intro v19 ev19
            have hv19 := congrArg Int32.toInt ev19
            intro v21 ev21
            have f22 : Int32.toInt (v6 + 3) = Int32.toInt v6 + Int32.toInt (3 : Int32) := ta_add _ _ (by omega)
            rw [← ev21] at f22
            refine And.intro (t_in (by omega)) ?_
            intro v23 ev23
            have hv23 := congrArg Int32.toInt ev23
            intro v25 ev25
            have f26 : Int32.toInt (v6 + 4) = Int32.toInt v6 + Int32.toInt (4 : Int32) := ta_add _ _ (by omega)
            rw [← ev25] at f26
            refine And.intro (t_in (by omega)) ?_
            have q27 := e0_pa_keptCells v25.toNatClampNeg (by have e9 : v25.toNatClampNeg = (Int32.toInt v25).toNat := rfl; omega)
            intro v28 ev28
            have hv28 := congrArg Int32.toInt ev28
            intro v30 ev30
            have f31 : Int32.toInt (v6 + 5) = Int32.toInt v6 + Int32.toInt (5 : Int32) := ta_add _ _ (by omega)
            rw [← ev30] at f31
            refine And.intro (t_in (by omega)) ?_
            intro v32 ev32
            have hv32 := congrArg Int32.toInt ev32
            intro v34 ev34
            have f35 : Int32.toInt (v6 + 6) = Int32.toInt v6 + Int32.toInt (6 : Int32) := ta_add _ _ (by omega)
            rw [← ev34] at f35
            refine And.intro (t_in (by omega)) ?_
            have q36 := e1_pa_keptCells v34.toNatClampNeg (by have e9 : v34.toNatClampNeg = (Int32.toInt v34).toNat := rfl; omega)
            intro v37 ev37
            have hv37 := congrArg Int32.toInt ev37
            intro v39 ev39
            have f40 : Int32.toInt (v6 + 7) = Int32.toInt v6 + Int32.toInt (7 : Int32) := ta_add _ _ (by omega)
            rw [← ev39] at f40
            refine And.intro (t_in (by omega)) ?_
            intro v41 ev41
            have hv41 := congrArg Int32.toInt ev41
            refine And.intro (t_bool (by omega)) ?_
            exact hpost _ _ _ _ _ _ _ _ _ _ (by omega) (by omega) (by omega) (by omega)
          · skip
            have c9 := mt (fa_le _ _).mpr c9
            exfalso; omega
      · skip
        have c4 := (fa_eq _ _).mp c4
        refine And.intro (t_bool (by omega)) ?_
        exact hpost _ _ _ _ _ _ _ _ _ _ (by omega) (by omega) (by omega) (by omega)
set_option maxHeartbeats 8000000 in
set_option maxRecDepth 200000 in
theorem t_X9_count {post : Int32 → Prop} {p0 : Int32} {tx_length : Int32} {tr_fruits : Int32} {tr_standings : Int32} {tr_worth : Nat → Int32} {no_apron : Int32} {no_basket : Int32} {no_ground : Int32} {no_bruised : Int32} {no_ladder : Int32} {no_today : Int32} {no_clock : Int32} {pa_undoable : Int32} {ro_size : Int32} (h_tx_length : 0 ≤ Int32.toInt tx_length ∧ Int32.toInt tx_length ≤ 80) (h_tr_fruits : 0 ≤ Int32.toInt tr_fruits ∧ Int32.toInt tr_fruits ≤ 16) (h_tr_standings : 0 ≤ Int32.toInt tr_standings ∧ Int32.toInt tr_standings ≤ 8) (h_no_ladder : -1 ≤ Int32.toInt no_ladder ∧ Int32.toInt no_ladder ≤ 7) (h_no_today : 0 ≤ Int32.toInt no_today ∧ Int32.toInt no_today ≤ 9) (h_pa_undoable : 0 ≤ Int32.toInt pa_undoable ∧ Int32.toInt pa_undoable ≤ 12) (h_ro_size : 0 ≤ Int32.toInt ro_size ∧ Int32.toInt ro_size ≤ 16) (hpost : ∀ (r : Int32) , post r) : wp_X9_count post p0 tx_length tr_fruits tr_standings tr_worth no_apron no_basket no_ground no_bruised no_ladder no_today no_clock pa_undoable ro_size := by
  have l0 : Int32.toInt (0 : Int32) = 0 := (by decide)
  have l1 : Int32.toInt (1 : Int32) = 1 := (by decide)
  have l2 : Int32.toInt (10 : Int32) = 10 := (by decide)
  have l3 : Int32.toInt (11 : Int32) = 11 := (by decide)
  have l4 : Int32.toInt (12 : Int32) = 12 := (by decide)
  have l5 : Int32.toInt (13 : Int32) = 13 := (by decide)
  have l6 : Int32.toInt (2 : Int32) = 2 := (by decide)
  have l7 : Int32.toInt (3 : Int32) = 3 := (by decide)
  have l8 : Int32.toInt (4 : Int32) = 4 := (by decide)
  have l9 : Int32.toInt (5 : Int32) = 5 := (by decide)
  have l10 : Int32.toInt (6 : Int32) = 6 := (by decide)
  have l11 : Int32.toInt (7 : Int32) = 7 := (by decide)
  have l12 : Int32.toInt (8 : Int32) = 8 := (by decide)
  have l13 : Int32.toInt (9 : Int32) = 9 := (by decide)
  have f1 := tp_r p0
  refine And.intro (fun c2 => ?_) ?_
  · skip
    have c2 := (fa_eq _ _).mp c2
    exact hpost _ 
  refine And.intro (fun c3 => ?_) ?_
  · skip
    have c3 := (fa_eq _ _).mp c3
    exact hpost _ 
  refine And.intro (fun c4 => ?_) ?_
  · skip
    have c4 := (fa_eq _ _).mp c4
    exact hpost _ 
  refine And.intro (fun c5 => ?_) ?_
  · skip
    have c5 := (fa_eq _ _).mp c5
    exact hpost _ 
  refine And.intro (fun c6 => ?_) ?_
  · skip
    have c6 := (fa_eq _ _).mp c6
    exact hpost _ 
  refine And.intro (fun c7 => ?_) ?_
  · skip
    have c7 := (fa_eq _ _).mp c7
    intro v8 ev8
    have f9 := ti_shl1 16 65536 tr_fruits (by decide) (by omega)
    have hv8 := congrArg Int32.toInt ev8
    intro v10 ev10
    intro v11 ev11
    exact hpost _ 
  refine And.intro (fun c12 => ?_) ?_
  · skip
    have c12 := (fa_eq _ _).mp c12
    exact hpost _ 
  refine And.intro (fun c13 => ?_) ?_
  · skip
    have c13 := (fa_eq _ _).mp c13
    exact hpost _ 
  refine And.intro (fun c14 => ?_) ?_
  · skip
    have c14 := (fa_eq _ _).mp c14
    exact hpost _ 
  refine And.intro (fun c15 => ?_) ?_
  · skip
    have c15 := (fa_eq _ _).mp c15
    exact hpost _ 
  refine And.intro (fun c16 => ?_) ?_
  · skip
    have c16 := (fa_eq _ _).mp c16
    refine t_X3_worthOf (by omega) (fun r17 => ?_)
    exact hpost _ 
  refine And.intro (fun c18 => ?_) ?_
  · skip
    have c18 := (fa_eq _ _).mp c18
    exact hpost _ 
  refine And.intro (fun c19 => ?_) ?_
  · skip
    have c19 := (fa_eq _ _).mp c19
    exact hpost _ 
  refine And.intro (fun c20 => ?_) ?_
  · skip
    have c20 := (fa_eq _ _).mp c20
    exact hpost _ 
  intro c21 c22 c23 c24 c25 c26 c27 c28 c29 c30 c31 c32 c33 c34
  have c21 := mt (fa_eq _ _).mpr c21
  have c22 := mt (fa_eq _ _).mpr c22
  have c23 := mt (fa_eq _ _).mpr c23
  have c24 := mt (fa_eq _ _).mpr c24
  have c25 := mt (fa_eq _ _).mpr c25
  have c26 := mt (fa_eq _ _).mpr c26
  have c27 := mt (fa_eq _ _).mpr c27
  have c28 := mt (fa_eq _ _).mpr c28
  have c29 := mt (fa_eq _ _).mpr c29
  have c30 := mt (fa_eq _ _).mpr c30
  have c31 := mt (fa_eq _ _).mpr c31
  have c32 := mt (fa_eq _ _).mpr c32
  have c33 := mt (fa_eq _ _).mpr c33
  have c34 := mt (fa_eq _ _).mpr c34
  exact hpost _ 
set_option maxHeartbeats 8000000 in
set_option maxRecDepth 200000 in
theorem t_X9_row {post : Int32 → Prop} {postx : Prop} {p0 : Int32} {ro_size : Int32} {ro_numbers : Nat → Int32} (h_ro_size : 0 ≤ Int32.toInt ro_size ∧ Int32.toInt ro_size ≤ 16) (hpost : ∀ (r : Int32) , post r) (hpx : postx) : wp_X9_row post postx p0 ro_size ro_numbers := by
  have l0 : Int32.toInt (0 : Int32) = 0 := (by decide)
  have f2 := tp_r p0
  refine And.intro (fun c1 => ?_) (fun c1 => ?_)
  · skip
    have c1 := (fa_lt _ _).mp c1
    exact hpx
  · skip
    have c1 := mt (fa_lt _ _).mpr c1
    refine And.intro (fun c3 => ?_) (fun c3 => ?_)
    · skip
      have c3 := (fa_lt _ _).mp c3
      refine And.intro (t_in (by omega)) ?_
      exact hpost _ 
    · skip
      have c3 := mt (fa_lt _ _).mpr c3
      exact hpx
set_option maxHeartbeats 8000000 in
set_option maxRecDepth 200000 in
theorem ts_X10_sign_20 {post : Int32 → Int32 → Int32 → (Nat → Int32) → Prop} {m_typed0 : Int32} {next : Int32 → Int32 → Int32 → Int32 → (Nat → Int32) → Prop} {n20 : Int} (hpost : ∀ (r : Int32) (m_typed' : Int32) (m_thrown' : Int32) (m_text' : Nat → Int32), (-1 ≤ Int32.toInt r ∧ Int32.toInt r ≤ 80) → (0 ≤ Int32.toInt m_typed' ∧ Int32.toInt m_typed' ≤ 80) → (0 ≤ Int32.toInt m_thrown' ∧ Int32.toInt m_thrown' ≤ 0) → (∀ k : Nat, -128 ≤ Int32.toInt (m_text' k) ∧ Int32.toInt (m_text' k) ≤ 127) → ((76 < Int32.toInt m_typed0 ∧ Int32.toInt r = -1 ∧ Int32.toInt m_typed' = Int32.toInt m_typed0) ∨ (Int32.toInt m_typed0 ≤ 76 ∧ Int32.toInt r = Int32.toInt m_typed' ∧ Int32.toInt m_typed' = Int32.toInt m_typed0 + 4)) → post r m_typed' m_thrown' m_text') (hKn : ∀ (x1 : Int32) (x2 : Int32) (m_typed : Int32) (m_thrown : Int32) (m_text : Nat → Int32), (-1 ≤ Int32.toInt x2 ∧ Int32.toInt x2 ≤ 3) → (0 ≤ Int32.toInt m_typed ∧ Int32.toInt m_typed ≤ 80) → (0 ≤ Int32.toInt m_thrown ∧ Int32.toInt m_thrown ≤ 0) → (∀ k : Nat, -128 ≤ Int32.toInt (m_text k) ∧ Int32.toInt (m_text k) ≤ 127) → (Int32.toInt m_typed + Int32.toInt x2 = Int32.toInt m_typed0 + 3) → (Int32.toInt m_typed0 ≤ 76) → (-1 ≤ Int32.toInt x2) → (Int32.toInt x2 + 1 < n20) → next x1 x2 m_typed m_thrown m_text) (x1 : Int32) (x2 : Int32) (m_typed : Int32) (m_thrown : Int32) (m_text : Nat → Int32) (h_x2 : -1 ≤ Int32.toInt x2 ∧ Int32.toInt x2 ≤ 3) (h_m_typed : 0 ≤ Int32.toInt m_typed ∧ Int32.toInt m_typed ≤ 80) (h_m_thrown : 0 ≤ Int32.toInt m_thrown ∧ Int32.toInt m_thrown ≤ 0) (h_m_text : ∀ k : Nat, -128 ≤ Int32.toInt (m_text k) ∧ Int32.toInt (m_text k) ≤ 127) (hx0 : Int32.toInt m_typed + Int32.toInt x2 = Int32.toInt m_typed0 + 3) (hx1 : Int32.toInt m_typed0 ≤ 76) (hx2 : -1 ≤ Int32.toInt x2) (hn20 : Int32.toInt x2 + 1 ≤ n20) : ws_X10_sign_20 post next x1 x2 m_typed m_thrown m_text := by
  have l0 : Int32.toInt ((-1) : Int32) = -1 := (by decide)
  have l1 : Int32.toInt (0 : Int32) = 0 := (by decide)
  have l2 : Int32.toInt (1 : Int32) = 1 := (by decide)
  refine And.intro (fun c1 => ?_) (fun c1 => ?_)
  · skip
    have c1 := (fa_lt _ _).mp c1
    exact hpost _ _ _ _ (by omega) (by omega) (by omega) (fun k => by have q9 := h_m_text k; omega) (by omega)
  · skip
    have c1 := mt (fa_lt _ _).mpr c1
    intro v2 ev2
    have f3 : Int32.toInt (m_typed + 1) = Int32.toInt m_typed + Int32.toInt (1 : Int32) := ta_add _ _ (by omega)
    rw [← ev2] at f3
    intro v4 ev4
    have hv4 := ti_i2b (x1 >>> ((8 * x2) &&& 31))
    rw [← ev4] at hv4
    refine And.intro (t_in (by omega)) ?_
    have qa5 := ti_nar_byte v4
    have a5 : ∀ k : Nat, -128 ≤ Int32.toInt ((upd m_text m_typed.toNatClampNeg (vp_nar .byte v4)) k) ∧ Int32.toInt ((upd m_text m_typed.toNatClampNeg (vp_nar .byte v4)) k) ≤ 127 := t_upd (fun k => by have q9 := h_m_text k; omega) (by omega)
    intro v6 ev6
    have f7 : Int32.toInt (x2 + (-1)) = Int32.toInt x2 + Int32.toInt ((-1) : Int32) := ta_add _ _ (by omega)
    rw [← ev6] at f7
    have f8 := tp_r x1
    exact hKn x1 v6 v2 m_thrown (upd m_text m_typed.toNatClampNeg (vp_nar .byte v4)) (by omega) (by omega) (by omega) (fun k => by have q9 := a5 k; omega) (by omega) (by omega) (by omega) (by omega)
set_option maxHeartbeats 8000000 in
set_option maxRecDepth 200000 in
theorem tb_X10_sign_20 {post : Int32 → Int32 → Int32 → (Nat → Int32) → Prop} {m_typed0 : Int32} (hpost : ∀ (r : Int32) (m_typed' : Int32) (m_thrown' : Int32) (m_text' : Nat → Int32), (-1 ≤ Int32.toInt r ∧ Int32.toInt r ≤ 80) → (0 ≤ Int32.toInt m_typed' ∧ Int32.toInt m_typed' ≤ 80) → (0 ≤ Int32.toInt m_thrown' ∧ Int32.toInt m_thrown' ≤ 0) → (∀ k : Nat, -128 ≤ Int32.toInt (m_text' k) ∧ Int32.toInt (m_text' k) ≤ 127) → ((76 < Int32.toInt m_typed0 ∧ Int32.toInt r = -1 ∧ Int32.toInt m_typed' = Int32.toInt m_typed0) ∨ (Int32.toInt m_typed0 ≤ 76 ∧ Int32.toInt r = Int32.toInt m_typed' ∧ Int32.toInt m_typed' = Int32.toInt m_typed0 + 4)) → post r m_typed' m_thrown' m_text') : ∀ (n : Nat) (x1 : Int32) (x2 : Int32) (m_typed : Int32) (m_thrown : Int32) (m_text : Nat → Int32), (-1 ≤ Int32.toInt x2 ∧ Int32.toInt x2 ≤ 3) → (0 ≤ Int32.toInt m_typed ∧ Int32.toInt m_typed ≤ 80) → (0 ≤ Int32.toInt m_thrown ∧ Int32.toInt m_thrown ≤ 0) → (∀ k : Nat, -128 ≤ Int32.toInt (m_text k) ∧ Int32.toInt (m_text k) ≤ 127) → (Int32.toInt m_typed + Int32.toInt x2 = Int32.toInt m_typed0 + 3) → (Int32.toInt m_typed0 ≤ 76) → (-1 ≤ Int32.toInt x2) → (Int32.toInt x2 + 1 < (n : Int)) → wb_X10_sign_20 post n x1 x2 m_typed m_thrown m_text := by
  intro n
  induction n with
  | zero =>
    intro x1 x2 m_typed m_thrown m_text h_x2 h_m_typed h_m_thrown h_m_text hx0 hx1 hx2 hm
    exfalso; omega
  | succ n ih =>
    intro x1 x2 m_typed m_thrown m_text h_x2 h_m_typed h_m_thrown h_m_text hx0 hx1 hx2 hm
    exact ts_X10_sign_20 hpost ih x1 x2 m_typed m_thrown m_text h_x2 h_m_typed h_m_thrown h_m_text hx0 hx1 hx2 (by omega)
set_option maxHeartbeats 8000000 in
set_option maxRecDepth 200000 in
theorem t_X10_sign {post : Int32 → Int32 → Int32 → (Nat → Int32) → Prop} {p0 : Int32} {m_typed : Int32} {m_thrown : Int32} {m_text : Nat → Int32} (h_m_typed : 0 ≤ Int32.toInt m_typed ∧ Int32.toInt m_typed ≤ 80) (h_m_thrown : 0 ≤ Int32.toInt m_thrown ∧ Int32.toInt m_thrown ≤ 1) (h_m_text : ∀ k : Nat, -128 ≤ Int32.toInt (m_text k) ∧ Int32.toInt (m_text k) ≤ 127) (hpost : ∀ (r : Int32) (m_typed' : Int32) (m_thrown' : Int32) (m_text' : Nat → Int32), (-1 ≤ Int32.toInt r ∧ Int32.toInt r ≤ 80) → (0 ≤ Int32.toInt m_typed' ∧ Int32.toInt m_typed' ≤ 80) → (0 ≤ Int32.toInt m_thrown' ∧ Int32.toInt m_thrown' ≤ 0) → (∀ k : Nat, -128 ≤ Int32.toInt (m_text' k) ∧ Int32.toInt (m_text' k) ≤ 127) → ((76 < Int32.toInt m_typed ∧ Int32.toInt r = -1 ∧ Int32.toInt m_typed' = Int32.toInt m_typed) ∨ (Int32.toInt m_typed ≤ 76 ∧ Int32.toInt r = Int32.toInt m_typed' ∧ Int32.toInt m_typed' = Int32.toInt m_typed + 4)) → post r m_typed' m_thrown' m_text') : wp_X10_sign post p0 m_typed m_thrown m_text := by
  have l0 : Int32.toInt ((-1) : Int32) = -1 := (by decide)
  have l1 : Int32.toInt (0 : Int32) = 0 := (by decide)
  have l2 : Int32.toInt (3 : Int32) = 3 := (by decide)
  have l3 : Int32.toInt (4 : Int32) = 4 := (by decide)
  have l4 : Int32.toInt (80 : Int32) = 80 := (by decide)
  intro v9 ev9
  have f10 : Int32.toInt (m_typed + 4) = Int32.toInt m_typed + Int32.toInt (4 : Int32) := ta_add _ _ (by omega)
  rw [← ev9] at f10
  refine And.intro (fun c11 => ?_) (fun c11 => ?_)
  · skip
    have c11 := (fa_le _ _).mp c11
    have f12 := tp_r p0
    exact ⟨6, tb_X10_sign_20 hpost _ p0 3 m_typed 0 m_text (by omega) (by omega) (by omega) (fun k => by have q9 := h_m_text k; omega) (by omega) (by omega) (by omega) (by omega)⟩
  · skip
    have c11 := mt (fa_le _ _).mpr c11
    exact hpost _ _ _ _ (by omega) (by omega) (by omega) (fun k => by have q9 := h_m_text k; omega) (by omega)
set_option maxHeartbeats 8000000 in
set_option maxRecDepth 200000 in
theorem t_X10_end {post : Int32 → Int32 → Int32 → Prop} {p0 : Int32} {m_typed : Int32} {m_thrown : Int32} (h_m_typed : 0 ≤ Int32.toInt m_typed ∧ Int32.toInt m_typed ≤ 80) (h_m_thrown : 0 ≤ Int32.toInt m_thrown ∧ Int32.toInt m_thrown ≤ 1) (hpost : ∀ (r : Int32) (m_typed' : Int32) (m_thrown' : Int32), (0 ≤ Int32.toInt r ∧ Int32.toInt r ≤ 1) → (0 ≤ Int32.toInt m_typed' ∧ Int32.toInt m_typed' ≤ 80) → (0 ≤ Int32.toInt m_thrown' ∧ Int32.toInt m_thrown' ≤ 0) → ((0 ≤ Int32.toInt p0 ∧ Int32.toInt p0 ≤ Int32.toInt m_typed ∧ Int32.toInt m_typed' = Int32.toInt p0 ∧ Int32.toInt r = 1) ∨ ((Int32.toInt p0 < 0 ∨ Int32.toInt m_typed < Int32.toInt p0) ∧ Int32.toInt m_typed' = Int32.toInt m_typed ∧ Int32.toInt r = 0)) → post r m_typed' m_thrown') : wp_X10_end post p0 m_typed m_thrown := by
  have l0 : Int32.toInt (0 : Int32) = 0 := (by decide)
  have l1 : Int32.toInt (1 : Int32) = 1 := (by decide)
  have f2 := tp_r p0
  refine And.intro (fun c1 => ?_) (fun c1 => ?_)
  · skip
    have c1 := (fa_lt _ _).mp c1
    refine And.intro (fun h9 => absurd h9 (by decide)) (fun _ => ?_)
    exact hpost _ _ _ (by omega) (by omega) (by omega) (by omega)
  · skip
    have c1 := mt (fa_lt _ _).mpr c1
    refine And.intro (fun c3 => ?_) (fun c3 => ?_)
    · skip
      have c3 := (fa_lt _ _).mp c3
      refine And.intro (fun h9 => absurd h9 (by decide)) (fun _ => ?_)
      exact hpost _ _ _ (by omega) (by omega) (by omega) (by omega)
    · skip
      have c3 := mt (fa_lt _ _).mpr c3
      refine And.intro (fun _ => ?_) (fun h9 => absurd h9 (by decide))
      exact hpost _ _ _ (by omega) (by omega) (by omega) (by omega)
theorem t_X10_here {post : Int32 → Prop} {m_read : Nat} {m_length : Int32} {m_top : Int32} {m_at : Int32} {m_text : Nat → Int32} {m_rule : Nat → Int32} (h_m_read : m_read = 1 ∨ m_read = 2) (h_m_length : 0 ≤ Int32.toInt m_length ∧ Int32.toInt m_length ≤ 80) (h_m_top : 0 ≤ Int32.toInt m_top ∧ Int32.toInt m_top ≤ 80) (h_m_at : 0 ≤ Int32.toInt m_at ∧ Int32.toInt m_at ≤ 80) (h_m_text : ∀ k : Nat, -128 ≤ Int32.toInt (m_text k) ∧ Int32.toInt (m_text k) ≤ 127) (h_m_rule : ∀ k : Nat, -128 ≤ Int32.toInt (m_rule k) ∧ Int32.toInt (m_rule k) ≤ 127) (hc0 : m_read = 2 → Int32.toInt m_top ≤ 40) (hpost : ∀ (r : Int32) , (-1 ≤ Int32.toInt r ∧ Int32.toInt r ≤ 255) → (Int32.toInt r = -1 ∨ (Int32.toInt m_at < Int32.toInt m_length ∧ Int32.toInt m_at < Int32.toInt m_top)) → (Int32.toInt r = Int32.toInt (hv m_read m_length m_top m_at m_text m_rule)) → post r) : wp_X10_here post m_read m_length m_top m_at m_text m_rule := by
  have l0 : Int32.toInt ((-1) : Int32) = -1 := (by decide)
  have l1 : Int32.toInt (255 : Int32) = 255 := (by decide)
  refine And.intro (fun c1 => ?_) (fun c1 => ?_)
  · have d1 := (fa_le _ _).mp c1
    refine hpost _ (by omega) (by omega) ?_
    rw [hv_neg (fun h9 => by have := (fa_lt _ _).mp h9.1; omega)]
  · have d1 := mt (fa_le _ _).mpr c1
    refine And.intro (fun c2 => ?_) (fun c2 => ?_)
    · have d2 := (fa_le _ _).mp c2
      refine hpost _ (by omega) (by omega) ?_
      rw [hv_neg (fun h9 => by have := (fa_lt _ _).mp h9.2; omega)]
    · have d2 := mt (fa_le _ _).mpr c2
      have d3 : m_at < m_length ∧ m_at < m_top := ⟨(fa_lt _ _).mpr (by omega), (fa_lt _ _).mpr (by omega)⟩
      rcases h_m_read with hd9 | hd9
      · refine Or.inl (And.intro hd9 (And.intro (t_in (by omega)) ?_))
        intro v1 e1 v2 e2
        have f1 := ti_andr v1 255 (by omega)
        have e3 := congrArg Int32.toInt e2
        refine hpost _ (by omega) (by omega) ?_
        rw [hv_pos d3, if_pos hd9, ← e1, e2]
      · refine Or.inr (And.intro hd9 (And.intro (t_in (by omega)) ?_))
        intro v1 e1 v2 e2
        have f1 := ti_andr v1 255 (by omega)
        have e3 := congrArg Int32.toInt e2
        refine hpost _ (by omega) (by omega) ?_
        rw [hv_pos d3, if_neg (by omega), ← e1, e2]
set_option maxHeartbeats 8000000 in
set_option maxRecDepth 200000 in
theorem ts_X10_number_66 {post : Int32 → Int32 → Int32 → Prop} {m_at0 : Int32} {p00 : Int32} (m_read : Nat) (m_length : Int32) (m_top : Int32) (m_text : Nat → Int32) (m_rule : Nat → Int32) (h_m_read : m_read = 1 ∨ m_read = 2) (h_m_length : 0 ≤ Int32.toInt m_length ∧ Int32.toInt m_length ≤ 80) (h_m_top : 0 ≤ Int32.toInt m_top ∧ Int32.toInt m_top ≤ 80) (h_m_text : ∀ k : Nat, -128 ≤ Int32.toInt (m_text k) ∧ Int32.toInt (m_text k) ≤ 127) (h_m_rule : ∀ k : Nat, -128 ≤ Int32.toInt (m_rule k) ∧ Int32.toInt (m_rule k) ≤ 127) (hc0 : m_read = 2 → Int32.toInt m_top ≤ 40) (hpost : ∀ (r : Int32) (m_at' : Int32) (m_wrong' : Int32), (0 ≤ Int32.toInt r ∧ Int32.toInt r ≤ 999) → (0 ≤ Int32.toInt m_at' ∧ Int32.toInt m_at' ≤ 80) → (-1 ≤ Int32.toInt m_wrong' ∧ Int32.toInt m_wrong' ≤ 80) → (Int32.toInt m_at0 ≤ Int32.toInt m_at') → (Int32.toInt m_at' ≤ Int32.toInt m_at0 ∨ Int32.toInt m_at' ≤ Int32.toInt m_top) → (Int32.toInt p00 ≤ 1 → Int32.toInt r ≤ 9) → (Int32.toInt p00 ≤ 2 → Int32.toInt r ≤ 99) → post r m_at' m_wrong') (x2 : Int32) (x3 : Int32) (m_at : Int32) (m_wrong : Int32) (h_x2 : 0 ≤ Int32.toInt x2 ∧ Int32.toInt x2 ≤ 80) (h_x3 : 0 ≤ Int32.toInt x3 ∧ Int32.toInt x3 ≤ 999) (h_m_at : 0 ≤ Int32.toInt m_at ∧ Int32.toInt m_at ≤ 80) (h_m_wrong : -1 ≤ Int32.toInt m_wrong ∧ Int32.toInt m_wrong ≤ -1) (hx0 : Int32.toInt m_at0 ≤ Int32.toInt m_at) (hx1 : Int32.toInt m_at ≤ Int32.toInt m_at0 ∨ Int32.toInt m_at ≤ Int32.toInt m_top) (hx2 : Int32.toInt p00 ≤ 1 → Int32.toInt x3 ≤ 9) (hx3 : Int32.toInt p00 ≤ 2 → Int32.toInt x3 ≤ 99) : ws_X10_number_66 post m_read m_length m_top m_text m_rule x2 x3 m_at m_wrong := by
  have l0 : Int32.toInt ((-1) : Int32) = -1 := (by decide)
  refine And.intro (fun c1 => ?_) (fun c1 => ?_)
  · skip
    have c1 := mt (fa_eq _ _).mpr c1
    exact hpost _ _ _ (by omega) (by omega) (by omega) (by omega) (by omega) (by omega) (by omega)
  · skip
    have c1 := (fa_eq _ _).mp c1
    refine And.intro (fun c2 => ?_) (fun c2 => ?_)
    · skip
      have c2 := mt (fa_eq _ _).mpr c2
      exfalso; omega
    · skip
      have c2 := (fa_eq _ _).mp c2
      refine And.intro (fun h9 => absurd h9 (by decide)) (fun _ => ?_)
      exact hpost _ _ _ (by omega) (by omega) (by omega) (by omega) (by omega) (by omega) (by omega)
set_option maxHeartbeats 8000000 in
set_option maxRecDepth 200000 in
theorem ts_X10_number_16 {post : Int32 → Int32 → Int32 → Prop} {m_at0 : Int32} {p00 : Int32} {next : Int32 → Int32 → Int32 → Int32 → Int32 → Prop} {n16 : Int} (m_read : Nat) (m_length : Int32) (m_top : Int32) (m_text : Nat → Int32) (m_rule : Nat → Int32) (h_m_read : m_read = 1 ∨ m_read = 2) (h_m_length : 0 ≤ Int32.toInt m_length ∧ Int32.toInt m_length ≤ 80) (h_m_top : 0 ≤ Int32.toInt m_top ∧ Int32.toInt m_top ≤ 80) (h_m_text : ∀ k : Nat, -128 ≤ Int32.toInt (m_text k) ∧ Int32.toInt (m_text k) ≤ 127) (h_m_rule : ∀ k : Nat, -128 ≤ Int32.toInt (m_rule k) ∧ Int32.toInt (m_rule k) ≤ 127) (hc0 : m_read = 2 → Int32.toInt m_top ≤ 40) (hpost : ∀ (r : Int32) (m_at' : Int32) (m_wrong' : Int32), (0 ≤ Int32.toInt r ∧ Int32.toInt r ≤ 999) → (0 ≤ Int32.toInt m_at' ∧ Int32.toInt m_at' ≤ 80) → (-1 ≤ Int32.toInt m_wrong' ∧ Int32.toInt m_wrong' ≤ 80) → (Int32.toInt m_at0 ≤ Int32.toInt m_at') → (Int32.toInt m_at' ≤ Int32.toInt m_at0 ∨ Int32.toInt m_at' ≤ Int32.toInt m_top) → (Int32.toInt p00 ≤ 1 → Int32.toInt r ≤ 9) → (Int32.toInt p00 ≤ 2 → Int32.toInt r ≤ 99) → post r m_at' m_wrong') (hKn : ∀ (x1 : Int32) (x2 : Int32) (x3 : Int32) (m_at : Int32) (m_wrong : Int32), (1 ≤ Int32.toInt x1 ∧ Int32.toInt x1 ≤ 3) → (0 ≤ Int32.toInt x2 ∧ Int32.toInt x2 ≤ 80) → (0 ≤ Int32.toInt x3 ∧ Int32.toInt x3 ≤ 999) → (0 ≤ Int32.toInt m_at ∧ Int32.toInt m_at ≤ 80) → (-1 ≤ Int32.toInt m_wrong ∧ Int32.toInt m_wrong ≤ -1) → (Int32.toInt m_at0 ≤ Int32.toInt m_at) → (Int32.toInt m_at ≤ Int32.toInt m_at0 ∨ Int32.toInt m_at ≤ Int32.toInt m_top) → (Int32.toInt x1 = Int32.toInt p00) → ((Int32.toInt x3 = 0 ∧ (Int32.toInt m_at - Int32.toInt x2) = 0) ∨ (Int32.toInt x3 ≤ 9 ∧ (Int32.toInt m_at - Int32.toInt x2) = 1) ∨ (Int32.toInt x3 ≤ 99 ∧ (Int32.toInt m_at - Int32.toInt x2) = 2) ∨ (Int32.toInt x3 ≤ 999 ∧ (Int32.toInt m_at - Int32.toInt x2) = 3)) → ((Int32.toInt m_at - Int32.toInt x2) ≤ Int32.toInt x1) → (80 - Int32.toInt m_at < n16) → next x1 x2 x3 m_at m_wrong) (x1 : Int32) (x2 : Int32) (x3 : Int32) (m_at : Int32) (m_wrong : Int32) (h_x1 : 1 ≤ Int32.toInt x1 ∧ Int32.toInt x1 ≤ 3) (h_x2 : 0 ≤ Int32.toInt x2 ∧ Int32.toInt x2 ≤ 80) (h_x3 : 0 ≤ Int32.toInt x3 ∧ Int32.toInt x3 ≤ 999) (h_m_at : 0 ≤ Int32.toInt m_at ∧ Int32.toInt m_at ≤ 80) (h_m_wrong : -1 ≤ Int32.toInt m_wrong ∧ Int32.toInt m_wrong ≤ -1) (hx0 : Int32.toInt m_at0 ≤ Int32.toInt m_at) (hx1 : Int32.toInt m_at ≤ Int32.toInt m_at0 ∨ Int32.toInt m_at ≤ Int32.toInt m_top) (hx2 : Int32.toInt x1 = Int32.toInt p00) (hx3 : (Int32.toInt x3 = 0 ∧ (Int32.toInt m_at - Int32.toInt x2) = 0) ∨ (Int32.toInt x3 ≤ 9 ∧ (Int32.toInt m_at - Int32.toInt x2) = 1) ∨ (Int32.toInt x3 ≤ 99 ∧ (Int32.toInt m_at - Int32.toInt x2) = 2) ∨ (Int32.toInt x3 ≤ 999 ∧ (Int32.toInt m_at - Int32.toInt x2) = 3)) (hx4 : (Int32.toInt m_at - Int32.toInt x2) ≤ Int32.toInt x1) (hn16 : 80 - Int32.toInt m_at ≤ n16) : ws_X10_number_16 post next m_read m_length m_top m_text m_rule x1 x2 x3 m_at m_wrong := by
  have l0 : Int32.toInt (1 : Int32) = 1 := (by decide)
  have l1 : Int32.toInt (10 : Int32) = 10 := (by decide)
  have l2 : Int32.toInt (48 : Int32) = 48 := (by decide)
  have l3 : Int32.toInt (57 : Int32) = 57 := (by decide)
  have f4 : Int32.toInt (x2 + x1) = Int32.toInt x2 + Int32.toInt x1 := ta_add _ _ (by omega)
  refine And.intro (fun c3 => ?_) (fun c3 => ?_)
  · skip
    have c3 := (fa_le _ _).mp c3
    exact ts_X10_number_66 m_read m_length m_top m_text m_rule h_m_read h_m_length h_m_top h_m_text h_m_rule hc0 hpost x2 x3 m_at m_wrong (by omega) (by omega) (by omega) (by omega) (by omega) (by omega) (by omega) (by omega)
  · skip
    have c3 := mt (fa_le _ _).mpr c3
    refine t_X10_here (by first | exact h_m_read | exact Or.inl rfl | exact Or.inr rfl | omega) (by omega) (by omega) (by omega) (fun k => by have q9 := h_m_text k; omega) (fun k => by have q9 := h_m_rule k; omega) (by omega) (fun r5 h_r5 ox6 ox7 => ?_)
    refine And.intro (fun c8 => ?_) (fun c8 => ?_)
    · skip
      have c8 := (fa_lt _ _).mp c8
      refine And.intro (fun _ => ?_) (fun h9 => absurd h9 (by decide))
      exact ts_X10_number_66 m_read m_length m_top m_text m_rule h_m_read h_m_length h_m_top h_m_text h_m_rule hc0 hpost x2 x3 m_at m_wrong (by omega) (by omega) (by omega) (by omega) (by omega) (by omega) (by omega) (by omega)
    · skip
      have c8 := mt (fa_lt _ _).mpr c8
      refine And.intro (fun c9 => ?_) (fun c9 => ?_)
      · skip
        have c9 := (fa_lt _ _).mp c9
        refine And.intro (fun _ => ?_) (fun h9 => absurd h9 (by decide))
        exact ts_X10_number_66 m_read m_length m_top m_text m_rule h_m_read h_m_length h_m_top h_m_text h_m_rule hc0 hpost x2 x3 m_at m_wrong (by omega) (by omega) (by omega) (by omega) (by omega) (by omega) (by omega) (by omega)
      · skip
        have c9 := mt (fa_lt _ _).mpr c9
        refine And.intro (fun h9 => absurd h9 (by decide)) (fun _ => ?_)
        intro v10 ev10
        have f11 : Int32.toInt (10 * x3) = Int32.toInt x3 * 10 := ta_cmul _ _ (by decide) (by omega)
        rw [← ev10] at f11
        refine t_X10_here (by first | exact h_m_read | exact Or.inl rfl | exact Or.inr rfl | omega) (by omega) (by omega) (by omega) (fun k => by have q9 := h_m_text k; omega) (fun k => by have q9 := h_m_rule k; omega) (by omega) (fun r12 h_r12 ox13 ox14 => ?_)
        intro v15 ev15
        have f16 : Int32.toInt (v10 + r12) = Int32.toInt v10 + Int32.toInt r12 := ta_add _ _ (by omega)
        rw [← ev15] at f16
        intro v17 ev17
        have f18 : Int32.toInt (v15 - 48) = Int32.toInt v15 - Int32.toInt (48 : Int32) := ta_sub _ _ (by omega)
        rw [← ev17] at f18
        intro v19 ev19
        have f20 : Int32.toInt (m_at + 1) = Int32.toInt m_at + Int32.toInt (1 : Int32) := ta_add _ _ (by omega)
        rw [← ev19] at f20
        exact hKn x1 x2 v17 v19 m_wrong (by omega) (by omega) (by omega) (by omega) (by omega) (by omega) (by omega) (by omega) (by omega) (by omega) (by omega)
set_option maxHeartbeats 8000000 in
set_option maxRecDepth 200000 in
theorem tb_X10_number_16 {post : Int32 → Int32 → Int32 → Prop} {m_at0 : Int32} {p00 : Int32} (m_read : Nat) (m_length : Int32) (m_top : Int32) (m_text : Nat → Int32) (m_rule : Nat → Int32) (h_m_read : m_read = 1 ∨ m_read = 2) (h_m_length : 0 ≤ Int32.toInt m_length ∧ Int32.toInt m_length ≤ 80) (h_m_top : 0 ≤ Int32.toInt m_top ∧ Int32.toInt m_top ≤ 80) (h_m_text : ∀ k : Nat, -128 ≤ Int32.toInt (m_text k) ∧ Int32.toInt (m_text k) ≤ 127) (h_m_rule : ∀ k : Nat, -128 ≤ Int32.toInt (m_rule k) ∧ Int32.toInt (m_rule k) ≤ 127) (hc0 : m_read = 2 → Int32.toInt m_top ≤ 40) (hpost : ∀ (r : Int32) (m_at' : Int32) (m_wrong' : Int32), (0 ≤ Int32.toInt r ∧ Int32.toInt r ≤ 999) → (0 ≤ Int32.toInt m_at' ∧ Int32.toInt m_at' ≤ 80) → (-1 ≤ Int32.toInt m_wrong' ∧ Int32.toInt m_wrong' ≤ 80) → (Int32.toInt m_at0 ≤ Int32.toInt m_at') → (Int32.toInt m_at' ≤ Int32.toInt m_at0 ∨ Int32.toInt m_at' ≤ Int32.toInt m_top) → (Int32.toInt p00 ≤ 1 → Int32.toInt r ≤ 9) → (Int32.toInt p00 ≤ 2 → Int32.toInt r ≤ 99) → post r m_at' m_wrong') : ∀ (n : Nat) (x1 : Int32) (x2 : Int32) (x3 : Int32) (m_at : Int32) (m_wrong : Int32), (1 ≤ Int32.toInt x1 ∧ Int32.toInt x1 ≤ 3) → (0 ≤ Int32.toInt x2 ∧ Int32.toInt x2 ≤ 80) → (0 ≤ Int32.toInt x3 ∧ Int32.toInt x3 ≤ 999) → (0 ≤ Int32.toInt m_at ∧ Int32.toInt m_at ≤ 80) → (-1 ≤ Int32.toInt m_wrong ∧ Int32.toInt m_wrong ≤ -1) → (Int32.toInt m_at0 ≤ Int32.toInt m_at) → (Int32.toInt m_at ≤ Int32.toInt m_at0 ∨ Int32.toInt m_at ≤ Int32.toInt m_top) → (Int32.toInt x1 = Int32.toInt p00) → ((Int32.toInt x3 = 0 ∧ (Int32.toInt m_at - Int32.toInt x2) = 0) ∨ (Int32.toInt x3 ≤ 9 ∧ (Int32.toInt m_at - Int32.toInt x2) = 1) ∨ (Int32.toInt x3 ≤ 99 ∧ (Int32.toInt m_at - Int32.toInt x2) = 2) ∨ (Int32.toInt x3 ≤ 999 ∧ (Int32.toInt m_at - Int32.toInt x2) = 3)) → ((Int32.toInt m_at - Int32.toInt x2) ≤ Int32.toInt x1) → (80 - Int32.toInt m_at < (n : Int)) → wb_X10_number_16 post m_read m_length m_top m_text m_rule n x1 x2 x3 m_at m_wrong := by
  intro n
  induction n with
  | zero =>
    intro x1 x2 x3 m_at m_wrong h_x1 h_x2 h_x3 h_m_at h_m_wrong hx0 hx1 hx2 hx3 hx4 hm
    exfalso; omega
  | succ n ih =>
    intro x1 x2 x3 m_at m_wrong h_x1 h_x2 h_x3 h_m_at h_m_wrong hx0 hx1 hx2 hx3 hx4 hm
    exact ts_X10_number_16 m_read m_length m_top m_text m_rule h_m_read h_m_length h_m_top h_m_text h_m_rule hc0 hpost ih x1 x2 x3 m_at m_wrong h_x1 h_x2 h_x3 h_m_at h_m_wrong hx0 hx1 hx2 hx3 hx4 (by omega)
set_option maxHeartbeats 8000000 in
set_option maxRecDepth 200000 in
theorem t_X10_number {post : Int32 → Int32 → Int32 → Prop} {p0 : Int32} {m_read : Nat} {m_length : Int32} {m_top : Int32} {m_at : Int32} {m_wrong : Int32} {m_text : Nat → Int32} {m_rule : Nat → Int32} (h_p0 : 1 ≤ Int32.toInt p0 ∧ Int32.toInt p0 ≤ 3) (h_m_read : m_read = 1 ∨ m_read = 2) (h_m_length : 0 ≤ Int32.toInt m_length ∧ Int32.toInt m_length ≤ 80) (h_m_top : 0 ≤ Int32.toInt m_top ∧ Int32.toInt m_top ≤ 80) (h_m_at : 0 ≤ Int32.toInt m_at ∧ Int32.toInt m_at ≤ 80) (h_m_wrong : -1 ≤ Int32.toInt m_wrong ∧ Int32.toInt m_wrong ≤ 80) (h_m_text : ∀ k : Nat, -128 ≤ Int32.toInt (m_text k) ∧ Int32.toInt (m_text k) ≤ 127) (h_m_rule : ∀ k : Nat, -128 ≤ Int32.toInt (m_rule k) ∧ Int32.toInt (m_rule k) ≤ 127) (hc0 : m_read = 2 → Int32.toInt m_top ≤ 40) (hpost : ∀ (r : Int32) (m_at' : Int32) (m_wrong' : Int32), (0 ≤ Int32.toInt r ∧ Int32.toInt r ≤ 999) → (0 ≤ Int32.toInt m_at' ∧ Int32.toInt m_at' ≤ 80) → (-1 ≤ Int32.toInt m_wrong' ∧ Int32.toInt m_wrong' ≤ 80) → (Int32.toInt m_at ≤ Int32.toInt m_at') → (Int32.toInt m_at' ≤ Int32.toInt m_at ∨ Int32.toInt m_at' ≤ Int32.toInt m_top) → (Int32.toInt p0 ≤ 1 → Int32.toInt r ≤ 9) → (Int32.toInt p0 ≤ 2 → Int32.toInt r ≤ 99) → post r m_at' m_wrong') : wp_X10_number post p0 m_read m_length m_top m_at m_wrong m_text m_rule := by
  have l0 : Int32.toInt ((-1) : Int32) = -1 := (by decide)
  have l1 : Int32.toInt (0 : Int32) = 0 := (by decide)
  refine And.intro (fun c21 => ?_) (fun c21 => ?_)
  · skip
    have c21 := mt (fa_eq _ _).mpr c21
    refine And.intro (fun h9 => absurd h9 (by decide)) (fun _ => ?_)
    exact hpost _ _ _ (by omega) (by omega) (by omega) (by omega) (by omega) (by omega) (by omega)
  · skip
    have c21 := (fa_eq _ _).mp c21
    refine And.intro (fun _ => ?_) (fun h9 => absurd h9 (by decide))
    exact ⟨82, tb_X10_number_16 m_read m_length m_top m_text m_rule h_m_read h_m_length h_m_top h_m_text h_m_rule hc0 hpost _ p0 m_at 0 m_at m_wrong (by omega) (by omega) (by omega) (by omega) (by omega) (by omega) (by omega) (by omega) (by omega) (by omega) (by omega)⟩
set_option maxHeartbeats 8000000 in
set_option maxRecDepth 200000 in
theorem ts_X10_readLine_121 {post : Int32 → Int32 → Int32 → Int32 → (Nat → Int32) → (Nat → Int32) → Prop} {m_at0 : Int32} (m_fruits : Int32) (m_standings : Int32) (m_read : Nat) (m_length : Int32) (m_top : Int32) (m_text : Nat → Int32) (m_rule : Nat → Int32) (h_m_fruits : 0 ≤ Int32.toInt m_fruits ∧ Int32.toInt m_fruits ≤ 16) (h_m_standings : 0 ≤ Int32.toInt m_standings ∧ Int32.toInt m_standings ≤ 8) (h_m_read : m_read = 1) (h_m_length : 1 ≤ Int32.toInt m_length ∧ Int32.toInt m_length ≤ 80) (h_m_top : 76 ≤ Int32.toInt m_top ∧ Int32.toInt m_top ≤ 76) (h_m_text : ∀ k : Nat, -128 ≤ Int32.toInt (m_text k) ∧ Int32.toInt (m_text k) ≤ 127) (h_m_rule : ∀ k : Nat, -128 ≤ Int32.toInt (m_rule k) ∧ Int32.toInt (m_rule k) ≤ 127) (hpost : ∀ (m_at' : Int32) (m_wrong' : Int32) (m_newFruitMany' : Int32) (m_newStandingMany' : Int32) (m_newFruits' : Nat → Int32) (m_newStandings' : Nat → Int32), (0 ≤ Int32.toInt m_at' ∧ Int32.toInt m_at' ≤ 80) → (-1 ≤ Int32.toInt m_wrong' ∧ Int32.toInt m_wrong' ≤ 80) → (0 ≤ Int32.toInt m_newFruitMany' ∧ Int32.toInt m_newFruitMany' ≤ 16) → (0 ≤ Int32.toInt m_newStandingMany' ∧ Int32.toInt m_newStandingMany' ≤ 8) → (∀ k : Nat, k % 4 = 0 → 0 ≤ Int32.toInt (m_newFruits' k) ∧ Int32.toInt (m_newFruits' k) ≤ 99) → (∀ k : Nat, k % 4 = 1 → 0 ≤ Int32.toInt (m_newFruits' k) ∧ Int32.toInt (m_newFruits' k) ≤ 99) → (∀ k : Nat, k % 4 = 2 → 0 ≤ Int32.toInt (m_newFruits' k) ∧ Int32.toInt (m_newFruits' k) ≤ 9) → (∀ k : Nat, k % 4 = 3 → 0 ≤ Int32.toInt (m_newFruits' k) ∧ Int32.toInt (m_newFruits' k) ≤ 9) → (∀ k : Nat, 0 ≤ Int32.toInt (m_newFruits' k) ∧ Int32.toInt (m_newFruits' k) ≤ 99) → (∀ k : Nat, 0 ≤ Int32.toInt (m_newStandings' k) ∧ Int32.toInt (m_newStandings' k) ≤ 99) → (Int32.toInt m_fruits + Int32.toInt m_newFruitMany' ≤ 16) → (Int32.toInt m_standings + Int32.toInt m_newStandingMany' ≤ 8) → (Int32.toInt m_at0 ≤ Int32.toInt m_at') → post m_at' m_wrong' m_newFruitMany' m_newStandingMany' m_newFruits' m_newStandings') (k1 : Int32) (k2 : Int32) (m_at : Int32) (m_wrong : Int32) (m_newFruitMany : Int32) (m_newStandingMany : Int32) (m_newFruits : Nat → Int32) (m_newStandings : Nat → Int32) (h_k1 : 3 ≤ Int32.toInt k1 ∧ Int32.toInt k1 ≤ 63) (h_k2 : 0 ≤ Int32.toInt k2 ∧ Int32.toInt k2 ≤ 9) (h_m_at : 0 ≤ Int32.toInt m_at ∧ Int32.toInt m_at ≤ 80) (h_m_wrong : -1 ≤ Int32.toInt m_wrong ∧ Int32.toInt m_wrong ≤ 80) (h_m_newFruitMany : 0 ≤ Int32.toInt m_newFruitMany ∧ Int32.toInt m_newFruitMany ≤ 16) (h_m_newStandingMany : 0 ≤ Int32.toInt m_newStandingMany ∧ Int32.toInt m_newStandingMany ≤ 8) (e0_m_newFruits : ∀ k : Nat, k % 4 = 0 → 0 ≤ Int32.toInt (m_newFruits k) ∧ Int32.toInt (m_newFruits k) ≤ 99) (e1_m_newFruits : ∀ k : Nat, k % 4 = 1 → 0 ≤ Int32.toInt (m_newFruits k) ∧ Int32.toInt (m_newFruits k) ≤ 99) (e2_m_newFruits : ∀ k : Nat, k % 4 = 2 → 0 ≤ Int32.toInt (m_newFruits k) ∧ Int32.toInt (m_newFruits k) ≤ 9) (e3_m_newFruits : ∀ k : Nat, k % 4 = 3 → 0 ≤ Int32.toInt (m_newFruits k) ∧ Int32.toInt (m_newFruits k) ≤ 9) (h_m_newFruits : ∀ k : Nat, 0 ≤ Int32.toInt (m_newFruits k) ∧ Int32.toInt (m_newFruits k) ≤ 99) (h_m_newStandings : ∀ k : Nat, 0 ≤ Int32.toInt (m_newStandings k) ∧ Int32.toInt (m_newStandings k) ≤ 99) (hx0 : Int32.toInt m_fruits + Int32.toInt m_newFruitMany ≤ 15) (hx1 : Int32.toInt m_standings + Int32.toInt m_newStandingMany ≤ 8) (hx2 : Int32.toInt m_at0 ≤ Int32.toInt m_at) (hx3 : Int32.toInt k1 % 4 = 3) : ws_X10_readLine_121 post m_fruits m_standings m_read m_length m_top m_text m_rule k1 k2 m_at m_wrong m_newFruitMany m_newStandingMany m_newFruits m_newStandings := by
  have l0 : Int32.toInt (1 : Int32) = 1 := (by decide)
  refine And.intro (t_in (by omega)) ?_
  have a1 : ∀ k : Nat, 0 ≤ Int32.toInt ((upd m_newFruits k1.toNatClampNeg k2) k) ∧ Int32.toInt ((upd m_newFruits k1.toNatClampNeg k2) k) ≤ 99 := t_upd (fun k => by have q9 := h_m_newFruits k; omega) (by omega)
  have e2 : ∀ k : Nat, k % 4 = 0 → 0 ≤ Int32.toInt ((upd m_newFruits k1.toNatClampNeg k2) k) ∧ Int32.toInt ((upd m_newFruits k1.toNatClampNeg k2) k) ≤ 99 := t_updc (C := fun k => k % 4 = 0) e0_m_newFruits (fun hk => by have e9 : k1.toNatClampNeg = (Int32.toInt k1).toNat := rfl; have hk : k1.toNatClampNeg % 4 = 0 := hk; omega)
  have e3 : ∀ k : Nat, k % 4 = 1 → 0 ≤ Int32.toInt ((upd m_newFruits k1.toNatClampNeg k2) k) ∧ Int32.toInt ((upd m_newFruits k1.toNatClampNeg k2) k) ≤ 99 := t_updc (C := fun k => k % 4 = 1) e1_m_newFruits (fun hk => by have e9 : k1.toNatClampNeg = (Int32.toInt k1).toNat := rfl; have hk : k1.toNatClampNeg % 4 = 1 := hk; omega)
  have e4 : ∀ k : Nat, k % 4 = 2 → 0 ≤ Int32.toInt ((upd m_newFruits k1.toNatClampNeg k2) k) ∧ Int32.toInt ((upd m_newFruits k1.toNatClampNeg k2) k) ≤ 9 := t_updc (C := fun k => k % 4 = 2) e2_m_newFruits (fun hk => by have e9 : k1.toNatClampNeg = (Int32.toInt k1).toNat := rfl; have hk : k1.toNatClampNeg % 4 = 2 := hk; omega)
  have e5 : ∀ k : Nat, k % 4 = 3 → 0 ≤ Int32.toInt ((upd m_newFruits k1.toNatClampNeg k2) k) ∧ Int32.toInt ((upd m_newFruits k1.toNatClampNeg k2) k) ≤ 9 := t_updc (C := fun k => k % 4 = 3) e3_m_newFruits (fun hk => by have e9 : k1.toNatClampNeg = (Int32.toInt k1).toNat := rfl; have hk : k1.toNatClampNeg % 4 = 3 := hk; omega)
  intro v6 ev6
  have f7 : Int32.toInt (m_newFruitMany + 1) = Int32.toInt m_newFruitMany + Int32.toInt (1 : Int32) := ta_add _ _ (by omega)
  rw [← ev6] at f7
  exact hpost _ _ _ _ _ _ (by omega) (by omega) (by omega) (by omega) e2 e3 e4 e5 (fun k => by have q9 := a1 k; omega) (fun k => by have q9 := h_m_newStandings k; omega) (by omega) (by omega) (by omega)
set_option maxHeartbeats 8000000 in
set_option maxRecDepth 200000 in
theorem ts_X10_readLine_95 {post : Int32 → Int32 → Int32 → Int32 → (Nat → Int32) → (Nat → Int32) → Prop} {m_at0 : Int32} (m_fruits : Int32) (m_standings : Int32) (m_read : Nat) (m_length : Int32) (m_top : Int32) (m_text : Nat → Int32) (m_rule : Nat → Int32) (h_m_fruits : 0 ≤ Int32.toInt m_fruits ∧ Int32.toInt m_fruits ≤ 16) (h_m_standings : 0 ≤ Int32.toInt m_standings ∧ Int32.toInt m_standings ≤ 8) (h_m_read : m_read = 1) (h_m_length : 1 ≤ Int32.toInt m_length ∧ Int32.toInt m_length ≤ 80) (h_m_top : 76 ≤ Int32.toInt m_top ∧ Int32.toInt m_top ≤ 76) (h_m_text : ∀ k : Nat, -128 ≤ Int32.toInt (m_text k) ∧ Int32.toInt (m_text k) ≤ 127) (h_m_rule : ∀ k : Nat, -128 ≤ Int32.toInt (m_rule k) ∧ Int32.toInt (m_rule k) ≤ 127) (hpost : ∀ (m_at' : Int32) (m_wrong' : Int32) (m_newFruitMany' : Int32) (m_newStandingMany' : Int32) (m_newFruits' : Nat → Int32) (m_newStandings' : Nat → Int32), (0 ≤ Int32.toInt m_at' ∧ Int32.toInt m_at' ≤ 80) → (-1 ≤ Int32.toInt m_wrong' ∧ Int32.toInt m_wrong' ≤ 80) → (0 ≤ Int32.toInt m_newFruitMany' ∧ Int32.toInt m_newFruitMany' ≤ 16) → (0 ≤ Int32.toInt m_newStandingMany' ∧ Int32.toInt m_newStandingMany' ≤ 8) → (∀ k : Nat, k % 4 = 0 → 0 ≤ Int32.toInt (m_newFruits' k) ∧ Int32.toInt (m_newFruits' k) ≤ 99) → (∀ k : Nat, k % 4 = 1 → 0 ≤ Int32.toInt (m_newFruits' k) ∧ Int32.toInt (m_newFruits' k) ≤ 99) → (∀ k : Nat, k % 4 = 2 → 0 ≤ Int32.toInt (m_newFruits' k) ∧ Int32.toInt (m_newFruits' k) ≤ 9) → (∀ k : Nat, k % 4 = 3 → 0 ≤ Int32.toInt (m_newFruits' k) ∧ Int32.toInt (m_newFruits' k) ≤ 9) → (∀ k : Nat, 0 ≤ Int32.toInt (m_newFruits' k) ∧ Int32.toInt (m_newFruits' k) ≤ 99) → (∀ k : Nat, 0 ≤ Int32.toInt (m_newStandings' k) ∧ Int32.toInt (m_newStandings' k) ≤ 99) → (Int32.toInt m_fruits + Int32.toInt m_newFruitMany' ≤ 16) → (Int32.toInt m_standings + Int32.toInt m_newStandingMany' ≤ 8) → (Int32.toInt m_at0 ≤ Int32.toInt m_at') → post m_at' m_wrong' m_newFruitMany' m_newStandingMany' m_newFruits' m_newStandings') (x1 : Int32) (k1 : Int32) (k2 : Int32) (m_at : Int32) (m_wrong : Int32) (m_newFruitMany : Int32) (m_newStandingMany : Int32) (m_newFruits : Nat → Int32) (m_newStandings : Nat → Int32) (h_x1 : 0 ≤ Int32.toInt x1 ∧ Int32.toInt x1 ≤ 60) (h_k1 : 2 ≤ Int32.toInt k1 ∧ Int32.toInt k1 ≤ 62) (h_k2 : 0 ≤ Int32.toInt k2 ∧ Int32.toInt k2 ≤ 9) (h_m_at : 0 ≤ Int32.toInt m_at ∧ Int32.toInt m_at ≤ 80) (h_m_wrong : -1 ≤ Int32.toInt m_wrong ∧ Int32.toInt m_wrong ≤ 80) (h_m_newFruitMany : 0 ≤ Int32.toInt m_newFruitMany ∧ Int32.toInt m_newFruitMany ≤ 16) (h_m_newStandingMany : 0 ≤ Int32.toInt m_newStandingMany ∧ Int32.toInt m_newStandingMany ≤ 8) (e0_m_newFruits : ∀ k : Nat, k % 4 = 0 → 0 ≤ Int32.toInt (m_newFruits k) ∧ Int32.toInt (m_newFruits k) ≤ 99) (e1_m_newFruits : ∀ k : Nat, k % 4 = 1 → 0 ≤ Int32.toInt (m_newFruits k) ∧ Int32.toInt (m_newFruits k) ≤ 99) (e2_m_newFruits : ∀ k : Nat, k % 4 = 2 → 0 ≤ Int32.toInt (m_newFruits k) ∧ Int32.toInt (m_newFruits k) ≤ 9) (e3_m_newFruits : ∀ k : Nat, k % 4 = 3 → 0 ≤ Int32.toInt (m_newFruits k) ∧ Int32.toInt (m_newFruits k) ≤ 9) (h_m_newFruits : ∀ k : Nat, 0 ≤ Int32.toInt (m_newFruits k) ∧ Int32.toInt (m_newFruits k) ≤ 99) (h_m_newStandings : ∀ k : Nat, 0 ≤ Int32.toInt (m_newStandings k) ∧ Int32.toInt (m_newStandings k) ≤ 99) (hx0 : Int32.toInt m_fruits + Int32.toInt m_newFruitMany ≤ 15) (hx1 : Int32.toInt m_standings + Int32.toInt m_newStandingMany ≤ 8) (hx2 : Int32.toInt m_at0 ≤ Int32.toInt m_at) (hx3 : Int32.toInt k1 % 4 = 2) (hx4 : Int32.toInt x1 % 4 = 0) : ws_X10_readLine_95 post m_fruits m_standings m_read m_length m_top m_text m_rule x1 k1 k2 m_at m_wrong m_newFruitMany m_newStandingMany m_newFruits m_newStandings := by
  have l0 : Int32.toInt ((-1) : Int32) = -1 := (by decide)
  have l1 : Int32.toInt (0 : Int32) = 0 := (by decide)
  have l2 : Int32.toInt (1 : Int32) = 1 := (by decide)
  have l3 : Int32.toInt (3 : Int32) = 3 := (by decide)
  have l4 : Int32.toInt (64 : Int32) = 64 := (by decide)
  refine And.intro (t_in (by omega)) ?_
  have a8 : ∀ k : Nat, 0 ≤ Int32.toInt ((upd m_newFruits k1.toNatClampNeg k2) k) ∧ Int32.toInt ((upd m_newFruits k1.toNatClampNeg k2) k) ≤ 99 := t_upd (fun k => by have q9 := h_m_newFruits k; omega) (by omega)
  have e9 : ∀ k : Nat, k % 4 = 0 → 0 ≤ Int32.toInt ((upd m_newFruits k1.toNatClampNeg k2) k) ∧ Int32.toInt ((upd m_newFruits k1.toNatClampNeg k2) k) ≤ 99 := t_updc (C := fun k => k % 4 = 0) e0_m_newFruits (fun hk => by have e9 : k1.toNatClampNeg = (Int32.toInt k1).toNat := rfl; have hk : k1.toNatClampNeg % 4 = 0 := hk; omega)
  have e10 : ∀ k : Nat, k % 4 = 1 → 0 ≤ Int32.toInt ((upd m_newFruits k1.toNatClampNeg k2) k) ∧ Int32.toInt ((upd m_newFruits k1.toNatClampNeg k2) k) ≤ 99 := t_updc (C := fun k => k % 4 = 1) e1_m_newFruits (fun hk => by have e9 : k1.toNatClampNeg = (Int32.toInt k1).toNat := rfl; have hk : k1.toNatClampNeg % 4 = 1 := hk; omega)
  have e11 : ∀ k : Nat, k % 4 = 2 → 0 ≤ Int32.toInt ((upd m_newFruits k1.toNatClampNeg k2) k) ∧ Int32.toInt ((upd m_newFruits k1.toNatClampNeg k2) k) ≤ 9 := t_updc (C := fun k => k % 4 = 2) e2_m_newFruits (fun hk => by have e9 : k1.toNatClampNeg = (Int32.toInt k1).toNat := rfl; have hk : k1.toNatClampNeg % 4 = 2 := hk; omega)
  have e12 : ∀ k : Nat, k % 4 = 3 → 0 ≤ Int32.toInt ((upd m_newFruits k1.toNatClampNeg k2) k) ∧ Int32.toInt ((upd m_newFruits k1.toNatClampNeg k2) k) ≤ 9 := t_updc (C := fun k => k % 4 = 3) e3_m_newFruits (fun hk => by have e9 : k1.toNatClampNeg = (Int32.toInt k1).toNat := rfl; have hk : k1.toNatClampNeg % 4 = 3 := hk; omega)
  intro v13 ev13
  have f14 : Int32.toInt (x1 + 3) = Int32.toInt x1 + Int32.toInt (3 : Int32) := ta_add _ _ (by omega)
  rw [← ev13] at f14
  refine And.intro (fun c15 => ?_) (fun c15 => ?_)
  · skip
    have c15 := mt (fa_eq _ _).mpr c15
    refine And.intro (fun _ => ?_) (fun h9 => absurd h9 (by decide))
    refine And.intro (fun _ => ?_) (fun h9 => absurd h9 (by decide))
    exact ts_X10_readLine_121 m_fruits m_standings m_read m_length m_top m_text m_rule h_m_fruits h_m_standings h_m_read h_m_length h_m_top h_m_text h_m_rule hpost v13 0 m_at m_wrong m_newFruitMany m_newStandingMany (upd m_newFruits k1.toNatClampNeg k2) m_newStandings (by omega) (by omega) (by omega) (by omega) (by omega) (by omega) e9 e10 e11 e12 (fun k => by have q9 := a8 k; omega) (fun k => by have q9 := h_m_newStandings k; omega) (by omega) (by omega) (by omega) (by omega)
  · skip
    have c15 := (fa_eq _ _).mp c15
    refine And.intro (fun h9 => absurd h9 (by decide)) (fun _ => ?_)
    refine t_X10_here (by first | exact h_m_read | exact Or.inl rfl | exact Or.inr rfl | omega) (by omega) (by omega) (by omega) (fun k => by have q9 := h_m_text k; omega) (fun k => by have q9 := h_m_rule k; omega) (by omega) (fun r16 h_r16 ox17 ox18 => ?_)
    refine And.intro (fun c19 => ?_) (fun c19 => ?_)
    · skip
      have c19 := (fa_eq _ _).mp c19
      intro v20 ev20
      have f21 : Int32.toInt (m_at + 1) = Int32.toInt m_at + Int32.toInt (1 : Int32) := ta_add _ _ (by omega)
      rw [← ev20] at f21
      refine And.intro (fun h9 => absurd h9 (by decide)) (fun _ => ?_)
      refine t_X10_number (by omega) (by first | exact h_m_read | exact Or.inl rfl | exact Or.inr rfl | omega) (by omega) (by omega) (by omega) (by omega) (fun k => by have q9 := h_m_text k; omega) (fun k => by have q9 := h_m_rule k; omega) (by omega) (fun r24 m_at_22 m_wrong_23 h_r24 h_m_at_22 h_m_wrong_23 ox25 ox26 ox27 ox28 => ?_)
      exact ts_X10_readLine_121 m_fruits m_standings m_read m_length m_top m_text m_rule h_m_fruits h_m_standings h_m_read h_m_length h_m_top h_m_text h_m_rule hpost v13 r24 m_at_22 m_wrong_23 m_newFruitMany m_newStandingMany (upd m_newFruits k1.toNatClampNeg k2) m_newStandings (by omega) (by omega) (by omega) (by omega) (by omega) (by omega) e9 e10 e11 e12 (fun k => by have q9 := a8 k; omega) (fun k => by have q9 := h_m_newStandings k; omega) (by omega) (by omega) (by omega) (by omega)
    · skip
      have c19 := mt (fa_eq _ _).mpr c19
      refine And.intro (fun _ => ?_) (fun h9 => absurd h9 (by decide))
      exact ts_X10_readLine_121 m_fruits m_standings m_read m_length m_top m_text m_rule h_m_fruits h_m_standings h_m_read h_m_length h_m_top h_m_text h_m_rule hpost v13 0 m_at m_wrong m_newFruitMany m_newStandingMany (upd m_newFruits k1.toNatClampNeg k2) m_newStandings (by omega) (by omega) (by omega) (by omega) (by omega) (by omega) e9 e10 e11 e12 (fun k => by have q9 := a8 k; omega) (fun k => by have q9 := h_m_newStandings k; omega) (by omega) (by omega) (by omega) (by omega)
set_option maxHeartbeats 8000000 in
set_option maxRecDepth 200000 in
theorem ts_X10_readLine_218 {post : Int32 → Int32 → Int32 → Int32 → (Nat → Int32) → (Nat → Int32) → Prop} {m_at0 : Int32} (m_fruits : Int32) (m_standings : Int32) (m_read : Nat) (m_length : Int32) (m_top : Int32) (m_text : Nat → Int32) (m_rule : Nat → Int32) (h_m_fruits : 0 ≤ Int32.toInt m_fruits ∧ Int32.toInt m_fruits ≤ 16) (h_m_standings : 0 ≤ Int32.toInt m_standings ∧ Int32.toInt m_standings ≤ 8) (h_m_read : m_read = 1) (h_m_length : 1 ≤ Int32.toInt m_length ∧ Int32.toInt m_length ≤ 80) (h_m_top : 76 ≤ Int32.toInt m_top ∧ Int32.toInt m_top ≤ 76) (h_m_text : ∀ k : Nat, -128 ≤ Int32.toInt (m_text k) ∧ Int32.toInt (m_text k) ≤ 127) (h_m_rule : ∀ k : Nat, -128 ≤ Int32.toInt (m_rule k) ∧ Int32.toInt (m_rule k) ≤ 127) (hpost : ∀ (m_at' : Int32) (m_wrong' : Int32) (m_newFruitMany' : Int32) (m_newStandingMany' : Int32) (m_newFruits' : Nat → Int32) (m_newStandings' : Nat → Int32), (0 ≤ Int32.toInt m_at' ∧ Int32.toInt m_at' ≤ 80) → (-1 ≤ Int32.toInt m_wrong' ∧ Int32.toInt m_wrong' ≤ 80) → (0 ≤ Int32.toInt m_newFruitMany' ∧ Int32.toInt m_newFruitMany' ≤ 16) → (0 ≤ Int32.toInt m_newStandingMany' ∧ Int32.toInt m_newStandingMany' ≤ 8) → (∀ k : Nat, k % 4 = 0 → 0 ≤ Int32.toInt (m_newFruits' k) ∧ Int32.toInt (m_newFruits' k) ≤ 99) → (∀ k : Nat, k % 4 = 1 → 0 ≤ Int32.toInt (m_newFruits' k) ∧ Int32.toInt (m_newFruits' k) ≤ 99) → (∀ k : Nat, k % 4 = 2 → 0 ≤ Int32.toInt (m_newFruits' k) ∧ Int32.toInt (m_newFruits' k) ≤ 9) → (∀ k : Nat, k % 4 = 3 → 0 ≤ Int32.toInt (m_newFruits' k) ∧ Int32.toInt (m_newFruits' k) ≤ 9) → (∀ k : Nat, 0 ≤ Int32.toInt (m_newFruits' k) ∧ Int32.toInt (m_newFruits' k) ≤ 99) → (∀ k : Nat, 0 ≤ Int32.toInt (m_newStandings' k) ∧ Int32.toInt (m_newStandings' k) ≤ 99) → (Int32.toInt m_fruits + Int32.toInt m_newFruitMany' ≤ 16) → (Int32.toInt m_standings + Int32.toInt m_newStandingMany' ≤ 8) → (Int32.toInt m_at0 ≤ Int32.toInt m_at') → post m_at' m_wrong' m_newFruitMany' m_newStandingMany' m_newFruits' m_newStandings') (m_at : Int32) (m_wrong : Int32) (m_newFruitMany : Int32) (m_newStandingMany : Int32) (m_newFruits : Nat → Int32) (m_newStandings : Nat → Int32) (h_m_at : 0 ≤ Int32.toInt m_at ∧ Int32.toInt m_at ≤ 80) (h_m_wrong : -1 ≤ Int32.toInt m_wrong ∧ Int32.toInt m_wrong ≤ -1) (h_m_newFruitMany : 0 ≤ Int32.toInt m_newFruitMany ∧ Int32.toInt m_newFruitMany ≤ 16) (h_m_newStandingMany : 0 ≤ Int32.toInt m_newStandingMany ∧ Int32.toInt m_newStandingMany ≤ 8) (e0_m_newFruits : ∀ k : Nat, k % 4 = 0 → 0 ≤ Int32.toInt (m_newFruits k) ∧ Int32.toInt (m_newFruits k) ≤ 99) (e1_m_newFruits : ∀ k : Nat, k % 4 = 1 → 0 ≤ Int32.toInt (m_newFruits k) ∧ Int32.toInt (m_newFruits k) ≤ 99) (e2_m_newFruits : ∀ k : Nat, k % 4 = 2 → 0 ≤ Int32.toInt (m_newFruits k) ∧ Int32.toInt (m_newFruits k) ≤ 9) (e3_m_newFruits : ∀ k : Nat, k % 4 = 3 → 0 ≤ Int32.toInt (m_newFruits k) ∧ Int32.toInt (m_newFruits k) ≤ 9) (h_m_newFruits : ∀ k : Nat, 0 ≤ Int32.toInt (m_newFruits k) ∧ Int32.toInt (m_newFruits k) ≤ 99) (h_m_newStandings : ∀ k : Nat, 0 ≤ Int32.toInt (m_newStandings k) ∧ Int32.toInt (m_newStandings k) ≤ 99) (hx0 : Int32.toInt m_fruits + Int32.toInt m_newFruitMany ≤ 16) (hx1 : Int32.toInt m_standings + Int32.toInt m_newStandingMany ≤ 8) (hx2 : Int32.toInt m_at0 ≤ Int32.toInt m_at) : ws_X10_readLine_218 post m_fruits m_standings m_read m_length m_top m_text m_rule m_at m_wrong m_newFruitMany m_newStandingMany m_newFruits m_newStandings := by
  have l0 : Int32.toInt ((-1) : Int32) = -1 := (by decide)
  refine And.intro (fun c29 => ?_) (fun c29 => ?_)
  · skip
    have c29 := mt (fa_eq _ _).mpr c29
    exfalso; omega
  · skip
    have c29 := (fa_eq _ _).mp c29
    refine And.intro (fun h9 => absurd h9 (by decide)) (fun _ => ?_)
    exact hpost _ _ _ _ _ _ (by omega) (by omega) (by omega) (by omega) e0_m_newFruits e1_m_newFruits e2_m_newFruits e3_m_newFruits (fun k => by have q9 := h_m_newFruits k; omega) (fun k => by have q9 := h_m_newStandings k; omega) (by omega) (by omega) (by omega)
set_option maxHeartbeats 8000000 in
set_option maxRecDepth 200000 in
theorem ts_X10_readLine_135 {post : Int32 → Int32 → Int32 → Int32 → (Nat → Int32) → (Nat → Int32) → Prop} {m_at0 : Int32} (m_fruits : Int32) (m_standings : Int32) (m_read : Nat) (m_length : Int32) (m_top : Int32) (m_text : Nat → Int32) (m_rule : Nat → Int32) (h_m_fruits : 0 ≤ Int32.toInt m_fruits ∧ Int32.toInt m_fruits ≤ 16) (h_m_standings : 0 ≤ Int32.toInt m_standings ∧ Int32.toInt m_standings ≤ 8) (h_m_read : m_read = 1) (h_m_length : 1 ≤ Int32.toInt m_length ∧ Int32.toInt m_length ≤ 80) (h_m_top : 76 ≤ Int32.toInt m_top ∧ Int32.toInt m_top ≤ 76) (h_m_text : ∀ k : Nat, -128 ≤ Int32.toInt (m_text k) ∧ Int32.toInt (m_text k) ≤ 127) (h_m_rule : ∀ k : Nat, -128 ≤ Int32.toInt (m_rule k) ∧ Int32.toInt (m_rule k) ≤ 127) (hpost : ∀ (m_at' : Int32) (m_wrong' : Int32) (m_newFruitMany' : Int32) (m_newStandingMany' : Int32) (m_newFruits' : Nat → Int32) (m_newStandings' : Nat → Int32), (0 ≤ Int32.toInt m_at' ∧ Int32.toInt m_at' ≤ 80) → (-1 ≤ Int32.toInt m_wrong' ∧ Int32.toInt m_wrong' ≤ 80) → (0 ≤ Int32.toInt m_newFruitMany' ∧ Int32.toInt m_newFruitMany' ≤ 16) → (0 ≤ Int32.toInt m_newStandingMany' ∧ Int32.toInt m_newStandingMany' ≤ 8) → (∀ k : Nat, k % 4 = 0 → 0 ≤ Int32.toInt (m_newFruits' k) ∧ Int32.toInt (m_newFruits' k) ≤ 99) → (∀ k : Nat, k % 4 = 1 → 0 ≤ Int32.toInt (m_newFruits' k) ∧ Int32.toInt (m_newFruits' k) ≤ 99) → (∀ k : Nat, k % 4 = 2 → 0 ≤ Int32.toInt (m_newFruits' k) ∧ Int32.toInt (m_newFruits' k) ≤ 9) → (∀ k : Nat, k % 4 = 3 → 0 ≤ Int32.toInt (m_newFruits' k) ∧ Int32.toInt (m_newFruits' k) ≤ 9) → (∀ k : Nat, 0 ≤ Int32.toInt (m_newFruits' k) ∧ Int32.toInt (m_newFruits' k) ≤ 99) → (∀ k : Nat, 0 ≤ Int32.toInt (m_newStandings' k) ∧ Int32.toInt (m_newStandings' k) ≤ 99) → (Int32.toInt m_fruits + Int32.toInt m_newFruitMany' ≤ 16) → (Int32.toInt m_standings + Int32.toInt m_newStandingMany' ≤ 8) → (Int32.toInt m_at0 ≤ Int32.toInt m_at') → post m_at' m_wrong' m_newFruitMany' m_newStandingMany' m_newFruits' m_newStandings') (m_at : Int32) (m_wrong : Int32) (m_newFruitMany : Int32) (m_newStandingMany : Int32) (m_newFruits : Nat → Int32) (m_newStandings : Nat → Int32) (h_m_at : 0 ≤ Int32.toInt m_at ∧ Int32.toInt m_at ≤ 80) (h_m_wrong : -1 ≤ Int32.toInt m_wrong ∧ Int32.toInt m_wrong ≤ -1) (h_m_newFruitMany : 0 ≤ Int32.toInt m_newFruitMany ∧ Int32.toInt m_newFruitMany ≤ 16) (h_m_newStandingMany : 0 ≤ Int32.toInt m_newStandingMany ∧ Int32.toInt m_newStandingMany ≤ 8) (e0_m_newFruits : ∀ k : Nat, k % 4 = 0 → 0 ≤ Int32.toInt (m_newFruits k) ∧ Int32.toInt (m_newFruits k) ≤ 99) (e1_m_newFruits : ∀ k : Nat, k % 4 = 1 → 0 ≤ Int32.toInt (m_newFruits k) ∧ Int32.toInt (m_newFruits k) ≤ 99) (e2_m_newFruits : ∀ k : Nat, k % 4 = 2 → 0 ≤ Int32.toInt (m_newFruits k) ∧ Int32.toInt (m_newFruits k) ≤ 9) (e3_m_newFruits : ∀ k : Nat, k % 4 = 3 → 0 ≤ Int32.toInt (m_newFruits k) ∧ Int32.toInt (m_newFruits k) ≤ 9) (h_m_newFruits : ∀ k : Nat, 0 ≤ Int32.toInt (m_newFruits k) ∧ Int32.toInt (m_newFruits k) ≤ 99) (h_m_newStandings : ∀ k : Nat, 0 ≤ Int32.toInt (m_newStandings k) ∧ Int32.toInt (m_newStandings k) ≤ 99) (hx0 : Int32.toInt m_fruits + Int32.toInt m_newFruitMany ≤ 16) (hx1 : Int32.toInt m_standings + Int32.toInt m_newStandingMany ≤ 8) (hx2 : Int32.toInt m_at0 ≤ Int32.toInt m_at) : ws_X10_readLine_135 post m_fruits m_standings m_read m_length m_top m_text m_rule m_at m_wrong m_newFruitMany m_newStandingMany m_newFruits m_newStandings := by
  have l0 : Int32.toInt ((-1) : Int32) = -1 := (by decide)
  have l1 : Int32.toInt (1 : Int32) = 1 := (by decide)
  have l2 : Int32.toInt (115 : Int32) = 115 := (by decide)
  have l3 : Int32.toInt (2 : Int32) = 2 := (by decide)
  have l4 : Int32.toInt (44 : Int32) = 44 := (by decide)
  have l5 : Int32.toInt (8 : Int32) = 8 := (by decide)
  refine t_X10_here (by first | exact h_m_read | exact Or.inl rfl | exact Or.inr rfl | omega) (by omega) (by omega) (by omega) (fun k => by have q9 := h_m_text k; omega) (fun k => by have q9 := h_m_rule k; omega) (by omega) (fun r30 h_r30 ox31 ox32 => ?_)
  refine And.intro (fun c33 => ?_) (fun c33 => ?_)
  · skip
    have c33 := mt (fa_eq _ _).mpr c33
    exact ts_X10_readLine_218 m_fruits m_standings m_read m_length m_top m_text m_rule h_m_fruits h_m_standings h_m_read h_m_length h_m_top h_m_text h_m_rule hpost m_at m_wrong m_newFruitMany m_newStandingMany m_newFruits m_newStandings (by omega) (by omega) (by omega) (by omega) e0_m_newFruits e1_m_newFruits e2_m_newFruits e3_m_newFruits (fun k => by have q9 := h_m_newFruits k; omega) (fun k => by have q9 := h_m_newStandings k; omega) (by omega) (by omega) (by omega)
  · skip
    have c33 := (fa_eq _ _).mp c33
    intro v34 ev34
    have f35 : Int32.toInt (m_standings + m_newStandingMany) = Int32.toInt m_standings + Int32.toInt m_newStandingMany := ta_add _ _ (by omega)
    rw [← ev34] at f35
    refine And.intro (fun c36 => ?_) (fun c36 => ?_)
    · skip
      have c36 := (fa_le _ _).mp c36
      exact ts_X10_readLine_218 m_fruits m_standings m_read m_length m_top m_text m_rule h_m_fruits h_m_standings h_m_read h_m_length h_m_top h_m_text h_m_rule hpost m_at m_wrong m_newFruitMany m_newStandingMany m_newFruits m_newStandings (by omega) (by omega) (by omega) (by omega) e0_m_newFruits e1_m_newFruits e2_m_newFruits e3_m_newFruits (fun k => by have q9 := h_m_newFruits k; omega) (fun k => by have q9 := h_m_newStandings k; omega) (by omega) (by omega) (by omega)
    · skip
      have c36 := mt (fa_le _ _).mpr c36
      intro v37 ev37
      have f38 : Int32.toInt (2 * m_newStandingMany) = Int32.toInt m_newStandingMany * 2 := ta_cmul _ _ (by decide) (by omega)
      rw [← ev37] at f38
      intro v39 ev39
      have f40 : Int32.toInt (m_at + 1) = Int32.toInt m_at + Int32.toInt (1 : Int32) := ta_add _ _ (by omega)
      rw [← ev39] at f40
      refine t_X10_number (by omega) (by first | exact h_m_read | exact Or.inl rfl | exact Or.inr rfl | omega) (by omega) (by omega) (by omega) (by omega) (fun k => by have q9 := h_m_text k; omega) (fun k => by have q9 := h_m_rule k; omega) (by omega) (fun r43 m_at_41 m_wrong_42 h_r43 h_m_at_41 h_m_wrong_42 ox44 ox45 ox46 ox47 => ?_)
      refine And.intro (t_in (by omega)) ?_
      have a48 : ∀ k : Nat, 0 ≤ Int32.toInt ((upd m_newStandings v37.toNatClampNeg r43) k) ∧ Int32.toInt ((upd m_newStandings v37.toNatClampNeg r43) k) ≤ 99 := t_upd (fun k => by have q9 := h_m_newStandings k; omega) (by omega)
      refine And.intro (fun c49 => ?_) (fun c49 => ?_)
      · skip
        have c49 := mt (fa_eq _ _).mpr c49
        refine And.intro (fun _ => ?_) (fun h9 => absurd h9 (by decide))
        refine And.intro (fun h9 => absurd h9 (by decide)) (fun _ => ?_)
        refine And.intro (fun c50 => ?_) (fun c50 => ?_)
        · skip
          have c50 := mt (fa_eq _ _).mpr c50
          refine And.intro (fun _ => ?_) (fun h9 => absurd h9 (by decide))
          intro v51 ev51
          have f52 : Int32.toInt (v37 + 1) = Int32.toInt v37 + Int32.toInt (1 : Int32) := ta_add _ _ (by omega)
          rw [← ev51] at f52
          refine t_X10_number (by omega) (by first | exact h_m_read | exact Or.inl rfl | exact Or.inr rfl | omega) (by omega) (by omega) (by omega) (by omega) (fun k => by have q9 := h_m_text k; omega) (fun k => by have q9 := h_m_rule k; omega) (by omega) (fun r55 m_at_53 m_wrong_54 h_r55 h_m_at_53 h_m_wrong_54 ox56 ox57 ox58 ox59 => ?_)
          refine And.intro (t_in (by omega)) ?_
          have a60 : ∀ k : Nat, 0 ≤ Int32.toInt ((upd (upd m_newStandings v37.toNatClampNeg r43) v51.toNatClampNeg r55) k) ∧ Int32.toInt ((upd (upd m_newStandings v37.toNatClampNeg r43) v51.toNatClampNeg r55) k) ≤ 99 := t_upd (fun k => by have q9 := a48 k; omega) (by omega)
          intro v61 ev61
          have f62 : Int32.toInt (m_newStandingMany + 1) = Int32.toInt m_newStandingMany + Int32.toInt (1 : Int32) := ta_add _ _ (by omega)
          rw [← ev61] at f62
          exact hpost _ _ _ _ _ _ (by omega) (by omega) (by omega) (by omega) e0_m_newFruits e1_m_newFruits e2_m_newFruits e3_m_newFruits (fun k => by have q9 := h_m_newFruits k; omega) (fun k => by have q9 := a60 k; omega) (by omega) (by omega) (by omega)
        · skip
          have c50 := (fa_eq _ _).mp c50
          exfalso; omega
      · skip
        have c49 := (fa_eq _ _).mp c49
        refine And.intro (fun h9 => absurd h9 (by decide)) (fun _ => ?_)
        refine t_X10_here (by first | exact h_m_read | exact Or.inl rfl | exact Or.inr rfl | omega) (by omega) (by omega) (by omega) (fun k => by have q9 := h_m_text k; omega) (fun k => by have q9 := h_m_rule k; omega) (by omega) (fun r63 h_r63 ox64 ox65 => ?_)
        refine And.intro (fun c66 => ?_) (fun c66 => ?_)
        · skip
          have c66 := (fa_eq _ _).mp c66
          intro v67 ev67
          have f68 : Int32.toInt (m_at_41 + 1) = Int32.toInt m_at_41 + Int32.toInt (1 : Int32) := ta_add _ _ (by omega)
          rw [← ev67] at f68
          refine And.intro (fun _ => ?_) (fun h9 => absurd h9 (by decide))
          intro v69 ev69
          have f70 : Int32.toInt (v37 + 1) = Int32.toInt v37 + Int32.toInt (1 : Int32) := ta_add _ _ (by omega)
          rw [← ev69] at f70
          refine t_X10_number (by omega) (by first | exact h_m_read | exact Or.inl rfl | exact Or.inr rfl | omega) (by omega) (by omega) (by omega) (by omega) (fun k => by have q9 := h_m_text k; omega) (fun k => by have q9 := h_m_rule k; omega) (by omega) (fun r73 m_at_71 m_wrong_72 h_r73 h_m_at_71 h_m_wrong_72 ox74 ox75 ox76 ox77 => ?_)
          refine And.intro (t_in (by omega)) ?_
          have a78 : ∀ k : Nat, 0 ≤ Int32.toInt ((upd (upd m_newStandings v37.toNatClampNeg r43) v69.toNatClampNeg r73) k) ∧ Int32.toInt ((upd (upd m_newStandings v37.toNatClampNeg r43) v69.toNatClampNeg r73) k) ≤ 99 := t_upd (fun k => by have q9 := a48 k; omega) (by omega)
          intro v79 ev79
          have f80 : Int32.toInt (m_newStandingMany + 1) = Int32.toInt m_newStandingMany + Int32.toInt (1 : Int32) := ta_add _ _ (by omega)
          rw [← ev79] at f80
          exact hpost _ _ _ _ _ _ (by omega) (by omega) (by omega) (by omega) e0_m_newFruits e1_m_newFruits e2_m_newFruits e3_m_newFruits (fun k => by have q9 := h_m_newFruits k; omega) (fun k => by have q9 := a78 k; omega) (by omega) (by omega) (by omega)
        · skip
          have c66 := mt (fa_eq _ _).mpr c66
          refine And.intro (fun h9 => absurd h9 (by decide)) (fun _ => ?_)
          refine And.intro (fun c81 => ?_) (fun c81 => ?_)
          · skip
            have c81 := mt (fa_eq _ _).mpr c81
            exfalso; omega
          · skip
            have c81 := (fa_eq _ _).mp c81
            refine And.intro (fun h9 => absurd h9 (by decide)) (fun _ => ?_)
            intro v82 ev82
            have f83 : Int32.toInt (v37 + 1) = Int32.toInt v37 + Int32.toInt (1 : Int32) := ta_add _ _ (by omega)
            rw [← ev82] at f83
            refine t_X10_number (by omega) (by first | exact h_m_read | exact Or.inl rfl | exact Or.inr rfl | omega) (by omega) (by omega) (by omega) (by omega) (fun k => by have q9 := h_m_text k; omega) (fun k => by have q9 := h_m_rule k; omega) (by omega) (fun r86 m_at_84 m_wrong_85 h_r86 h_m_at_84 h_m_wrong_85 ox87 ox88 ox89 ox90 => ?_)
            refine And.intro (t_in (by omega)) ?_
            have a91 : ∀ k : Nat, 0 ≤ Int32.toInt ((upd (upd m_newStandings v37.toNatClampNeg r43) v82.toNatClampNeg r86) k) ∧ Int32.toInt ((upd (upd m_newStandings v37.toNatClampNeg r43) v82.toNatClampNeg r86) k) ≤ 99 := t_upd (fun k => by have q9 := a48 k; omega) (by omega)
            intro v92 ev92
            have f93 : Int32.toInt (m_newStandingMany + 1) = Int32.toInt m_newStandingMany + Int32.toInt (1 : Int32) := ta_add _ _ (by omega)
            rw [← ev92] at f93
            exact hpost _ _ _ _ _ _ (by omega) (by omega) (by omega) (by omega) e0_m_newFruits e1_m_newFruits e2_m_newFruits e3_m_newFruits (fun k => by have q9 := h_m_newFruits k; omega) (fun k => by have q9 := a91 k; omega) (by omega) (by omega) (by omega)
set_option maxHeartbeats 8000000 in
set_option maxRecDepth 200000 in
theorem t_X10_readLine {post : Int32 → Int32 → Int32 → Int32 → (Nat → Int32) → (Nat → Int32) → Prop} {m_fruits : Int32} {m_standings : Int32} {m_read : Nat} {m_length : Int32} {m_top : Int32} {m_at : Int32} {m_wrong : Int32} {m_newFruitMany : Int32} {m_newStandingMany : Int32} {m_text : Nat → Int32} {m_newFruits : Nat → Int32} {m_newStandings : Nat → Int32} {m_rule : Nat → Int32} (h_m_fruits : 0 ≤ Int32.toInt m_fruits ∧ Int32.toInt m_fruits ≤ 16) (h_m_standings : 0 ≤ Int32.toInt m_standings ∧ Int32.toInt m_standings ≤ 8) (h_m_read : m_read = 1) (h_m_length : 1 ≤ Int32.toInt m_length ∧ Int32.toInt m_length ≤ 80) (h_m_top : 76 ≤ Int32.toInt m_top ∧ Int32.toInt m_top ≤ 76) (h_m_at : 0 ≤ Int32.toInt m_at ∧ Int32.toInt m_at ≤ 80) (h_m_wrong : -1 ≤ Int32.toInt m_wrong ∧ Int32.toInt m_wrong ≤ -1) (h_m_newFruitMany : 0 ≤ Int32.toInt m_newFruitMany ∧ Int32.toInt m_newFruitMany ≤ 16) (h_m_newStandingMany : 0 ≤ Int32.toInt m_newStandingMany ∧ Int32.toInt m_newStandingMany ≤ 8) (h_m_text : ∀ k : Nat, -128 ≤ Int32.toInt (m_text k) ∧ Int32.toInt (m_text k) ≤ 127) (e0_m_newFruits : ∀ k : Nat, k % 4 = 0 → 0 ≤ Int32.toInt (m_newFruits k) ∧ Int32.toInt (m_newFruits k) ≤ 99) (e1_m_newFruits : ∀ k : Nat, k % 4 = 1 → 0 ≤ Int32.toInt (m_newFruits k) ∧ Int32.toInt (m_newFruits k) ≤ 99) (e2_m_newFruits : ∀ k : Nat, k % 4 = 2 → 0 ≤ Int32.toInt (m_newFruits k) ∧ Int32.toInt (m_newFruits k) ≤ 9) (e3_m_newFruits : ∀ k : Nat, k % 4 = 3 → 0 ≤ Int32.toInt (m_newFruits k) ∧ Int32.toInt (m_newFruits k) ≤ 9) (h_m_newFruits : ∀ k : Nat, 0 ≤ Int32.toInt (m_newFruits k) ∧ Int32.toInt (m_newFruits k) ≤ 99) (h_m_newStandings : ∀ k : Nat, 0 ≤ Int32.toInt (m_newStandings k) ∧ Int32.toInt (m_newStandings k) ≤ 99) (h_m_rule : ∀ k : Nat, -128 ≤ Int32.toInt (m_rule k) ∧ Int32.toInt (m_rule k) ≤ 127) (hx0 : Int32.toInt m_fruits + Int32.toInt m_newFruitMany ≤ 16) (hx1 : Int32.toInt m_standings + Int32.toInt m_newStandingMany ≤ 8) (hpost : ∀ (m_at' : Int32) (m_wrong' : Int32) (m_newFruitMany' : Int32) (m_newStandingMany' : Int32) (m_newFruits' : Nat → Int32) (m_newStandings' : Nat → Int32), (0 ≤ Int32.toInt m_at' ∧ Int32.toInt m_at' ≤ 80) → (-1 ≤ Int32.toInt m_wrong' ∧ Int32.toInt m_wrong' ≤ 80) → (0 ≤ Int32.toInt m_newFruitMany' ∧ Int32.toInt m_newFruitMany' ≤ 16) → (0 ≤ Int32.toInt m_newStandingMany' ∧ Int32.toInt m_newStandingMany' ≤ 8) → (∀ k : Nat, k % 4 = 0 → 0 ≤ Int32.toInt (m_newFruits' k) ∧ Int32.toInt (m_newFruits' k) ≤ 99) → (∀ k : Nat, k % 4 = 1 → 0 ≤ Int32.toInt (m_newFruits' k) ∧ Int32.toInt (m_newFruits' k) ≤ 99) → (∀ k : Nat, k % 4 = 2 → 0 ≤ Int32.toInt (m_newFruits' k) ∧ Int32.toInt (m_newFruits' k) ≤ 9) → (∀ k : Nat, k % 4 = 3 → 0 ≤ Int32.toInt (m_newFruits' k) ∧ Int32.toInt (m_newFruits' k) ≤ 9) → (∀ k : Nat, 0 ≤ Int32.toInt (m_newFruits' k) ∧ Int32.toInt (m_newFruits' k) ≤ 99) → (∀ k : Nat, 0 ≤ Int32.toInt (m_newStandings' k) ∧ Int32.toInt (m_newStandings' k) ≤ 99) → (Int32.toInt m_fruits + Int32.toInt m_newFruitMany' ≤ 16) → (Int32.toInt m_standings + Int32.toInt m_newStandingMany' ≤ 8) → (Int32.toInt m_at ≤ Int32.toInt m_at') → post m_at' m_wrong' m_newFruitMany' m_newStandingMany' m_newFruits' m_newStandings') : wp_X10_readLine post m_fruits m_standings m_read m_length m_top m_at m_wrong m_newFruitMany m_newStandingMany m_text m_newFruits m_newStandings m_rule := by
  have l0 : Int32.toInt ((-1) : Int32) = -1 := (by decide)
  have l1 : Int32.toInt (1 : Int32) = 1 := (by decide)
  have l2 : Int32.toInt (102 : Int32) = 102 := (by decide)
  have l3 : Int32.toInt (16 : Int32) = 16 := (by decide)
  have l4 : Int32.toInt (2 : Int32) = 2 := (by decide)
  have l5 : Int32.toInt (4 : Int32) = 4 := (by decide)
  have l6 : Int32.toInt (42 : Int32) = 42 := (by decide)
  have l7 : Int32.toInt (44 : Int32) = 44 := (by decide)
  refine t_X10_here (by first | exact h_m_read | exact Or.inl rfl | exact Or.inr rfl | omega) (by omega) (by omega) (by omega) (fun k => by have q9 := h_m_text k; omega) (fun k => by have q9 := h_m_rule k; omega) (by omega) (fun r94 h_r94 ox95 ox96 => ?_)
  refine And.intro (fun c97 => ?_) (fun c97 => ?_)
  · skip
    have c97 := mt (fa_eq _ _).mpr c97
    exact ts_X10_readLine_135 m_fruits m_standings m_read m_length m_top m_text m_rule h_m_fruits h_m_standings h_m_read h_m_length h_m_top h_m_text h_m_rule hpost m_at m_wrong m_newFruitMany m_newStandingMany m_newFruits m_newStandings (by omega) (by omega) (by omega) (by omega) e0_m_newFruits e1_m_newFruits e2_m_newFruits e3_m_newFruits (fun k => by have q9 := h_m_newFruits k; omega) (fun k => by have q9 := h_m_newStandings k; omega) (by omega) (by omega) (by omega)
  · skip
    have c97 := (fa_eq _ _).mp c97
    intro v98 ev98
    have f99 : Int32.toInt (m_fruits + m_newFruitMany) = Int32.toInt m_fruits + Int32.toInt m_newFruitMany := ta_add _ _ (by omega)
    rw [← ev98] at f99
    refine And.intro (fun c100 => ?_) (fun c100 => ?_)
    · skip
      have c100 := (fa_le _ _).mp c100
      exact ts_X10_readLine_135 m_fruits m_standings m_read m_length m_top m_text m_rule h_m_fruits h_m_standings h_m_read h_m_length h_m_top h_m_text h_m_rule hpost m_at m_wrong m_newFruitMany m_newStandingMany m_newFruits m_newStandings (by omega) (by omega) (by omega) (by omega) e0_m_newFruits e1_m_newFruits e2_m_newFruits e3_m_newFruits (fun k => by have q9 := h_m_newFruits k; omega) (fun k => by have q9 := h_m_newStandings k; omega) (by omega) (by omega) (by omega)
    · skip
      have c100 := mt (fa_le _ _).mpr c100
      intro v101 ev101
      have f102 : Int32.toInt (4 * m_newFruitMany) = Int32.toInt m_newFruitMany * 4 := ta_cmul _ _ (by decide) (by omega)
      rw [← ev101] at f102
      intro v103 ev103
      have f104 : Int32.toInt (m_at + 1) = Int32.toInt m_at + Int32.toInt (1 : Int32) := ta_add _ _ (by omega)
      rw [← ev103] at f104
      refine t_X10_number (by omega) (by first | exact h_m_read | exact Or.inl rfl | exact Or.inr rfl | omega) (by omega) (by omega) (by omega) (by omega) (fun k => by have q9 := h_m_text k; omega) (fun k => by have q9 := h_m_rule k; omega) (by omega) (fun r107 m_at_105 m_wrong_106 h_r107 h_m_at_105 h_m_wrong_106 ox108 ox109 ox110 ox111 => ?_)
      refine And.intro (t_in (by omega)) ?_
      have a112 : ∀ k : Nat, 0 ≤ Int32.toInt ((upd m_newFruits v101.toNatClampNeg r107) k) ∧ Int32.toInt ((upd m_newFruits v101.toNatClampNeg r107) k) ≤ 99 := t_upd (fun k => by have q9 := h_m_newFruits k; omega) (by omega)
      have e113 : ∀ k : Nat, k % 4 = 0 → 0 ≤ Int32.toInt ((upd m_newFruits v101.toNatClampNeg r107) k) ∧ Int32.toInt ((upd m_newFruits v101.toNatClampNeg r107) k) ≤ 99 := t_updc (C := fun k => k % 4 = 0) e0_m_newFruits (fun hk => by have e9 : v101.toNatClampNeg = (Int32.toInt v101).toNat := rfl; have hk : v101.toNatClampNeg % 4 = 0 := hk; omega)
      have e114 : ∀ k : Nat, k % 4 = 1 → 0 ≤ Int32.toInt ((upd m_newFruits v101.toNatClampNeg r107) k) ∧ Int32.toInt ((upd m_newFruits v101.toNatClampNeg r107) k) ≤ 99 := t_updc (C := fun k => k % 4 = 1) e1_m_newFruits (fun hk => by have e9 : v101.toNatClampNeg = (Int32.toInt v101).toNat := rfl; have hk : v101.toNatClampNeg % 4 = 1 := hk; omega)
      have e115 : ∀ k : Nat, k % 4 = 2 → 0 ≤ Int32.toInt ((upd m_newFruits v101.toNatClampNeg r107) k) ∧ Int32.toInt ((upd m_newFruits v101.toNatClampNeg r107) k) ≤ 9 := t_updc (C := fun k => k % 4 = 2) e2_m_newFruits (fun hk => by have e9 : v101.toNatClampNeg = (Int32.toInt v101).toNat := rfl; have hk : v101.toNatClampNeg % 4 = 2 := hk; omega)
      have e116 : ∀ k : Nat, k % 4 = 3 → 0 ≤ Int32.toInt ((upd m_newFruits v101.toNatClampNeg r107) k) ∧ Int32.toInt ((upd m_newFruits v101.toNatClampNeg r107) k) ≤ 9 := t_updc (C := fun k => k % 4 = 3) e3_m_newFruits (fun hk => by have e9 : v101.toNatClampNeg = (Int32.toInt v101).toNat := rfl; have hk : v101.toNatClampNeg % 4 = 3 := hk; omega)
      refine And.intro (fun c117 => ?_) (fun c117 => ?_)
      · skip
        have c117 := mt (fa_eq _ _).mpr c117
        refine And.intro (fun _ => ?_) (fun h9 => absurd h9 (by decide))
        refine And.intro (fun h9 => absurd h9 (by decide)) (fun _ => ?_)
        refine And.intro (fun c118 => ?_) (fun c118 => ?_)
        · skip
          have c118 := mt (fa_eq _ _).mpr c118
          refine And.intro (fun _ => ?_) (fun h9 => absurd h9 (by decide))
          intro v119 ev119
          have f120 : Int32.toInt (v101 + 1) = Int32.toInt v101 + Int32.toInt (1 : Int32) := ta_add _ _ (by omega)
          rw [← ev119] at f120
          refine t_X10_number (by omega) (by first | exact h_m_read | exact Or.inl rfl | exact Or.inr rfl | omega) (by omega) (by omega) (by omega) (by omega) (fun k => by have q9 := h_m_text k; omega) (fun k => by have q9 := h_m_rule k; omega) (by omega) (fun r123 m_at_121 m_wrong_122 h_r123 h_m_at_121 h_m_wrong_122 ox124 ox125 ox126 ox127 => ?_)
          refine And.intro (t_in (by omega)) ?_
          have a128 : ∀ k : Nat, 0 ≤ Int32.toInt ((upd (upd m_newFruits v101.toNatClampNeg r107) v119.toNatClampNeg r123) k) ∧ Int32.toInt ((upd (upd m_newFruits v101.toNatClampNeg r107) v119.toNatClampNeg r123) k) ≤ 99 := t_upd (fun k => by have q9 := a112 k; omega) (by omega)
          have e129 : ∀ k : Nat, k % 4 = 0 → 0 ≤ Int32.toInt ((upd (upd m_newFruits v101.toNatClampNeg r107) v119.toNatClampNeg r123) k) ∧ Int32.toInt ((upd (upd m_newFruits v101.toNatClampNeg r107) v119.toNatClampNeg r123) k) ≤ 99 := t_updc (C := fun k => k % 4 = 0) e113 (fun hk => by have e9 : v119.toNatClampNeg = (Int32.toInt v119).toNat := rfl; have hk : v119.toNatClampNeg % 4 = 0 := hk; omega)
          have e130 : ∀ k : Nat, k % 4 = 1 → 0 ≤ Int32.toInt ((upd (upd m_newFruits v101.toNatClampNeg r107) v119.toNatClampNeg r123) k) ∧ Int32.toInt ((upd (upd m_newFruits v101.toNatClampNeg r107) v119.toNatClampNeg r123) k) ≤ 99 := t_updc (C := fun k => k % 4 = 1) e114 (fun hk => by have e9 : v119.toNatClampNeg = (Int32.toInt v119).toNat := rfl; have hk : v119.toNatClampNeg % 4 = 1 := hk; omega)
          have e131 : ∀ k : Nat, k % 4 = 2 → 0 ≤ Int32.toInt ((upd (upd m_newFruits v101.toNatClampNeg r107) v119.toNatClampNeg r123) k) ∧ Int32.toInt ((upd (upd m_newFruits v101.toNatClampNeg r107) v119.toNatClampNeg r123) k) ≤ 9 := t_updc (C := fun k => k % 4 = 2) e115 (fun hk => by have e9 : v119.toNatClampNeg = (Int32.toInt v119).toNat := rfl; have hk : v119.toNatClampNeg % 4 = 2 := hk; omega)
          have e132 : ∀ k : Nat, k % 4 = 3 → 0 ≤ Int32.toInt ((upd (upd m_newFruits v101.toNatClampNeg r107) v119.toNatClampNeg r123) k) ∧ Int32.toInt ((upd (upd m_newFruits v101.toNatClampNeg r107) v119.toNatClampNeg r123) k) ≤ 9 := t_updc (C := fun k => k % 4 = 3) e116 (fun hk => by have e9 : v119.toNatClampNeg = (Int32.toInt v119).toNat := rfl; have hk : v119.toNatClampNeg % 4 = 3 := hk; omega)
          intro v133 ev133
          have f134 : Int32.toInt (v101 + 2) = Int32.toInt v101 + Int32.toInt (2 : Int32) := ta_add _ _ (by omega)
          rw [← ev133] at f134
          refine And.intro (fun c135 => ?_) (fun c135 => ?_)
          · skip
            have c135 := mt (fa_eq _ _).mpr c135
            refine And.intro (fun _ => ?_) (fun h9 => absurd h9 (by decide))
            refine And.intro (fun _ => ?_) (fun h9 => absurd h9 (by decide))
            exact ts_X10_readLine_95 m_fruits m_standings m_read m_length m_top m_text m_rule h_m_fruits h_m_standings h_m_read h_m_length h_m_top h_m_text h_m_rule hpost v101 v133 1 m_at_121 m_wrong_122 m_newFruitMany m_newStandingMany (upd (upd m_newFruits v101.toNatClampNeg r107) v119.toNatClampNeg r123) m_newStandings (by omega) (by omega) (by omega) (by omega) (by omega) (by omega) (by omega) e129 e130 e131 e132 (fun k => by have q9 := a128 k; omega) (fun k => by have q9 := h_m_newStandings k; omega) (by omega) (by omega) (by omega) (by omega) (by omega)
          · skip
            have c135 := (fa_eq _ _).mp c135
            refine And.intro (fun h9 => absurd h9 (by decide)) (fun _ => ?_)
            refine t_X10_here (by first | exact h_m_read | exact Or.inl rfl | exact Or.inr rfl | omega) (by omega) (by omega) (by omega) (fun k => by have q9 := h_m_text k; omega) (fun k => by have q9 := h_m_rule k; omega) (by omega) (fun r136 h_r136 ox137 ox138 => ?_)
            refine And.intro (fun c139 => ?_) (fun c139 => ?_)
            · skip
              have c139 := (fa_eq _ _).mp c139
              intro v140 ev140
              have f141 : Int32.toInt (m_at_121 + 1) = Int32.toInt m_at_121 + Int32.toInt (1 : Int32) := ta_add _ _ (by omega)
              rw [← ev140] at f141
              refine And.intro (fun h9 => absurd h9 (by decide)) (fun _ => ?_)
              refine t_X10_number (by omega) (by first | exact h_m_read | exact Or.inl rfl | exact Or.inr rfl | omega) (by omega) (by omega) (by omega) (by omega) (fun k => by have q9 := h_m_text k; omega) (fun k => by have q9 := h_m_rule k; omega) (by omega) (fun r144 m_at_142 m_wrong_143 h_r144 h_m_at_142 h_m_wrong_143 ox145 ox146 ox147 ox148 => ?_)
              exact ts_X10_readLine_95 m_fruits m_standings m_read m_length m_top m_text m_rule h_m_fruits h_m_standings h_m_read h_m_length h_m_top h_m_text h_m_rule hpost v101 v133 r144 m_at_142 m_wrong_143 m_newFruitMany m_newStandingMany (upd (upd m_newFruits v101.toNatClampNeg r107) v119.toNatClampNeg r123) m_newStandings (by omega) (by omega) (by omega) (by omega) (by omega) (by omega) (by omega) e129 e130 e131 e132 (fun k => by have q9 := a128 k; omega) (fun k => by have q9 := h_m_newStandings k; omega) (by omega) (by omega) (by omega) (by omega) (by omega)
            · skip
              have c139 := mt (fa_eq _ _).mpr c139
              refine And.intro (fun _ => ?_) (fun h9 => absurd h9 (by decide))
              exact ts_X10_readLine_95 m_fruits m_standings m_read m_length m_top m_text m_rule h_m_fruits h_m_standings h_m_read h_m_length h_m_top h_m_text h_m_rule hpost v101 v133 1 m_at_121 m_wrong_122 m_newFruitMany m_newStandingMany (upd (upd m_newFruits v101.toNatClampNeg r107) v119.toNatClampNeg r123) m_newStandings (by omega) (by omega) (by omega) (by omega) (by omega) (by omega) (by omega) e129 e130 e131 e132 (fun k => by have q9 := a128 k; omega) (fun k => by have q9 := h_m_newStandings k; omega) (by omega) (by omega) (by omega) (by omega) (by omega)
        · skip
          have c118 := (fa_eq _ _).mp c118
          exfalso; omega
      · skip
        have c117 := (fa_eq _ _).mp c117
        refine And.intro (fun h9 => absurd h9 (by decide)) (fun _ => ?_)
        refine t_X10_here (by first | exact h_m_read | exact Or.inl rfl | exact Or.inr rfl | omega) (by omega) (by omega) (by omega) (fun k => by have q9 := h_m_text k; omega) (fun k => by have q9 := h_m_rule k; omega) (by omega) (fun r149 h_r149 ox150 ox151 => ?_)
        refine And.intro (fun c152 => ?_) (fun c152 => ?_)
        · skip
          have c152 := (fa_eq _ _).mp c152
          intro v153 ev153
          have f154 : Int32.toInt (m_at_105 + 1) = Int32.toInt m_at_105 + Int32.toInt (1 : Int32) := ta_add _ _ (by omega)
          rw [← ev153] at f154
          refine And.intro (fun _ => ?_) (fun h9 => absurd h9 (by decide))
          intro v155 ev155
          have f156 : Int32.toInt (v101 + 1) = Int32.toInt v101 + Int32.toInt (1 : Int32) := ta_add _ _ (by omega)
          rw [← ev155] at f156
          refine t_X10_number (by omega) (by first | exact h_m_read | exact Or.inl rfl | exact Or.inr rfl | omega) (by omega) (by omega) (by omega) (by omega) (fun k => by have q9 := h_m_text k; omega) (fun k => by have q9 := h_m_rule k; omega) (by omega) (fun r159 m_at_157 m_wrong_158 h_r159 h_m_at_157 h_m_wrong_158 ox160 ox161 ox162 ox163 => ?_)
          refine And.intro (t_in (by omega)) ?_
          have a164 : ∀ k : Nat, 0 ≤ Int32.toInt ((upd (upd m_newFruits v101.toNatClampNeg r107) v155.toNatClampNeg r159) k) ∧ Int32.toInt ((upd (upd m_newFruits v101.toNatClampNeg r107) v155.toNatClampNeg r159) k) ≤ 99 := t_upd (fun k => by have q9 := a112 k; omega) (by omega)
          have e165 : ∀ k : Nat, k % 4 = 0 → 0 ≤ Int32.toInt ((upd (upd m_newFruits v101.toNatClampNeg r107) v155.toNatClampNeg r159) k) ∧ Int32.toInt ((upd (upd m_newFruits v101.toNatClampNeg r107) v155.toNatClampNeg r159) k) ≤ 99 := t_updc (C := fun k => k % 4 = 0) e113 (fun hk => by have e9 : v155.toNatClampNeg = (Int32.toInt v155).toNat := rfl; have hk : v155.toNatClampNeg % 4 = 0 := hk; omega)
          have e166 : ∀ k : Nat, k % 4 = 1 → 0 ≤ Int32.toInt ((upd (upd m_newFruits v101.toNatClampNeg r107) v155.toNatClampNeg r159) k) ∧ Int32.toInt ((upd (upd m_newFruits v101.toNatClampNeg r107) v155.toNatClampNeg r159) k) ≤ 99 := t_updc (C := fun k => k % 4 = 1) e114 (fun hk => by have e9 : v155.toNatClampNeg = (Int32.toInt v155).toNat := rfl; have hk : v155.toNatClampNeg % 4 = 1 := hk; omega)
          have e167 : ∀ k : Nat, k % 4 = 2 → 0 ≤ Int32.toInt ((upd (upd m_newFruits v101.toNatClampNeg r107) v155.toNatClampNeg r159) k) ∧ Int32.toInt ((upd (upd m_newFruits v101.toNatClampNeg r107) v155.toNatClampNeg r159) k) ≤ 9 := t_updc (C := fun k => k % 4 = 2) e115 (fun hk => by have e9 : v155.toNatClampNeg = (Int32.toInt v155).toNat := rfl; have hk : v155.toNatClampNeg % 4 = 2 := hk; omega)
          have e168 : ∀ k : Nat, k % 4 = 3 → 0 ≤ Int32.toInt ((upd (upd m_newFruits v101.toNatClampNeg r107) v155.toNatClampNeg r159) k) ∧ Int32.toInt ((upd (upd m_newFruits v101.toNatClampNeg r107) v155.toNatClampNeg r159) k) ≤ 9 := t_updc (C := fun k => k % 4 = 3) e116 (fun hk => by have e9 : v155.toNatClampNeg = (Int32.toInt v155).toNat := rfl; have hk : v155.toNatClampNeg % 4 = 3 := hk; omega)
          intro v169 ev169
          have f170 : Int32.toInt (v101 + 2) = Int32.toInt v101 + Int32.toInt (2 : Int32) := ta_add _ _ (by omega)
          rw [← ev169] at f170
          refine And.intro (fun c171 => ?_) (fun c171 => ?_)
          · skip
            have c171 := mt (fa_eq _ _).mpr c171
            refine And.intro (fun _ => ?_) (fun h9 => absurd h9 (by decide))
            refine And.intro (fun _ => ?_) (fun h9 => absurd h9 (by decide))
            exact ts_X10_readLine_95 m_fruits m_standings m_read m_length m_top m_text m_rule h_m_fruits h_m_standings h_m_read h_m_length h_m_top h_m_text h_m_rule hpost v101 v169 1 m_at_157 m_wrong_158 m_newFruitMany m_newStandingMany (upd (upd m_newFruits v101.toNatClampNeg r107) v155.toNatClampNeg r159) m_newStandings (by omega) (by omega) (by omega) (by omega) (by omega) (by omega) (by omega) e165 e166 e167 e168 (fun k => by have q9 := a164 k; omega) (fun k => by have q9 := h_m_newStandings k; omega) (by omega) (by omega) (by omega) (by omega) (by omega)
          · skip
            have c171 := (fa_eq _ _).mp c171
            refine And.intro (fun h9 => absurd h9 (by decide)) (fun _ => ?_)
            refine t_X10_here (by first | exact h_m_read | exact Or.inl rfl | exact Or.inr rfl | omega) (by omega) (by omega) (by omega) (fun k => by have q9 := h_m_text k; omega) (fun k => by have q9 := h_m_rule k; omega) (by omega) (fun r172 h_r172 ox173 ox174 => ?_)
            refine And.intro (fun c175 => ?_) (fun c175 => ?_)
            · skip
              have c175 := (fa_eq _ _).mp c175
              intro v176 ev176
              have f177 : Int32.toInt (m_at_157 + 1) = Int32.toInt m_at_157 + Int32.toInt (1 : Int32) := ta_add _ _ (by omega)
              rw [← ev176] at f177
              refine And.intro (fun h9 => absurd h9 (by decide)) (fun _ => ?_)
              refine t_X10_number (by omega) (by first | exact h_m_read | exact Or.inl rfl | exact Or.inr rfl | omega) (by omega) (by omega) (by omega) (by omega) (fun k => by have q9 := h_m_text k; omega) (fun k => by have q9 := h_m_rule k; omega) (by omega) (fun r180 m_at_178 m_wrong_179 h_r180 h_m_at_178 h_m_wrong_179 ox181 ox182 ox183 ox184 => ?_)
              exact ts_X10_readLine_95 m_fruits m_standings m_read m_length m_top m_text m_rule h_m_fruits h_m_standings h_m_read h_m_length h_m_top h_m_text h_m_rule hpost v101 v169 r180 m_at_178 m_wrong_179 m_newFruitMany m_newStandingMany (upd (upd m_newFruits v101.toNatClampNeg r107) v155.toNatClampNeg r159) m_newStandings (by omega) (by omega) (by omega) (by omega) (by omega) (by omega) (by omega) e165 e166 e167 e168 (fun k => by have q9 := a164 k; omega) (fun k => by have q9 := h_m_newStandings k; omega) (by omega) (by omega) (by omega) (by omega) (by omega)
            · skip
              have c175 := mt (fa_eq _ _).mpr c175
              refine And.intro (fun _ => ?_) (fun h9 => absurd h9 (by decide))
              exact ts_X10_readLine_95 m_fruits m_standings m_read m_length m_top m_text m_rule h_m_fruits h_m_standings h_m_read h_m_length h_m_top h_m_text h_m_rule hpost v101 v169 1 m_at_157 m_wrong_158 m_newFruitMany m_newStandingMany (upd (upd m_newFruits v101.toNatClampNeg r107) v155.toNatClampNeg r159) m_newStandings (by omega) (by omega) (by omega) (by omega) (by omega) (by omega) (by omega) e165 e166 e167 e168 (fun k => by have q9 := a164 k; omega) (fun k => by have q9 := h_m_newStandings k; omega) (by omega) (by omega) (by omega) (by omega) (by omega)
        · skip
          have c152 := mt (fa_eq _ _).mpr c152
          refine And.intro (fun h9 => absurd h9 (by decide)) (fun _ => ?_)
          refine And.intro (fun c185 => ?_) (fun c185 => ?_)
          · skip
            have c185 := mt (fa_eq _ _).mpr c185
            exfalso; omega
          · skip
            have c185 := (fa_eq _ _).mp c185
            refine And.intro (fun h9 => absurd h9 (by decide)) (fun _ => ?_)
            intro v186 ev186
            have f187 : Int32.toInt (v101 + 1) = Int32.toInt v101 + Int32.toInt (1 : Int32) := ta_add _ _ (by omega)
            rw [← ev186] at f187
            refine t_X10_number (by omega) (by first | exact h_m_read | exact Or.inl rfl | exact Or.inr rfl | omega) (by omega) (by omega) (by omega) (by omega) (fun k => by have q9 := h_m_text k; omega) (fun k => by have q9 := h_m_rule k; omega) (by omega) (fun r190 m_at_188 m_wrong_189 h_r190 h_m_at_188 h_m_wrong_189 ox191 ox192 ox193 ox194 => ?_)
            refine And.intro (t_in (by omega)) ?_
            have a195 : ∀ k : Nat, 0 ≤ Int32.toInt ((upd (upd m_newFruits v101.toNatClampNeg r107) v186.toNatClampNeg r190) k) ∧ Int32.toInt ((upd (upd m_newFruits v101.toNatClampNeg r107) v186.toNatClampNeg r190) k) ≤ 99 := t_upd (fun k => by have q9 := a112 k; omega) (by omega)
            have e196 : ∀ k : Nat, k % 4 = 0 → 0 ≤ Int32.toInt ((upd (upd m_newFruits v101.toNatClampNeg r107) v186.toNatClampNeg r190) k) ∧ Int32.toInt ((upd (upd m_newFruits v101.toNatClampNeg r107) v186.toNatClampNeg r190) k) ≤ 99 := t_updc (C := fun k => k % 4 = 0) e113 (fun hk => by have e9 : v186.toNatClampNeg = (Int32.toInt v186).toNat := rfl; have hk : v186.toNatClampNeg % 4 = 0 := hk; omega)
            have e197 : ∀ k : Nat, k % 4 = 1 → 0 ≤ Int32.toInt ((upd (upd m_newFruits v101.toNatClampNeg r107) v186.toNatClampNeg r190) k) ∧ Int32.toInt ((upd (upd m_newFruits v101.toNatClampNeg r107) v186.toNatClampNeg r190) k) ≤ 99 := t_updc (C := fun k => k % 4 = 1) e114 (fun hk => by have e9 : v186.toNatClampNeg = (Int32.toInt v186).toNat := rfl; have hk : v186.toNatClampNeg % 4 = 1 := hk; omega)
            have e198 : ∀ k : Nat, k % 4 = 2 → 0 ≤ Int32.toInt ((upd (upd m_newFruits v101.toNatClampNeg r107) v186.toNatClampNeg r190) k) ∧ Int32.toInt ((upd (upd m_newFruits v101.toNatClampNeg r107) v186.toNatClampNeg r190) k) ≤ 9 := t_updc (C := fun k => k % 4 = 2) e115 (fun hk => by have e9 : v186.toNatClampNeg = (Int32.toInt v186).toNat := rfl; have hk : v186.toNatClampNeg % 4 = 2 := hk; omega)
            have e199 : ∀ k : Nat, k % 4 = 3 → 0 ≤ Int32.toInt ((upd (upd m_newFruits v101.toNatClampNeg r107) v186.toNatClampNeg r190) k) ∧ Int32.toInt ((upd (upd m_newFruits v101.toNatClampNeg r107) v186.toNatClampNeg r190) k) ≤ 9 := t_updc (C := fun k => k % 4 = 3) e116 (fun hk => by have e9 : v186.toNatClampNeg = (Int32.toInt v186).toNat := rfl; have hk : v186.toNatClampNeg % 4 = 3 := hk; omega)
            intro v200 ev200
            have f201 : Int32.toInt (v101 + 2) = Int32.toInt v101 + Int32.toInt (2 : Int32) := ta_add _ _ (by omega)
            rw [← ev200] at f201
            refine And.intro (fun c202 => ?_) (fun c202 => ?_)
            · skip
              have c202 := mt (fa_eq _ _).mpr c202
              refine And.intro (fun _ => ?_) (fun h9 => absurd h9 (by decide))
              refine And.intro (fun _ => ?_) (fun h9 => absurd h9 (by decide))
              exact ts_X10_readLine_95 m_fruits m_standings m_read m_length m_top m_text m_rule h_m_fruits h_m_standings h_m_read h_m_length h_m_top h_m_text h_m_rule hpost v101 v200 1 m_at_188 m_wrong_189 m_newFruitMany m_newStandingMany (upd (upd m_newFruits v101.toNatClampNeg r107) v186.toNatClampNeg r190) m_newStandings (by omega) (by omega) (by omega) (by omega) (by omega) (by omega) (by omega) e196 e197 e198 e199 (fun k => by have q9 := a195 k; omega) (fun k => by have q9 := h_m_newStandings k; omega) (by omega) (by omega) (by omega) (by omega) (by omega)
            · skip
              have c202 := (fa_eq _ _).mp c202
              refine And.intro (fun h9 => absurd h9 (by decide)) (fun _ => ?_)
              refine t_X10_here (by first | exact h_m_read | exact Or.inl rfl | exact Or.inr rfl | omega) (by omega) (by omega) (by omega) (fun k => by have q9 := h_m_text k; omega) (fun k => by have q9 := h_m_rule k; omega) (by omega) (fun r203 h_r203 ox204 ox205 => ?_)
              refine And.intro (fun c206 => ?_) (fun c206 => ?_)
              · skip
                have c206 := (fa_eq _ _).mp c206
                intro v207 ev207
                have f208 : Int32.toInt (m_at_188 + 1) = Int32.toInt m_at_188 + Int32.toInt (1 : Int32) := ta_add _ _ (by omega)
                rw [← ev207] at f208
                refine And.intro (fun h9 => absurd h9 (by decide)) (fun _ => ?_)
                refine t_X10_number (by omega) (by first | exact h_m_read | exact Or.inl rfl | exact Or.inr rfl | omega) (by omega) (by omega) (by omega) (by omega) (fun k => by have q9 := h_m_text k; omega) (fun k => by have q9 := h_m_rule k; omega) (by omega) (fun r211 m_at_209 m_wrong_210 h_r211 h_m_at_209 h_m_wrong_210 ox212 ox213 ox214 ox215 => ?_)
                exact ts_X10_readLine_95 m_fruits m_standings m_read m_length m_top m_text m_rule h_m_fruits h_m_standings h_m_read h_m_length h_m_top h_m_text h_m_rule hpost v101 v200 r211 m_at_209 m_wrong_210 m_newFruitMany m_newStandingMany (upd (upd m_newFruits v101.toNatClampNeg r107) v186.toNatClampNeg r190) m_newStandings (by omega) (by omega) (by omega) (by omega) (by omega) (by omega) (by omega) e196 e197 e198 e199 (fun k => by have q9 := a195 k; omega) (fun k => by have q9 := h_m_newStandings k; omega) (by omega) (by omega) (by omega) (by omega) (by omega)
              · skip
                have c206 := mt (fa_eq _ _).mpr c206
                refine And.intro (fun _ => ?_) (fun h9 => absurd h9 (by decide))
                exact ts_X10_readLine_95 m_fruits m_standings m_read m_length m_top m_text m_rule h_m_fruits h_m_standings h_m_read h_m_length h_m_top h_m_text h_m_rule hpost v101 v200 1 m_at_188 m_wrong_189 m_newFruitMany m_newStandingMany (upd (upd m_newFruits v101.toNatClampNeg r107) v186.toNatClampNeg r190) m_newStandings (by omega) (by omega) (by omega) (by omega) (by omega) (by omega) (by omega) e196 e197 e198 e199 (fun k => by have q9 := a195 k; omega) (fun k => by have q9 := h_m_newStandings k; omega) (by omega) (by omega) (by omega) (by omega) (by omega)
set_option maxHeartbeats 8000000 in
set_option maxRecDepth 200000 in
theorem ts_X10_orchard_215 {post : Int32 → Int32 → Int32 → Int32 → Int32 → Nat → Int32 → Int32 → Int32 → Int32 → Int32 → Int32 → Int32 → Int32 → (Nat → Int32) → (Nat → Int32) → (Nat → Int32) → (Nat → Int32) → (Nat → Int32) → (Nat → Int32) → (Nat → Int32) → (Nat → Int32) → (Nat → Int32) → Prop} {SB : Int} {m_standings0 : Int32} {next : Int32 → Int32 → Int32 → Int32 → Int32 → Nat → Int32 → Int32 → Int32 → Int32 → Int32 → Int32 → Int32 → Int32 → (Nat → Int32) → (Nat → Int32) → (Nat → Int32) → (Nat → Int32) → (Nat → Int32) → (Nat → Int32) → (Nat → Int32) → (Nat → Int32) → (Nat → Int32) → Prop} {n215 : Int} (m_text : Nat → Int32) (m_rule : Nat → Int32) (h_m_text : ∀ k : Nat, -128 ≤ Int32.toInt (m_text k) ∧ Int32.toInt (m_text k) ≤ 127) (h_m_rule : ∀ k : Nat, -128 ≤ Int32.toInt (m_rule k) ∧ Int32.toInt (m_rule k) ≤ 127) (hc0 : -1 ≤ SB ∧ SB ≤ 7) (hpost : ∀ (r : Int32) (m_fruits' : Int32) (m_standings' : Int32) (m_typed' : Int32) (m_thrown' : Int32) (m_read' : Nat) (m_length' : Int32) (m_top' : Int32) (m_at' : Int32) (m_wrong' : Int32) (m_newFruitMany' : Int32) (m_newStandingMany' : Int32) (m_undoMany' : Int32) (m_came' : Int32) (m_now' : Nat → Int32) (m_x' : Nat → Int32) (m_height' : Nat → Int32) (m_worth' : Nat → Int32) (m_ripe' : Nat → Int32) (m_foot' : Nat → Int32) (m_fork' : Nat → Int32) (m_newFruits' : Nat → Int32) (m_newStandings' : Nat → Int32), (-100 ≤ Int32.toInt r ∧ Int32.toInt r ≤ 24) → (0 ≤ Int32.toInt m_fruits' ∧ Int32.toInt m_fruits' ≤ 16) → (0 ≤ Int32.toInt m_standings' ∧ Int32.toInt m_standings' ≤ 8) → (0 ≤ Int32.toInt m_typed' ∧ Int32.toInt m_typed' ≤ 0) → (0 ≤ Int32.toInt m_thrown' ∧ Int32.toInt m_thrown' ≤ 0) → (m_read' = 1) → (0 ≤ Int32.toInt m_length' ∧ Int32.toInt m_length' ≤ 80) → (76 ≤ Int32.toInt m_top' ∧ Int32.toInt m_top' ≤ 76) → (0 ≤ Int32.toInt m_at' ∧ Int32.toInt m_at' ≤ 80) → (-1 ≤ Int32.toInt m_wrong' ∧ Int32.toInt m_wrong' ≤ 80) → (0 ≤ Int32.toInt m_newFruitMany' ∧ Int32.toInt m_newFruitMany' ≤ 16) → (0 ≤ Int32.toInt m_newStandingMany' ∧ Int32.toInt m_newStandingMany' ≤ 8) → (0 ≤ Int32.toInt m_undoMany' ∧ Int32.toInt m_undoMany' ≤ 12) → (∀ k : Nat, k = 17 → -1 ≤ Int32.toInt (m_now' k) ∧ Int32.toInt (m_now' k) ≤ SB) → (∀ k : Nat, k = 19 → 0 ≤ Int32.toInt (m_now' k) ∧ Int32.toInt (m_now' k) ≤ 9) → (∀ k : Nat, 0 ≤ Int32.toInt (m_x' k) ∧ Int32.toInt (m_x' k) ≤ 99) → (∀ k : Nat, 0 ≤ Int32.toInt (m_height' k) ∧ Int32.toInt (m_height' k) ≤ 99) → (∀ k : Nat, 0 ≤ Int32.toInt (m_worth' k) ∧ Int32.toInt (m_worth' k) ≤ 9) → (∀ k : Nat, 0 ≤ Int32.toInt (m_ripe' k) ∧ Int32.toInt (m_ripe' k) ≤ 9) → (∀ k : Nat, 0 ≤ Int32.toInt (m_foot' k) ∧ Int32.toInt (m_foot' k) ≤ 99) → (∀ k : Nat, 0 ≤ Int32.toInt (m_fork' k) ∧ Int32.toInt (m_fork' k) ≤ 99) → (∀ k : Nat, k % 4 = 0 → 0 ≤ Int32.toInt (m_newFruits' k) ∧ Int32.toInt (m_newFruits' k) ≤ 99) → (∀ k : Nat, k % 4 = 1 → 0 ≤ Int32.toInt (m_newFruits' k) ∧ Int32.toInt (m_newFruits' k) ≤ 99) → (∀ k : Nat, k % 4 = 2 → 0 ≤ Int32.toInt (m_newFruits' k) ∧ Int32.toInt (m_newFruits' k) ≤ 9) → (∀ k : Nat, k % 4 = 3 → 0 ≤ Int32.toInt (m_newFruits' k) ∧ Int32.toInt (m_newFruits' k) ≤ 9) → (∀ k : Nat, 0 ≤ Int32.toInt (m_newFruits' k) ∧ Int32.toInt (m_newFruits' k) ≤ 99) → (∀ k : Nat, 0 ≤ Int32.toInt (m_newStandings' k) ∧ Int32.toInt (m_newStandings' k) ≤ 99) → (Int32.toInt m_standings0 ≤ Int32.toInt m_standings') → post r m_fruits' m_standings' m_typed' m_thrown' m_read' m_length' m_top' m_at' m_wrong' m_newFruitMany' m_newStandingMany' m_undoMany' m_came' m_now' m_x' m_height' m_worth' m_ripe' m_foot' m_fork' m_newFruits' m_newStandings') (hKn : ∀ (x2 : Int32) (m_fruits : Int32) (m_standings : Int32) (m_typed : Int32) (m_thrown : Int32) (m_read : Nat) (m_length : Int32) (m_top : Int32) (m_at : Int32) (m_wrong : Int32) (m_newFruitMany : Int32) (m_newStandingMany : Int32) (m_undoMany : Int32) (m_came : Int32) (m_now : Nat → Int32) (m_x : Nat → Int32) (m_height : Nat → Int32) (m_worth : Nat → Int32) (m_ripe : Nat → Int32) (m_foot : Nat → Int32) (m_fork : Nat → Int32) (m_newFruits : Nat → Int32) (m_newStandings : Nat → Int32), (0 ≤ Int32.toInt x2 ∧ Int32.toInt x2 ≤ 8) → (0 ≤ Int32.toInt m_fruits ∧ Int32.toInt m_fruits ≤ 16) → (0 ≤ Int32.toInt m_standings ∧ Int32.toInt m_standings ≤ 8) → (0 ≤ Int32.toInt m_typed ∧ Int32.toInt m_typed ≤ 0) → (0 ≤ Int32.toInt m_thrown ∧ Int32.toInt m_thrown ≤ 0) → (m_read = 1) → (1 ≤ Int32.toInt m_length ∧ Int32.toInt m_length ≤ 80) → (76 ≤ Int32.toInt m_top ∧ Int32.toInt m_top ≤ 76) → (0 ≤ Int32.toInt m_at ∧ Int32.toInt m_at ≤ 80) → (-1 ≤ Int32.toInt m_wrong ∧ Int32.toInt m_wrong ≤ -1) → (0 ≤ Int32.toInt m_newFruitMany ∧ Int32.toInt m_newFruitMany ≤ 16) → (0 ≤ Int32.toInt m_newStandingMany ∧ Int32.toInt m_newStandingMany ≤ 8) → (0 ≤ Int32.toInt m_undoMany ∧ Int32.toInt m_undoMany ≤ 12) → (∀ k : Nat, k = 17 → -1 ≤ Int32.toInt (m_now k) ∧ Int32.toInt (m_now k) ≤ SB) → (∀ k : Nat, k = 19 → 0 ≤ Int32.toInt (m_now k) ∧ Int32.toInt (m_now k) ≤ 9) → (∀ k : Nat, 0 ≤ Int32.toInt (m_x k) ∧ Int32.toInt (m_x k) ≤ 99) → (∀ k : Nat, 0 ≤ Int32.toInt (m_height k) ∧ Int32.toInt (m_height k) ≤ 99) → (∀ k : Nat, 0 ≤ Int32.toInt (m_worth k) ∧ Int32.toInt (m_worth k) ≤ 9) → (∀ k : Nat, 0 ≤ Int32.toInt (m_ripe k) ∧ Int32.toInt (m_ripe k) ≤ 9) → (∀ k : Nat, 0 ≤ Int32.toInt (m_foot k) ∧ Int32.toInt (m_foot k) ≤ 99) → (∀ k : Nat, 0 ≤ Int32.toInt (m_fork k) ∧ Int32.toInt (m_fork k) ≤ 99) → (∀ k : Nat, k % 4 = 0 → 0 ≤ Int32.toInt (m_newFruits k) ∧ Int32.toInt (m_newFruits k) ≤ 99) → (∀ k : Nat, k % 4 = 1 → 0 ≤ Int32.toInt (m_newFruits k) ∧ Int32.toInt (m_newFruits k) ≤ 99) → (∀ k : Nat, k % 4 = 2 → 0 ≤ Int32.toInt (m_newFruits k) ∧ Int32.toInt (m_newFruits k) ≤ 9) → (∀ k : Nat, k % 4 = 3 → 0 ≤ Int32.toInt (m_newFruits k) ∧ Int32.toInt (m_newFruits k) ≤ 9) → (∀ k : Nat, 0 ≤ Int32.toInt (m_newFruits k) ∧ Int32.toInt (m_newFruits k) ≤ 99) → (∀ k : Nat, 0 ≤ Int32.toInt (m_newStandings k) ∧ Int32.toInt (m_newStandings k) ≤ 99) → (Int32.toInt m_standings + Int32.toInt m_newStandingMany - Int32.toInt x2 ≤ 8) → (Int32.toInt m_standings0 ≤ Int32.toInt m_standings) → (8 - Int32.toInt x2 < n215) → next x2 m_fruits m_standings m_typed m_thrown m_read m_length m_top m_at m_wrong m_newFruitMany m_newStandingMany m_undoMany m_came m_now m_x m_height m_worth m_ripe m_foot m_fork m_newFruits m_newStandings) (x2 : Int32) (m_fruits : Int32) (m_standings : Int32) (m_typed : Int32) (m_thrown : Int32) (m_read : Nat) (m_length : Int32) (m_top : Int32) (m_at : Int32) (m_wrong : Int32) (m_newFruitMany : Int32) (m_newStandingMany : Int32) (m_undoMany : Int32) (m_came : Int32) (m_now : Nat → Int32) (m_x : Nat → Int32) (m_height : Nat → Int32) (m_worth : Nat → Int32) (m_ripe : Nat → Int32) (m_foot : Nat → Int32) (m_fork : Nat → Int32) (m_newFruits : Nat → Int32) (m_newStandings : Nat → Int32) (h_x2 : 0 ≤ Int32.toInt x2 ∧ Int32.toInt x2 ≤ 8) (h_m_fruits : 0 ≤ Int32.toInt m_fruits ∧ Int32.toInt m_fruits ≤ 16) (h_m_standings : 0 ≤ Int32.toInt m_standings ∧ Int32.toInt m_standings ≤ 8) (h_m_typed : 0 ≤ Int32.toInt m_typed ∧ Int32.toInt m_typed ≤ 0) (h_m_thrown : 0 ≤ Int32.toInt m_thrown ∧ Int32.toInt m_thrown ≤ 0) (h_m_read : m_read = 1) (h_m_length : 1 ≤ Int32.toInt m_length ∧ Int32.toInt m_length ≤ 80) (h_m_top : 76 ≤ Int32.toInt m_top ∧ Int32.toInt m_top ≤ 76) (h_m_at : 0 ≤ Int32.toInt m_at ∧ Int32.toInt m_at ≤ 80) (h_m_wrong : -1 ≤ Int32.toInt m_wrong ∧ Int32.toInt m_wrong ≤ -1) (h_m_newFruitMany : 0 ≤ Int32.toInt m_newFruitMany ∧ Int32.toInt m_newFruitMany ≤ 16) (h_m_newStandingMany : 0 ≤ Int32.toInt m_newStandingMany ∧ Int32.toInt m_newStandingMany ≤ 8) (h_m_undoMany : 0 ≤ Int32.toInt m_undoMany ∧ Int32.toInt m_undoMany ≤ 12) (e0_m_now : ∀ k : Nat, k = 17 → -1 ≤ Int32.toInt (m_now k) ∧ Int32.toInt (m_now k) ≤ SB) (e1_m_now : ∀ k : Nat, k = 19 → 0 ≤ Int32.toInt (m_now k) ∧ Int32.toInt (m_now k) ≤ 9) (h_m_x : ∀ k : Nat, 0 ≤ Int32.toInt (m_x k) ∧ Int32.toInt (m_x k) ≤ 99) (h_m_height : ∀ k : Nat, 0 ≤ Int32.toInt (m_height k) ∧ Int32.toInt (m_height k) ≤ 99) (h_m_worth : ∀ k : Nat, 0 ≤ Int32.toInt (m_worth k) ∧ Int32.toInt (m_worth k) ≤ 9) (h_m_ripe : ∀ k : Nat, 0 ≤ Int32.toInt (m_ripe k) ∧ Int32.toInt (m_ripe k) ≤ 9) (h_m_foot : ∀ k : Nat, 0 ≤ Int32.toInt (m_foot k) ∧ Int32.toInt (m_foot k) ≤ 99) (h_m_fork : ∀ k : Nat, 0 ≤ Int32.toInt (m_fork k) ∧ Int32.toInt (m_fork k) ≤ 99) (e0_m_newFruits : ∀ k : Nat, k % 4 = 0 → 0 ≤ Int32.toInt (m_newFruits k) ∧ Int32.toInt (m_newFruits k) ≤ 99) (e1_m_newFruits : ∀ k : Nat, k % 4 = 1 → 0 ≤ Int32.toInt (m_newFruits k) ∧ Int32.toInt (m_newFruits k) ≤ 99) (e2_m_newFruits : ∀ k : Nat, k % 4 = 2 → 0 ≤ Int32.toInt (m_newFruits k) ∧ Int32.toInt (m_newFruits k) ≤ 9) (e3_m_newFruits : ∀ k : Nat, k % 4 = 3 → 0 ≤ Int32.toInt (m_newFruits k) ∧ Int32.toInt (m_newFruits k) ≤ 9) (h_m_newFruits : ∀ k : Nat, 0 ≤ Int32.toInt (m_newFruits k) ∧ Int32.toInt (m_newFruits k) ≤ 99) (h_m_newStandings : ∀ k : Nat, 0 ≤ Int32.toInt (m_newStandings k) ∧ Int32.toInt (m_newStandings k) ≤ 99) (hx0 : Int32.toInt m_standings + Int32.toInt m_newStandingMany - Int32.toInt x2 ≤ 8) (hx1 : Int32.toInt m_standings0 ≤ Int32.toInt m_standings) (hn215 : 8 - Int32.toInt x2 ≤ n215) : ws_X10_orchard_215 post next m_text m_rule x2 m_fruits m_standings m_typed m_thrown m_read m_length m_top m_at m_wrong m_newFruitMany m_newStandingMany m_undoMany m_came m_now m_x m_height m_worth m_ripe m_foot m_fork m_newFruits m_newStandings := by
  have l0 : Int32.toInt (0 : Int32) = 0 := (by decide)
  have l1 : Int32.toInt (1 : Int32) = 1 := (by decide)
  have l2 : Int32.toInt (2 : Int32) = 2 := (by decide)
  refine And.intro (fun c1 => ?_) (fun c1 => ?_)
  · skip
    have c1 := (fa_le _ _).mp c1
    intro v2 ev2
    have hv2 := congrArg Int32.toInt ev2
    have f4 : Int32.toInt (m_newFruitMany + m_newStandingMany) = Int32.toInt m_newFruitMany + Int32.toInt m_newStandingMany := ta_add _ _ (by omega)
    exact hpost _ _ _ _ _ _ _ _ _ _ _ _ _ _ _ _ _ _ _ _ _ _ _ (by omega) (by omega) (by omega) (by omega) (by omega) (by first | exact h_m_read | exact Or.inl rfl | exact Or.inr rfl | omega) (by omega) (by omega) (by omega) (by omega) (by omega) (by omega) (by omega) e0_m_now e1_m_now (fun k => by have q9 := h_m_x k; omega) (fun k => by have q9 := h_m_height k; omega) (fun k => by have q9 := h_m_worth k; omega) (fun k => by have q9 := h_m_ripe k; omega) (fun k => by have q9 := h_m_foot k; omega) (fun k => by have q9 := h_m_fork k; omega) e0_m_newFruits e1_m_newFruits e2_m_newFruits e3_m_newFruits (fun k => by have q9 := h_m_newFruits k; omega) (fun k => by have q9 := h_m_newStandings k; omega) (by omega)
  · skip
    have c1 := mt (fa_le _ _).mpr c1
    intro v5 ev5
    have f6 : Int32.toInt (2 * x2) = Int32.toInt x2 * 2 := ta_cmul _ _ (by decide) (by omega)
    rw [← ev5] at f6
    refine And.intro (t_in (by omega)) ?_
    intro v7 ev7
    have f8 := h_m_newStandings v5.toNatClampNeg
    have hv7 := congrArg Int32.toInt ev7
    refine And.intro (t_in (by omega)) ?_
    have a9 : ∀ k : Nat, 0 ≤ Int32.toInt ((upd m_foot m_standings.toNatClampNeg v7) k) ∧ Int32.toInt ((upd m_foot m_standings.toNatClampNeg v7) k) ≤ 99 := t_upd (fun k => by have q9 := h_m_foot k; omega) (by omega)
    intro v10 ev10
    have hv10 := congrArg Int32.toInt (ev10.trans ev5.symm)
    intro v11 ev11
    have f12 : Int32.toInt (v10 + 1) = Int32.toInt v10 + Int32.toInt (1 : Int32) := ta_add _ _ (by omega)
    rw [← ev11] at f12
    refine And.intro (t_in (by omega)) ?_
    intro v13 ev13
    have f14 := h_m_newStandings v11.toNatClampNeg
    have hv13 := congrArg Int32.toInt ev13
    refine And.intro (t_in (by omega)) ?_
    have a15 : ∀ k : Nat, 0 ≤ Int32.toInt ((upd m_fork m_standings.toNatClampNeg v13) k) ∧ Int32.toInt ((upd m_fork m_standings.toNatClampNeg v13) k) ≤ 99 := t_upd (fun k => by have q9 := h_m_fork k; omega) (by omega)
    intro v16 ev16
    have f17 : Int32.toInt (m_standings + 1) = Int32.toInt m_standings + Int32.toInt (1 : Int32) := ta_add _ _ (by omega)
    rw [← ev16] at f17
    intro v18 ev18
    have f19 : Int32.toInt (x2 + 1) = Int32.toInt x2 + Int32.toInt (1 : Int32) := ta_add _ _ (by omega)
    rw [← ev18] at f19
    have f20 := tp_r m_came
    exact hKn v18 m_fruits v16 m_typed m_thrown m_read m_length m_top m_at m_wrong m_newFruitMany m_newStandingMany m_undoMany m_came m_now m_x m_height m_worth m_ripe (upd m_foot m_standings.toNatClampNeg v7) (upd m_fork m_standings.toNatClampNeg v13) m_newFruits m_newStandings (by omega) (by omega) (by omega) (by omega) (by omega) (by first | exact h_m_read | exact Or.inl rfl | exact Or.inr rfl | omega) (by omega) (by omega) (by omega) (by omega) (by omega) (by omega) (by omega) e0_m_now e1_m_now (fun k => by have q9 := h_m_x k; omega) (fun k => by have q9 := h_m_height k; omega) (fun k => by have q9 := h_m_worth k; omega) (fun k => by have q9 := h_m_ripe k; omega) (fun k => by have q9 := a9 k; omega) (fun k => by have q9 := a15 k; omega) e0_m_newFruits e1_m_newFruits e2_m_newFruits e3_m_newFruits (fun k => by have q9 := h_m_newFruits k; omega) (fun k => by have q9 := h_m_newStandings k; omega) (by omega) (by omega) (by omega)
set_option maxHeartbeats 8000000 in
set_option maxRecDepth 200000 in
theorem tb_X10_orchard_215 {post : Int32 → Int32 → Int32 → Int32 → Int32 → Nat → Int32 → Int32 → Int32 → Int32 → Int32 → Int32 → Int32 → Int32 → (Nat → Int32) → (Nat → Int32) → (Nat → Int32) → (Nat → Int32) → (Nat → Int32) → (Nat → Int32) → (Nat → Int32) → (Nat → Int32) → (Nat → Int32) → Prop} {SB : Int} {m_standings0 : Int32} (m_text : Nat → Int32) (m_rule : Nat → Int32) (h_m_text : ∀ k : Nat, -128 ≤ Int32.toInt (m_text k) ∧ Int32.toInt (m_text k) ≤ 127) (h_m_rule : ∀ k : Nat, -128 ≤ Int32.toInt (m_rule k) ∧ Int32.toInt (m_rule k) ≤ 127) (hc0 : -1 ≤ SB ∧ SB ≤ 7) (hpost : ∀ (r : Int32) (m_fruits' : Int32) (m_standings' : Int32) (m_typed' : Int32) (m_thrown' : Int32) (m_read' : Nat) (m_length' : Int32) (m_top' : Int32) (m_at' : Int32) (m_wrong' : Int32) (m_newFruitMany' : Int32) (m_newStandingMany' : Int32) (m_undoMany' : Int32) (m_came' : Int32) (m_now' : Nat → Int32) (m_x' : Nat → Int32) (m_height' : Nat → Int32) (m_worth' : Nat → Int32) (m_ripe' : Nat → Int32) (m_foot' : Nat → Int32) (m_fork' : Nat → Int32) (m_newFruits' : Nat → Int32) (m_newStandings' : Nat → Int32), (-100 ≤ Int32.toInt r ∧ Int32.toInt r ≤ 24) → (0 ≤ Int32.toInt m_fruits' ∧ Int32.toInt m_fruits' ≤ 16) → (0 ≤ Int32.toInt m_standings' ∧ Int32.toInt m_standings' ≤ 8) → (0 ≤ Int32.toInt m_typed' ∧ Int32.toInt m_typed' ≤ 0) → (0 ≤ Int32.toInt m_thrown' ∧ Int32.toInt m_thrown' ≤ 0) → (m_read' = 1) → (0 ≤ Int32.toInt m_length' ∧ Int32.toInt m_length' ≤ 80) → (76 ≤ Int32.toInt m_top' ∧ Int32.toInt m_top' ≤ 76) → (0 ≤ Int32.toInt m_at' ∧ Int32.toInt m_at' ≤ 80) → (-1 ≤ Int32.toInt m_wrong' ∧ Int32.toInt m_wrong' ≤ 80) → (0 ≤ Int32.toInt m_newFruitMany' ∧ Int32.toInt m_newFruitMany' ≤ 16) → (0 ≤ Int32.toInt m_newStandingMany' ∧ Int32.toInt m_newStandingMany' ≤ 8) → (0 ≤ Int32.toInt m_undoMany' ∧ Int32.toInt m_undoMany' ≤ 12) → (∀ k : Nat, k = 17 → -1 ≤ Int32.toInt (m_now' k) ∧ Int32.toInt (m_now' k) ≤ SB) → (∀ k : Nat, k = 19 → 0 ≤ Int32.toInt (m_now' k) ∧ Int32.toInt (m_now' k) ≤ 9) → (∀ k : Nat, 0 ≤ Int32.toInt (m_x' k) ∧ Int32.toInt (m_x' k) ≤ 99) → (∀ k : Nat, 0 ≤ Int32.toInt (m_height' k) ∧ Int32.toInt (m_height' k) ≤ 99) → (∀ k : Nat, 0 ≤ Int32.toInt (m_worth' k) ∧ Int32.toInt (m_worth' k) ≤ 9) → (∀ k : Nat, 0 ≤ Int32.toInt (m_ripe' k) ∧ Int32.toInt (m_ripe' k) ≤ 9) → (∀ k : Nat, 0 ≤ Int32.toInt (m_foot' k) ∧ Int32.toInt (m_foot' k) ≤ 99) → (∀ k : Nat, 0 ≤ Int32.toInt (m_fork' k) ∧ Int32.toInt (m_fork' k) ≤ 99) → (∀ k : Nat, k % 4 = 0 → 0 ≤ Int32.toInt (m_newFruits' k) ∧ Int32.toInt (m_newFruits' k) ≤ 99) → (∀ k : Nat, k % 4 = 1 → 0 ≤ Int32.toInt (m_newFruits' k) ∧ Int32.toInt (m_newFruits' k) ≤ 99) → (∀ k : Nat, k % 4 = 2 → 0 ≤ Int32.toInt (m_newFruits' k) ∧ Int32.toInt (m_newFruits' k) ≤ 9) → (∀ k : Nat, k % 4 = 3 → 0 ≤ Int32.toInt (m_newFruits' k) ∧ Int32.toInt (m_newFruits' k) ≤ 9) → (∀ k : Nat, 0 ≤ Int32.toInt (m_newFruits' k) ∧ Int32.toInt (m_newFruits' k) ≤ 99) → (∀ k : Nat, 0 ≤ Int32.toInt (m_newStandings' k) ∧ Int32.toInt (m_newStandings' k) ≤ 99) → (Int32.toInt m_standings0 ≤ Int32.toInt m_standings') → post r m_fruits' m_standings' m_typed' m_thrown' m_read' m_length' m_top' m_at' m_wrong' m_newFruitMany' m_newStandingMany' m_undoMany' m_came' m_now' m_x' m_height' m_worth' m_ripe' m_foot' m_fork' m_newFruits' m_newStandings') : ∀ (n : Nat) (x2 : Int32) (m_fruits : Int32) (m_standings : Int32) (m_typed : Int32) (m_thrown : Int32) (m_read : Nat) (m_length : Int32) (m_top : Int32) (m_at : Int32) (m_wrong : Int32) (m_newFruitMany : Int32) (m_newStandingMany : Int32) (m_undoMany : Int32) (m_came : Int32) (m_now : Nat → Int32) (m_x : Nat → Int32) (m_height : Nat → Int32) (m_worth : Nat → Int32) (m_ripe : Nat → Int32) (m_foot : Nat → Int32) (m_fork : Nat → Int32) (m_newFruits : Nat → Int32) (m_newStandings : Nat → Int32), (0 ≤ Int32.toInt x2 ∧ Int32.toInt x2 ≤ 8) → (0 ≤ Int32.toInt m_fruits ∧ Int32.toInt m_fruits ≤ 16) → (0 ≤ Int32.toInt m_standings ∧ Int32.toInt m_standings ≤ 8) → (0 ≤ Int32.toInt m_typed ∧ Int32.toInt m_typed ≤ 0) → (0 ≤ Int32.toInt m_thrown ∧ Int32.toInt m_thrown ≤ 0) → (m_read = 1) → (1 ≤ Int32.toInt m_length ∧ Int32.toInt m_length ≤ 80) → (76 ≤ Int32.toInt m_top ∧ Int32.toInt m_top ≤ 76) → (0 ≤ Int32.toInt m_at ∧ Int32.toInt m_at ≤ 80) → (-1 ≤ Int32.toInt m_wrong ∧ Int32.toInt m_wrong ≤ -1) → (0 ≤ Int32.toInt m_newFruitMany ∧ Int32.toInt m_newFruitMany ≤ 16) → (0 ≤ Int32.toInt m_newStandingMany ∧ Int32.toInt m_newStandingMany ≤ 8) → (0 ≤ Int32.toInt m_undoMany ∧ Int32.toInt m_undoMany ≤ 12) → (∀ k : Nat, k = 17 → -1 ≤ Int32.toInt (m_now k) ∧ Int32.toInt (m_now k) ≤ SB) → (∀ k : Nat, k = 19 → 0 ≤ Int32.toInt (m_now k) ∧ Int32.toInt (m_now k) ≤ 9) → (∀ k : Nat, 0 ≤ Int32.toInt (m_x k) ∧ Int32.toInt (m_x k) ≤ 99) → (∀ k : Nat, 0 ≤ Int32.toInt (m_height k) ∧ Int32.toInt (m_height k) ≤ 99) → (∀ k : Nat, 0 ≤ Int32.toInt (m_worth k) ∧ Int32.toInt (m_worth k) ≤ 9) → (∀ k : Nat, 0 ≤ Int32.toInt (m_ripe k) ∧ Int32.toInt (m_ripe k) ≤ 9) → (∀ k : Nat, 0 ≤ Int32.toInt (m_foot k) ∧ Int32.toInt (m_foot k) ≤ 99) → (∀ k : Nat, 0 ≤ Int32.toInt (m_fork k) ∧ Int32.toInt (m_fork k) ≤ 99) → (∀ k : Nat, k % 4 = 0 → 0 ≤ Int32.toInt (m_newFruits k) ∧ Int32.toInt (m_newFruits k) ≤ 99) → (∀ k : Nat, k % 4 = 1 → 0 ≤ Int32.toInt (m_newFruits k) ∧ Int32.toInt (m_newFruits k) ≤ 99) → (∀ k : Nat, k % 4 = 2 → 0 ≤ Int32.toInt (m_newFruits k) ∧ Int32.toInt (m_newFruits k) ≤ 9) → (∀ k : Nat, k % 4 = 3 → 0 ≤ Int32.toInt (m_newFruits k) ∧ Int32.toInt (m_newFruits k) ≤ 9) → (∀ k : Nat, 0 ≤ Int32.toInt (m_newFruits k) ∧ Int32.toInt (m_newFruits k) ≤ 99) → (∀ k : Nat, 0 ≤ Int32.toInt (m_newStandings k) ∧ Int32.toInt (m_newStandings k) ≤ 99) → (Int32.toInt m_standings + Int32.toInt m_newStandingMany - Int32.toInt x2 ≤ 8) → (Int32.toInt m_standings0 ≤ Int32.toInt m_standings) → (8 - Int32.toInt x2 < (n : Int)) → wb_X10_orchard_215 post m_text m_rule n x2 m_fruits m_standings m_typed m_thrown m_read m_length m_top m_at m_wrong m_newFruitMany m_newStandingMany m_undoMany m_came m_now m_x m_height m_worth m_ripe m_foot m_fork m_newFruits m_newStandings := by
  intro n
  induction n with
  | zero =>
    intro x2 m_fruits m_standings m_typed m_thrown m_read m_length m_top m_at m_wrong m_newFruitMany m_newStandingMany m_undoMany m_came m_now m_x m_height m_worth m_ripe m_foot m_fork m_newFruits m_newStandings h_x2 h_m_fruits h_m_standings h_m_typed h_m_thrown h_m_read h_m_length h_m_top h_m_at h_m_wrong h_m_newFruitMany h_m_newStandingMany h_m_undoMany e0_m_now e1_m_now h_m_x h_m_height h_m_worth h_m_ripe h_m_foot h_m_fork e0_m_newFruits e1_m_newFruits e2_m_newFruits e3_m_newFruits h_m_newFruits h_m_newStandings hx0 hx1 hm
    exfalso; omega
  | succ n ih =>
    intro x2 m_fruits m_standings m_typed m_thrown m_read m_length m_top m_at m_wrong m_newFruitMany m_newStandingMany m_undoMany m_came m_now m_x m_height m_worth m_ripe m_foot m_fork m_newFruits m_newStandings h_x2 h_m_fruits h_m_standings h_m_typed h_m_thrown h_m_read h_m_length h_m_top h_m_at h_m_wrong h_m_newFruitMany h_m_newStandingMany h_m_undoMany e0_m_now e1_m_now h_m_x h_m_height h_m_worth h_m_ripe h_m_foot h_m_fork e0_m_newFruits e1_m_newFruits e2_m_newFruits e3_m_newFruits h_m_newFruits h_m_newStandings hx0 hx1 hm
    exact ts_X10_orchard_215 m_text m_rule h_m_text h_m_rule hc0 hpost ih x2 m_fruits m_standings m_typed m_thrown m_read m_length m_top m_at m_wrong m_newFruitMany m_newStandingMany m_undoMany m_came m_now m_x m_height m_worth m_ripe m_foot m_fork m_newFruits m_newStandings h_x2 h_m_fruits h_m_standings h_m_typed h_m_thrown h_m_read h_m_length h_m_top h_m_at h_m_wrong h_m_newFruitMany h_m_newStandingMany h_m_undoMany e0_m_now e1_m_now h_m_x h_m_height h_m_worth h_m_ripe h_m_foot h_m_fork e0_m_newFruits e1_m_newFruits e2_m_newFruits e3_m_newFruits h_m_newFruits h_m_newStandings hx0 hx1 (by omega)
set_option maxHeartbeats 8000000 in
set_option maxRecDepth 200000 in
theorem ts_X10_orchard_105 {post : Int32 → Int32 → Int32 → Int32 → Int32 → Nat → Int32 → Int32 → Int32 → Int32 → Int32 → Int32 → Int32 → Int32 → (Nat → Int32) → (Nat → Int32) → (Nat → Int32) → (Nat → Int32) → (Nat → Int32) → (Nat → Int32) → (Nat → Int32) → (Nat → Int32) → (Nat → Int32) → Prop} {SB : Int} {m_standings0 : Int32} {next : Int32 → Int32 → Int32 → Int32 → Int32 → Nat → Int32 → Int32 → Int32 → Int32 → Int32 → Int32 → Int32 → Int32 → (Nat → Int32) → (Nat → Int32) → (Nat → Int32) → (Nat → Int32) → (Nat → Int32) → (Nat → Int32) → (Nat → Int32) → (Nat → Int32) → (Nat → Int32) → Prop} {n105 : Int} (m_text : Nat → Int32) (m_rule : Nat → Int32) (h_m_text : ∀ k : Nat, -128 ≤ Int32.toInt (m_text k) ∧ Int32.toInt (m_text k) ≤ 127) (h_m_rule : ∀ k : Nat, -128 ≤ Int32.toInt (m_rule k) ∧ Int32.toInt (m_rule k) ≤ 127) (hc0 : -1 ≤ SB ∧ SB ≤ 7) (hpost : ∀ (r : Int32) (m_fruits' : Int32) (m_standings' : Int32) (m_typed' : Int32) (m_thrown' : Int32) (m_read' : Nat) (m_length' : Int32) (m_top' : Int32) (m_at' : Int32) (m_wrong' : Int32) (m_newFruitMany' : Int32) (m_newStandingMany' : Int32) (m_undoMany' : Int32) (m_came' : Int32) (m_now' : Nat → Int32) (m_x' : Nat → Int32) (m_height' : Nat → Int32) (m_worth' : Nat → Int32) (m_ripe' : Nat → Int32) (m_foot' : Nat → Int32) (m_fork' : Nat → Int32) (m_newFruits' : Nat → Int32) (m_newStandings' : Nat → Int32), (-100 ≤ Int32.toInt r ∧ Int32.toInt r ≤ 24) → (0 ≤ Int32.toInt m_fruits' ∧ Int32.toInt m_fruits' ≤ 16) → (0 ≤ Int32.toInt m_standings' ∧ Int32.toInt m_standings' ≤ 8) → (0 ≤ Int32.toInt m_typed' ∧ Int32.toInt m_typed' ≤ 0) → (0 ≤ Int32.toInt m_thrown' ∧ Int32.toInt m_thrown' ≤ 0) → (m_read' = 1) → (0 ≤ Int32.toInt m_length' ∧ Int32.toInt m_length' ≤ 80) → (76 ≤ Int32.toInt m_top' ∧ Int32.toInt m_top' ≤ 76) → (0 ≤ Int32.toInt m_at' ∧ Int32.toInt m_at' ≤ 80) → (-1 ≤ Int32.toInt m_wrong' ∧ Int32.toInt m_wrong' ≤ 80) → (0 ≤ Int32.toInt m_newFruitMany' ∧ Int32.toInt m_newFruitMany' ≤ 16) → (0 ≤ Int32.toInt m_newStandingMany' ∧ Int32.toInt m_newStandingMany' ≤ 8) → (0 ≤ Int32.toInt m_undoMany' ∧ Int32.toInt m_undoMany' ≤ 12) → (∀ k : Nat, k = 17 → -1 ≤ Int32.toInt (m_now' k) ∧ Int32.toInt (m_now' k) ≤ SB) → (∀ k : Nat, k = 19 → 0 ≤ Int32.toInt (m_now' k) ∧ Int32.toInt (m_now' k) ≤ 9) → (∀ k : Nat, 0 ≤ Int32.toInt (m_x' k) ∧ Int32.toInt (m_x' k) ≤ 99) → (∀ k : Nat, 0 ≤ Int32.toInt (m_height' k) ∧ Int32.toInt (m_height' k) ≤ 99) → (∀ k : Nat, 0 ≤ Int32.toInt (m_worth' k) ∧ Int32.toInt (m_worth' k) ≤ 9) → (∀ k : Nat, 0 ≤ Int32.toInt (m_ripe' k) ∧ Int32.toInt (m_ripe' k) ≤ 9) → (∀ k : Nat, 0 ≤ Int32.toInt (m_foot' k) ∧ Int32.toInt (m_foot' k) ≤ 99) → (∀ k : Nat, 0 ≤ Int32.toInt (m_fork' k) ∧ Int32.toInt (m_fork' k) ≤ 99) → (∀ k : Nat, k % 4 = 0 → 0 ≤ Int32.toInt (m_newFruits' k) ∧ Int32.toInt (m_newFruits' k) ≤ 99) → (∀ k : Nat, k % 4 = 1 → 0 ≤ Int32.toInt (m_newFruits' k) ∧ Int32.toInt (m_newFruits' k) ≤ 99) → (∀ k : Nat, k % 4 = 2 → 0 ≤ Int32.toInt (m_newFruits' k) ∧ Int32.toInt (m_newFruits' k) ≤ 9) → (∀ k : Nat, k % 4 = 3 → 0 ≤ Int32.toInt (m_newFruits' k) ∧ Int32.toInt (m_newFruits' k) ≤ 9) → (∀ k : Nat, 0 ≤ Int32.toInt (m_newFruits' k) ∧ Int32.toInt (m_newFruits' k) ≤ 99) → (∀ k : Nat, 0 ≤ Int32.toInt (m_newStandings' k) ∧ Int32.toInt (m_newStandings' k) ≤ 99) → (Int32.toInt m_standings0 ≤ Int32.toInt m_standings') → post r m_fruits' m_standings' m_typed' m_thrown' m_read' m_length' m_top' m_at' m_wrong' m_newFruitMany' m_newStandingMany' m_undoMany' m_came' m_now' m_x' m_height' m_worth' m_ripe' m_foot' m_fork' m_newFruits' m_newStandings') (hKn : ∀ (x2 : Int32) (m_fruits : Int32) (m_standings : Int32) (m_typed : Int32) (m_thrown : Int32) (m_read : Nat) (m_length : Int32) (m_top : Int32) (m_at : Int32) (m_wrong : Int32) (m_newFruitMany : Int32) (m_newStandingMany : Int32) (m_undoMany : Int32) (m_came : Int32) (m_now : Nat → Int32) (m_x : Nat → Int32) (m_height : Nat → Int32) (m_worth : Nat → Int32) (m_ripe : Nat → Int32) (m_foot : Nat → Int32) (m_fork : Nat → Int32) (m_newFruits : Nat → Int32) (m_newStandings : Nat → Int32), (0 ≤ Int32.toInt x2 ∧ Int32.toInt x2 ≤ 16) → (0 ≤ Int32.toInt m_fruits ∧ Int32.toInt m_fruits ≤ 16) → (0 ≤ Int32.toInt m_standings ∧ Int32.toInt m_standings ≤ 8) → (0 ≤ Int32.toInt m_typed ∧ Int32.toInt m_typed ≤ 0) → (0 ≤ Int32.toInt m_thrown ∧ Int32.toInt m_thrown ≤ 0) → (m_read = 1) → (1 ≤ Int32.toInt m_length ∧ Int32.toInt m_length ≤ 80) → (76 ≤ Int32.toInt m_top ∧ Int32.toInt m_top ≤ 76) → (0 ≤ Int32.toInt m_at ∧ Int32.toInt m_at ≤ 80) → (-1 ≤ Int32.toInt m_wrong ∧ Int32.toInt m_wrong ≤ -1) → (0 ≤ Int32.toInt m_newFruitMany ∧ Int32.toInt m_newFruitMany ≤ 16) → (0 ≤ Int32.toInt m_newStandingMany ∧ Int32.toInt m_newStandingMany ≤ 8) → (0 ≤ Int32.toInt m_undoMany ∧ Int32.toInt m_undoMany ≤ 12) → (∀ k : Nat, k = 17 → -1 ≤ Int32.toInt (m_now k) ∧ Int32.toInt (m_now k) ≤ SB) → (∀ k : Nat, k = 19 → 0 ≤ Int32.toInt (m_now k) ∧ Int32.toInt (m_now k) ≤ 9) → (∀ k : Nat, 0 ≤ Int32.toInt (m_x k) ∧ Int32.toInt (m_x k) ≤ 99) → (∀ k : Nat, 0 ≤ Int32.toInt (m_height k) ∧ Int32.toInt (m_height k) ≤ 99) → (∀ k : Nat, 0 ≤ Int32.toInt (m_worth k) ∧ Int32.toInt (m_worth k) ≤ 9) → (∀ k : Nat, 0 ≤ Int32.toInt (m_ripe k) ∧ Int32.toInt (m_ripe k) ≤ 9) → (∀ k : Nat, 0 ≤ Int32.toInt (m_foot k) ∧ Int32.toInt (m_foot k) ≤ 99) → (∀ k : Nat, 0 ≤ Int32.toInt (m_fork k) ∧ Int32.toInt (m_fork k) ≤ 99) → (∀ k : Nat, k % 4 = 0 → 0 ≤ Int32.toInt (m_newFruits k) ∧ Int32.toInt (m_newFruits k) ≤ 99) → (∀ k : Nat, k % 4 = 1 → 0 ≤ Int32.toInt (m_newFruits k) ∧ Int32.toInt (m_newFruits k) ≤ 99) → (∀ k : Nat, k % 4 = 2 → 0 ≤ Int32.toInt (m_newFruits k) ∧ Int32.toInt (m_newFruits k) ≤ 9) → (∀ k : Nat, k % 4 = 3 → 0 ≤ Int32.toInt (m_newFruits k) ∧ Int32.toInt (m_newFruits k) ≤ 9) → (∀ k : Nat, 0 ≤ Int32.toInt (m_newFruits k) ∧ Int32.toInt (m_newFruits k) ≤ 99) → (∀ k : Nat, 0 ≤ Int32.toInt (m_newStandings k) ∧ Int32.toInt (m_newStandings k) ≤ 99) → (Int32.toInt m_fruits + Int32.toInt m_newFruitMany - Int32.toInt x2 ≤ 16) → (Int32.toInt m_standings + Int32.toInt m_newStandingMany ≤ 8) → (Int32.toInt m_standings0 ≤ Int32.toInt m_standings) → (16 - Int32.toInt x2 < n105) → next x2 m_fruits m_standings m_typed m_thrown m_read m_length m_top m_at m_wrong m_newFruitMany m_newStandingMany m_undoMany m_came m_now m_x m_height m_worth m_ripe m_foot m_fork m_newFruits m_newStandings) (x2 : Int32) (m_fruits : Int32) (m_standings : Int32) (m_typed : Int32) (m_thrown : Int32) (m_read : Nat) (m_length : Int32) (m_top : Int32) (m_at : Int32) (m_wrong : Int32) (m_newFruitMany : Int32) (m_newStandingMany : Int32) (m_undoMany : Int32) (m_came : Int32) (m_now : Nat → Int32) (m_x : Nat → Int32) (m_height : Nat → Int32) (m_worth : Nat → Int32) (m_ripe : Nat → Int32) (m_foot : Nat → Int32) (m_fork : Nat → Int32) (m_newFruits : Nat → Int32) (m_newStandings : Nat → Int32) (h_x2 : 0 ≤ Int32.toInt x2 ∧ Int32.toInt x2 ≤ 16) (h_m_fruits : 0 ≤ Int32.toInt m_fruits ∧ Int32.toInt m_fruits ≤ 16) (h_m_standings : 0 ≤ Int32.toInt m_standings ∧ Int32.toInt m_standings ≤ 8) (h_m_typed : 0 ≤ Int32.toInt m_typed ∧ Int32.toInt m_typed ≤ 0) (h_m_thrown : 0 ≤ Int32.toInt m_thrown ∧ Int32.toInt m_thrown ≤ 0) (h_m_read : m_read = 1) (h_m_length : 1 ≤ Int32.toInt m_length ∧ Int32.toInt m_length ≤ 80) (h_m_top : 76 ≤ Int32.toInt m_top ∧ Int32.toInt m_top ≤ 76) (h_m_at : 0 ≤ Int32.toInt m_at ∧ Int32.toInt m_at ≤ 80) (h_m_wrong : -1 ≤ Int32.toInt m_wrong ∧ Int32.toInt m_wrong ≤ -1) (h_m_newFruitMany : 0 ≤ Int32.toInt m_newFruitMany ∧ Int32.toInt m_newFruitMany ≤ 16) (h_m_newStandingMany : 0 ≤ Int32.toInt m_newStandingMany ∧ Int32.toInt m_newStandingMany ≤ 8) (h_m_undoMany : 0 ≤ Int32.toInt m_undoMany ∧ Int32.toInt m_undoMany ≤ 12) (e0_m_now : ∀ k : Nat, k = 17 → -1 ≤ Int32.toInt (m_now k) ∧ Int32.toInt (m_now k) ≤ SB) (e1_m_now : ∀ k : Nat, k = 19 → 0 ≤ Int32.toInt (m_now k) ∧ Int32.toInt (m_now k) ≤ 9) (h_m_x : ∀ k : Nat, 0 ≤ Int32.toInt (m_x k) ∧ Int32.toInt (m_x k) ≤ 99) (h_m_height : ∀ k : Nat, 0 ≤ Int32.toInt (m_height k) ∧ Int32.toInt (m_height k) ≤ 99) (h_m_worth : ∀ k : Nat, 0 ≤ Int32.toInt (m_worth k) ∧ Int32.toInt (m_worth k) ≤ 9) (h_m_ripe : ∀ k : Nat, 0 ≤ Int32.toInt (m_ripe k) ∧ Int32.toInt (m_ripe k) ≤ 9) (h_m_foot : ∀ k : Nat, 0 ≤ Int32.toInt (m_foot k) ∧ Int32.toInt (m_foot k) ≤ 99) (h_m_fork : ∀ k : Nat, 0 ≤ Int32.toInt (m_fork k) ∧ Int32.toInt (m_fork k) ≤ 99) (e0_m_newFruits : ∀ k : Nat, k % 4 = 0 → 0 ≤ Int32.toInt (m_newFruits k) ∧ Int32.toInt (m_newFruits k) ≤ 99) (e1_m_newFruits : ∀ k : Nat, k % 4 = 1 → 0 ≤ Int32.toInt (m_newFruits k) ∧ Int32.toInt (m_newFruits k) ≤ 99) (e2_m_newFruits : ∀ k : Nat, k % 4 = 2 → 0 ≤ Int32.toInt (m_newFruits k) ∧ Int32.toInt (m_newFruits k) ≤ 9) (e3_m_newFruits : ∀ k : Nat, k % 4 = 3 → 0 ≤ Int32.toInt (m_newFruits k) ∧ Int32.toInt (m_newFruits k) ≤ 9) (h_m_newFruits : ∀ k : Nat, 0 ≤ Int32.toInt (m_newFruits k) ∧ Int32.toInt (m_newFruits k) ≤ 99) (h_m_newStandings : ∀ k : Nat, 0 ≤ Int32.toInt (m_newStandings k) ∧ Int32.toInt (m_newStandings k) ≤ 99) (hx0 : Int32.toInt m_fruits + Int32.toInt m_newFruitMany - Int32.toInt x2 ≤ 16) (hx1 : Int32.toInt m_standings + Int32.toInt m_newStandingMany ≤ 8) (hx2 : Int32.toInt m_standings0 ≤ Int32.toInt m_standings) (hn105 : 16 - Int32.toInt x2 ≤ n105) : ws_X10_orchard_105 post next m_text m_rule x2 m_fruits m_standings m_typed m_thrown m_read m_length m_top m_at m_wrong m_newFruitMany m_newStandingMany m_undoMany m_came m_now m_x m_height m_worth m_ripe m_foot m_fork m_newFruits m_newStandings := by
  have l0 : Int32.toInt (0 : Int32) = 0 := (by decide)
  have l1 : Int32.toInt (1 : Int32) = 1 := (by decide)
  have l2 : Int32.toInt (2 : Int32) = 2 := (by decide)
  have l3 : Int32.toInt (3 : Int32) = 3 := (by decide)
  have l4 : Int32.toInt (4 : Int32) = 4 := (by decide)
  refine And.intro (fun c21 => ?_) (fun c21 => ?_)
  · skip
    have c21 := (fa_le _ _).mp c21
    have f22 := tp_r m_came
    exact ⟨10, tb_X10_orchard_215 m_text m_rule h_m_text h_m_rule hc0 hpost _ 0 m_fruits m_standings m_typed m_thrown m_read m_length m_top m_at m_wrong m_newFruitMany m_newStandingMany m_undoMany m_came m_now m_x m_height m_worth m_ripe m_foot m_fork m_newFruits m_newStandings (by omega) (by omega) (by omega) (by omega) (by omega) (by first | exact h_m_read | exact Or.inl rfl | exact Or.inr rfl | omega) (by omega) (by omega) (by omega) (by omega) (by omega) (by omega) (by omega) e0_m_now e1_m_now (fun k => by have q9 := h_m_x k; omega) (fun k => by have q9 := h_m_height k; omega) (fun k => by have q9 := h_m_worth k; omega) (fun k => by have q9 := h_m_ripe k; omega) (fun k => by have q9 := h_m_foot k; omega) (fun k => by have q9 := h_m_fork k; omega) e0_m_newFruits e1_m_newFruits e2_m_newFruits e3_m_newFruits (fun k => by have q9 := h_m_newFruits k; omega) (fun k => by have q9 := h_m_newStandings k; omega) (by omega) (by omega) (by omega)⟩
  · skip
    have c21 := mt (fa_le _ _).mpr c21
    intro v23 ev23
    have f24 : Int32.toInt (4 * x2) = Int32.toInt x2 * 4 := ta_cmul _ _ (by decide) (by omega)
    rw [← ev23] at f24
    refine And.intro (t_in (by omega)) ?_
    have q25 := e0_m_newFruits v23.toNatClampNeg (by have e9 : v23.toNatClampNeg = (Int32.toInt v23).toNat := rfl; omega)
    intro v26 ev26
    have hv26 := congrArg Int32.toInt ev26
    refine And.intro (t_in (by omega)) ?_
    have a28 : ∀ k : Nat, 0 ≤ Int32.toInt ((upd m_x m_fruits.toNatClampNeg v26) k) ∧ Int32.toInt ((upd m_x m_fruits.toNatClampNeg v26) k) ≤ 99 := t_upd (fun k => by have q9 := h_m_x k; omega) (by omega)
    intro v29 ev29
    have hv29 := congrArg Int32.toInt (ev29.trans ev23.symm)
    intro v30 ev30
    have f31 : Int32.toInt (v29 + 1) = Int32.toInt v29 + Int32.toInt (1 : Int32) := ta_add _ _ (by omega)
    rw [← ev30] at f31
    refine And.intro (t_in (by omega)) ?_
    have q32 := e1_m_newFruits v30.toNatClampNeg (by have e9 : v30.toNatClampNeg = (Int32.toInt v30).toNat := rfl; omega)
    intro v33 ev33
    have hv33 := congrArg Int32.toInt ev33
    refine And.intro (t_in (by omega)) ?_
    have a35 : ∀ k : Nat, 0 ≤ Int32.toInt ((upd m_height m_fruits.toNatClampNeg v33) k) ∧ Int32.toInt ((upd m_height m_fruits.toNatClampNeg v33) k) ≤ 99 := t_upd (fun k => by have q9 := h_m_height k; omega) (by omega)
    intro v36 ev36
    have hv36 := congrArg Int32.toInt (ev36.trans ev23.symm)
    intro v37 ev37
    have f38 : Int32.toInt (v36 + 2) = Int32.toInt v36 + Int32.toInt (2 : Int32) := ta_add _ _ (by omega)
    rw [← ev37] at f38
    refine And.intro (t_in (by omega)) ?_
    have q39 := e2_m_newFruits v37.toNatClampNeg (by have e9 : v37.toNatClampNeg = (Int32.toInt v37).toNat := rfl; omega)
    intro v40 ev40
    have hv40 := congrArg Int32.toInt ev40
    refine And.intro (t_in (by omega)) ?_
    have a42 : ∀ k : Nat, 0 ≤ Int32.toInt ((upd m_worth m_fruits.toNatClampNeg v40) k) ∧ Int32.toInt ((upd m_worth m_fruits.toNatClampNeg v40) k) ≤ 9 := t_upd (fun k => by have q9 := h_m_worth k; omega) (by omega)
    intro v43 ev43
    have hv43 := congrArg Int32.toInt (ev43.trans ev23.symm)
    intro v44 ev44
    have f45 : Int32.toInt (v43 + 3) = Int32.toInt v43 + Int32.toInt (3 : Int32) := ta_add _ _ (by omega)
    rw [← ev44] at f45
    refine And.intro (t_in (by omega)) ?_
    have q46 := e3_m_newFruits v44.toNatClampNeg (by have e9 : v44.toNatClampNeg = (Int32.toInt v44).toNat := rfl; omega)
    intro v47 ev47
    have hv47 := congrArg Int32.toInt ev47
    refine And.intro (t_in (by omega)) ?_
    have a49 : ∀ k : Nat, 0 ≤ Int32.toInt ((upd m_ripe m_fruits.toNatClampNeg v47) k) ∧ Int32.toInt ((upd m_ripe m_fruits.toNatClampNeg v47) k) ≤ 9 := t_upd (fun k => by have q9 := h_m_ripe k; omega) (by omega)
    refine And.intro (t_in (by omega)) ?_
    have e50 : ∀ k : Nat, k = 17 → -1 ≤ Int32.toInt ((upd m_now m_fruits.toNatClampNeg 0) k) ∧ Int32.toInt ((upd m_now m_fruits.toNatClampNeg 0) k) ≤ SB := t_updc (C := fun k => k = 17) e0_m_now (fun hk => by have e9 : m_fruits.toNatClampNeg = (Int32.toInt m_fruits).toNat := rfl; have hk : m_fruits.toNatClampNeg = 17 := hk; omega)
    have e51 : ∀ k : Nat, k = 19 → 0 ≤ Int32.toInt ((upd m_now m_fruits.toNatClampNeg 0) k) ∧ Int32.toInt ((upd m_now m_fruits.toNatClampNeg 0) k) ≤ 9 := t_updc (C := fun k => k = 19) e1_m_now (fun hk => by have e9 : m_fruits.toNatClampNeg = (Int32.toInt m_fruits).toNat := rfl; have hk : m_fruits.toNatClampNeg = 19 := hk; omega)
    intro v52 ev52
    have f53 : Int32.toInt (m_fruits + 1) = Int32.toInt m_fruits + Int32.toInt (1 : Int32) := ta_add _ _ (by omega)
    rw [← ev52] at f53
    intro v54 ev54
    have f55 : Int32.toInt (x2 + 1) = Int32.toInt x2 + Int32.toInt (1 : Int32) := ta_add _ _ (by omega)
    rw [← ev54] at f55
    have f56 := tp_r m_came
    exact hKn v54 v52 m_standings m_typed m_thrown m_read m_length m_top m_at m_wrong m_newFruitMany m_newStandingMany m_undoMany m_came (upd m_now m_fruits.toNatClampNeg 0) (upd m_x m_fruits.toNatClampNeg v26) (upd m_height m_fruits.toNatClampNeg v33) (upd m_worth m_fruits.toNatClampNeg v40) (upd m_ripe m_fruits.toNatClampNeg v47) m_foot m_fork m_newFruits m_newStandings (by omega) (by omega) (by omega) (by omega) (by omega) (by first | exact h_m_read | exact Or.inl rfl | exact Or.inr rfl | omega) (by omega) (by omega) (by omega) (by omega) (by omega) (by omega) (by omega) e50 e51 (fun k => by have q9 := a28 k; omega) (fun k => by have q9 := a35 k; omega) (fun k => by have q9 := a42 k; omega) (fun k => by have q9 := a49 k; omega) (fun k => by have q9 := h_m_foot k; omega) (fun k => by have q9 := h_m_fork k; omega) e0_m_newFruits e1_m_newFruits e2_m_newFruits e3_m_newFruits (fun k => by have q9 := h_m_newFruits k; omega) (fun k => by have q9 := h_m_newStandings k; omega) (by omega) (by omega) (by omega) (by omega)
set_option maxHeartbeats 8000000 in
set_option maxRecDepth 200000 in
theorem tb_X10_orchard_105 {post : Int32 → Int32 → Int32 → Int32 → Int32 → Nat → Int32 → Int32 → Int32 → Int32 → Int32 → Int32 → Int32 → Int32 → (Nat → Int32) → (Nat → Int32) → (Nat → Int32) → (Nat → Int32) → (Nat → Int32) → (Nat → Int32) → (Nat → Int32) → (Nat → Int32) → (Nat → Int32) → Prop} {SB : Int} {m_standings0 : Int32} (m_text : Nat → Int32) (m_rule : Nat → Int32) (h_m_text : ∀ k : Nat, -128 ≤ Int32.toInt (m_text k) ∧ Int32.toInt (m_text k) ≤ 127) (h_m_rule : ∀ k : Nat, -128 ≤ Int32.toInt (m_rule k) ∧ Int32.toInt (m_rule k) ≤ 127) (hc0 : -1 ≤ SB ∧ SB ≤ 7) (hpost : ∀ (r : Int32) (m_fruits' : Int32) (m_standings' : Int32) (m_typed' : Int32) (m_thrown' : Int32) (m_read' : Nat) (m_length' : Int32) (m_top' : Int32) (m_at' : Int32) (m_wrong' : Int32) (m_newFruitMany' : Int32) (m_newStandingMany' : Int32) (m_undoMany' : Int32) (m_came' : Int32) (m_now' : Nat → Int32) (m_x' : Nat → Int32) (m_height' : Nat → Int32) (m_worth' : Nat → Int32) (m_ripe' : Nat → Int32) (m_foot' : Nat → Int32) (m_fork' : Nat → Int32) (m_newFruits' : Nat → Int32) (m_newStandings' : Nat → Int32), (-100 ≤ Int32.toInt r ∧ Int32.toInt r ≤ 24) → (0 ≤ Int32.toInt m_fruits' ∧ Int32.toInt m_fruits' ≤ 16) → (0 ≤ Int32.toInt m_standings' ∧ Int32.toInt m_standings' ≤ 8) → (0 ≤ Int32.toInt m_typed' ∧ Int32.toInt m_typed' ≤ 0) → (0 ≤ Int32.toInt m_thrown' ∧ Int32.toInt m_thrown' ≤ 0) → (m_read' = 1) → (0 ≤ Int32.toInt m_length' ∧ Int32.toInt m_length' ≤ 80) → (76 ≤ Int32.toInt m_top' ∧ Int32.toInt m_top' ≤ 76) → (0 ≤ Int32.toInt m_at' ∧ Int32.toInt m_at' ≤ 80) → (-1 ≤ Int32.toInt m_wrong' ∧ Int32.toInt m_wrong' ≤ 80) → (0 ≤ Int32.toInt m_newFruitMany' ∧ Int32.toInt m_newFruitMany' ≤ 16) → (0 ≤ Int32.toInt m_newStandingMany' ∧ Int32.toInt m_newStandingMany' ≤ 8) → (0 ≤ Int32.toInt m_undoMany' ∧ Int32.toInt m_undoMany' ≤ 12) → (∀ k : Nat, k = 17 → -1 ≤ Int32.toInt (m_now' k) ∧ Int32.toInt (m_now' k) ≤ SB) → (∀ k : Nat, k = 19 → 0 ≤ Int32.toInt (m_now' k) ∧ Int32.toInt (m_now' k) ≤ 9) → (∀ k : Nat, 0 ≤ Int32.toInt (m_x' k) ∧ Int32.toInt (m_x' k) ≤ 99) → (∀ k : Nat, 0 ≤ Int32.toInt (m_height' k) ∧ Int32.toInt (m_height' k) ≤ 99) → (∀ k : Nat, 0 ≤ Int32.toInt (m_worth' k) ∧ Int32.toInt (m_worth' k) ≤ 9) → (∀ k : Nat, 0 ≤ Int32.toInt (m_ripe' k) ∧ Int32.toInt (m_ripe' k) ≤ 9) → (∀ k : Nat, 0 ≤ Int32.toInt (m_foot' k) ∧ Int32.toInt (m_foot' k) ≤ 99) → (∀ k : Nat, 0 ≤ Int32.toInt (m_fork' k) ∧ Int32.toInt (m_fork' k) ≤ 99) → (∀ k : Nat, k % 4 = 0 → 0 ≤ Int32.toInt (m_newFruits' k) ∧ Int32.toInt (m_newFruits' k) ≤ 99) → (∀ k : Nat, k % 4 = 1 → 0 ≤ Int32.toInt (m_newFruits' k) ∧ Int32.toInt (m_newFruits' k) ≤ 99) → (∀ k : Nat, k % 4 = 2 → 0 ≤ Int32.toInt (m_newFruits' k) ∧ Int32.toInt (m_newFruits' k) ≤ 9) → (∀ k : Nat, k % 4 = 3 → 0 ≤ Int32.toInt (m_newFruits' k) ∧ Int32.toInt (m_newFruits' k) ≤ 9) → (∀ k : Nat, 0 ≤ Int32.toInt (m_newFruits' k) ∧ Int32.toInt (m_newFruits' k) ≤ 99) → (∀ k : Nat, 0 ≤ Int32.toInt (m_newStandings' k) ∧ Int32.toInt (m_newStandings' k) ≤ 99) → (Int32.toInt m_standings0 ≤ Int32.toInt m_standings') → post r m_fruits' m_standings' m_typed' m_thrown' m_read' m_length' m_top' m_at' m_wrong' m_newFruitMany' m_newStandingMany' m_undoMany' m_came' m_now' m_x' m_height' m_worth' m_ripe' m_foot' m_fork' m_newFruits' m_newStandings') : ∀ (n : Nat) (x2 : Int32) (m_fruits : Int32) (m_standings : Int32) (m_typed : Int32) (m_thrown : Int32) (m_read : Nat) (m_length : Int32) (m_top : Int32) (m_at : Int32) (m_wrong : Int32) (m_newFruitMany : Int32) (m_newStandingMany : Int32) (m_undoMany : Int32) (m_came : Int32) (m_now : Nat → Int32) (m_x : Nat → Int32) (m_height : Nat → Int32) (m_worth : Nat → Int32) (m_ripe : Nat → Int32) (m_foot : Nat → Int32) (m_fork : Nat → Int32) (m_newFruits : Nat → Int32) (m_newStandings : Nat → Int32), (0 ≤ Int32.toInt x2 ∧ Int32.toInt x2 ≤ 16) → (0 ≤ Int32.toInt m_fruits ∧ Int32.toInt m_fruits ≤ 16) → (0 ≤ Int32.toInt m_standings ∧ Int32.toInt m_standings ≤ 8) → (0 ≤ Int32.toInt m_typed ∧ Int32.toInt m_typed ≤ 0) → (0 ≤ Int32.toInt m_thrown ∧ Int32.toInt m_thrown ≤ 0) → (m_read = 1) → (1 ≤ Int32.toInt m_length ∧ Int32.toInt m_length ≤ 80) → (76 ≤ Int32.toInt m_top ∧ Int32.toInt m_top ≤ 76) → (0 ≤ Int32.toInt m_at ∧ Int32.toInt m_at ≤ 80) → (-1 ≤ Int32.toInt m_wrong ∧ Int32.toInt m_wrong ≤ -1) → (0 ≤ Int32.toInt m_newFruitMany ∧ Int32.toInt m_newFruitMany ≤ 16) → (0 ≤ Int32.toInt m_newStandingMany ∧ Int32.toInt m_newStandingMany ≤ 8) → (0 ≤ Int32.toInt m_undoMany ∧ Int32.toInt m_undoMany ≤ 12) → (∀ k : Nat, k = 17 → -1 ≤ Int32.toInt (m_now k) ∧ Int32.toInt (m_now k) ≤ SB) → (∀ k : Nat, k = 19 → 0 ≤ Int32.toInt (m_now k) ∧ Int32.toInt (m_now k) ≤ 9) → (∀ k : Nat, 0 ≤ Int32.toInt (m_x k) ∧ Int32.toInt (m_x k) ≤ 99) → (∀ k : Nat, 0 ≤ Int32.toInt (m_height k) ∧ Int32.toInt (m_height k) ≤ 99) → (∀ k : Nat, 0 ≤ Int32.toInt (m_worth k) ∧ Int32.toInt (m_worth k) ≤ 9) → (∀ k : Nat, 0 ≤ Int32.toInt (m_ripe k) ∧ Int32.toInt (m_ripe k) ≤ 9) → (∀ k : Nat, 0 ≤ Int32.toInt (m_foot k) ∧ Int32.toInt (m_foot k) ≤ 99) → (∀ k : Nat, 0 ≤ Int32.toInt (m_fork k) ∧ Int32.toInt (m_fork k) ≤ 99) → (∀ k : Nat, k % 4 = 0 → 0 ≤ Int32.toInt (m_newFruits k) ∧ Int32.toInt (m_newFruits k) ≤ 99) → (∀ k : Nat, k % 4 = 1 → 0 ≤ Int32.toInt (m_newFruits k) ∧ Int32.toInt (m_newFruits k) ≤ 99) → (∀ k : Nat, k % 4 = 2 → 0 ≤ Int32.toInt (m_newFruits k) ∧ Int32.toInt (m_newFruits k) ≤ 9) → (∀ k : Nat, k % 4 = 3 → 0 ≤ Int32.toInt (m_newFruits k) ∧ Int32.toInt (m_newFruits k) ≤ 9) → (∀ k : Nat, 0 ≤ Int32.toInt (m_newFruits k) ∧ Int32.toInt (m_newFruits k) ≤ 99) → (∀ k : Nat, 0 ≤ Int32.toInt (m_newStandings k) ∧ Int32.toInt (m_newStandings k) ≤ 99) → (Int32.toInt m_fruits + Int32.toInt m_newFruitMany - Int32.toInt x2 ≤ 16) → (Int32.toInt m_standings + Int32.toInt m_newStandingMany ≤ 8) → (Int32.toInt m_standings0 ≤ Int32.toInt m_standings) → (16 - Int32.toInt x2 < (n : Int)) → wb_X10_orchard_105 post m_text m_rule n x2 m_fruits m_standings m_typed m_thrown m_read m_length m_top m_at m_wrong m_newFruitMany m_newStandingMany m_undoMany m_came m_now m_x m_height m_worth m_ripe m_foot m_fork m_newFruits m_newStandings := by
  intro n
  induction n with
  | zero =>
    intro x2 m_fruits m_standings m_typed m_thrown m_read m_length m_top m_at m_wrong m_newFruitMany m_newStandingMany m_undoMany m_came m_now m_x m_height m_worth m_ripe m_foot m_fork m_newFruits m_newStandings h_x2 h_m_fruits h_m_standings h_m_typed h_m_thrown h_m_read h_m_length h_m_top h_m_at h_m_wrong h_m_newFruitMany h_m_newStandingMany h_m_undoMany e0_m_now e1_m_now h_m_x h_m_height h_m_worth h_m_ripe h_m_foot h_m_fork e0_m_newFruits e1_m_newFruits e2_m_newFruits e3_m_newFruits h_m_newFruits h_m_newStandings hx0 hx1 hx2 hm
    exfalso; omega
  | succ n ih =>
    intro x2 m_fruits m_standings m_typed m_thrown m_read m_length m_top m_at m_wrong m_newFruitMany m_newStandingMany m_undoMany m_came m_now m_x m_height m_worth m_ripe m_foot m_fork m_newFruits m_newStandings h_x2 h_m_fruits h_m_standings h_m_typed h_m_thrown h_m_read h_m_length h_m_top h_m_at h_m_wrong h_m_newFruitMany h_m_newStandingMany h_m_undoMany e0_m_now e1_m_now h_m_x h_m_height h_m_worth h_m_ripe h_m_foot h_m_fork e0_m_newFruits e1_m_newFruits e2_m_newFruits e3_m_newFruits h_m_newFruits h_m_newStandings hx0 hx1 hx2 hm
    exact ts_X10_orchard_105 m_text m_rule h_m_text h_m_rule hc0 hpost ih x2 m_fruits m_standings m_typed m_thrown m_read m_length m_top m_at m_wrong m_newFruitMany m_newStandingMany m_undoMany m_came m_now m_x m_height m_worth m_ripe m_foot m_fork m_newFruits m_newStandings h_x2 h_m_fruits h_m_standings h_m_typed h_m_thrown h_m_read h_m_length h_m_top h_m_at h_m_wrong h_m_newFruitMany h_m_newStandingMany h_m_undoMany e0_m_now e1_m_now h_m_x h_m_height h_m_worth h_m_ripe h_m_foot h_m_fork e0_m_newFruits e1_m_newFruits e2_m_newFruits e3_m_newFruits h_m_newFruits h_m_newStandings hx0 hx1 hx2 (by omega)
set_option maxHeartbeats 8000000 in
set_option maxRecDepth 200000 in
theorem ts_X10_orchard_89 {post : Int32 → Int32 → Int32 → Int32 → Int32 → Nat → Int32 → Int32 → Int32 → Int32 → Int32 → Int32 → Int32 → Int32 → (Nat → Int32) → (Nat → Int32) → (Nat → Int32) → (Nat → Int32) → (Nat → Int32) → (Nat → Int32) → (Nat → Int32) → (Nat → Int32) → (Nat → Int32) → Prop} {SB : Int} {m_standings0 : Int32} (m_text : Nat → Int32) (m_rule : Nat → Int32) (h_m_text : ∀ k : Nat, -128 ≤ Int32.toInt (m_text k) ∧ Int32.toInt (m_text k) ≤ 127) (h_m_rule : ∀ k : Nat, -128 ≤ Int32.toInt (m_rule k) ∧ Int32.toInt (m_rule k) ≤ 127) (hc0 : -1 ≤ SB ∧ SB ≤ 7) (hpost : ∀ (r : Int32) (m_fruits' : Int32) (m_standings' : Int32) (m_typed' : Int32) (m_thrown' : Int32) (m_read' : Nat) (m_length' : Int32) (m_top' : Int32) (m_at' : Int32) (m_wrong' : Int32) (m_newFruitMany' : Int32) (m_newStandingMany' : Int32) (m_undoMany' : Int32) (m_came' : Int32) (m_now' : Nat → Int32) (m_x' : Nat → Int32) (m_height' : Nat → Int32) (m_worth' : Nat → Int32) (m_ripe' : Nat → Int32) (m_foot' : Nat → Int32) (m_fork' : Nat → Int32) (m_newFruits' : Nat → Int32) (m_newStandings' : Nat → Int32), (-100 ≤ Int32.toInt r ∧ Int32.toInt r ≤ 24) → (0 ≤ Int32.toInt m_fruits' ∧ Int32.toInt m_fruits' ≤ 16) → (0 ≤ Int32.toInt m_standings' ∧ Int32.toInt m_standings' ≤ 8) → (0 ≤ Int32.toInt m_typed' ∧ Int32.toInt m_typed' ≤ 0) → (0 ≤ Int32.toInt m_thrown' ∧ Int32.toInt m_thrown' ≤ 0) → (m_read' = 1) → (0 ≤ Int32.toInt m_length' ∧ Int32.toInt m_length' ≤ 80) → (76 ≤ Int32.toInt m_top' ∧ Int32.toInt m_top' ≤ 76) → (0 ≤ Int32.toInt m_at' ∧ Int32.toInt m_at' ≤ 80) → (-1 ≤ Int32.toInt m_wrong' ∧ Int32.toInt m_wrong' ≤ 80) → (0 ≤ Int32.toInt m_newFruitMany' ∧ Int32.toInt m_newFruitMany' ≤ 16) → (0 ≤ Int32.toInt m_newStandingMany' ∧ Int32.toInt m_newStandingMany' ≤ 8) → (0 ≤ Int32.toInt m_undoMany' ∧ Int32.toInt m_undoMany' ≤ 12) → (∀ k : Nat, k = 17 → -1 ≤ Int32.toInt (m_now' k) ∧ Int32.toInt (m_now' k) ≤ SB) → (∀ k : Nat, k = 19 → 0 ≤ Int32.toInt (m_now' k) ∧ Int32.toInt (m_now' k) ≤ 9) → (∀ k : Nat, 0 ≤ Int32.toInt (m_x' k) ∧ Int32.toInt (m_x' k) ≤ 99) → (∀ k : Nat, 0 ≤ Int32.toInt (m_height' k) ∧ Int32.toInt (m_height' k) ≤ 99) → (∀ k : Nat, 0 ≤ Int32.toInt (m_worth' k) ∧ Int32.toInt (m_worth' k) ≤ 9) → (∀ k : Nat, 0 ≤ Int32.toInt (m_ripe' k) ∧ Int32.toInt (m_ripe' k) ≤ 9) → (∀ k : Nat, 0 ≤ Int32.toInt (m_foot' k) ∧ Int32.toInt (m_foot' k) ≤ 99) → (∀ k : Nat, 0 ≤ Int32.toInt (m_fork' k) ∧ Int32.toInt (m_fork' k) ≤ 99) → (∀ k : Nat, k % 4 = 0 → 0 ≤ Int32.toInt (m_newFruits' k) ∧ Int32.toInt (m_newFruits' k) ≤ 99) → (∀ k : Nat, k % 4 = 1 → 0 ≤ Int32.toInt (m_newFruits' k) ∧ Int32.toInt (m_newFruits' k) ≤ 99) → (∀ k : Nat, k % 4 = 2 → 0 ≤ Int32.toInt (m_newFruits' k) ∧ Int32.toInt (m_newFruits' k) ≤ 9) → (∀ k : Nat, k % 4 = 3 → 0 ≤ Int32.toInt (m_newFruits' k) ∧ Int32.toInt (m_newFruits' k) ≤ 9) → (∀ k : Nat, 0 ≤ Int32.toInt (m_newFruits' k) ∧ Int32.toInt (m_newFruits' k) ≤ 99) → (∀ k : Nat, 0 ≤ Int32.toInt (m_newStandings' k) ∧ Int32.toInt (m_newStandings' k) ≤ 99) → (Int32.toInt m_standings0 ≤ Int32.toInt m_standings') → post r m_fruits' m_standings' m_typed' m_thrown' m_read' m_length' m_top' m_at' m_wrong' m_newFruitMany' m_newStandingMany' m_undoMany' m_came' m_now' m_x' m_height' m_worth' m_ripe' m_foot' m_fork' m_newFruits' m_newStandings') (m_fruits : Int32) (m_standings : Int32) (m_typed : Int32) (m_thrown : Int32) (m_read : Nat) (m_length : Int32) (m_top : Int32) (m_at : Int32) (m_wrong : Int32) (m_newFruitMany : Int32) (m_newStandingMany : Int32) (m_undoMany : Int32) (m_came : Int32) (m_now : Nat → Int32) (m_x : Nat → Int32) (m_height : Nat → Int32) (m_worth : Nat → Int32) (m_ripe : Nat → Int32) (m_foot : Nat → Int32) (m_fork : Nat → Int32) (m_newFruits : Nat → Int32) (m_newStandings : Nat → Int32) (h_m_fruits : 0 ≤ Int32.toInt m_fruits ∧ Int32.toInt m_fruits ≤ 16) (h_m_standings : 0 ≤ Int32.toInt m_standings ∧ Int32.toInt m_standings ≤ 8) (h_m_typed : 0 ≤ Int32.toInt m_typed ∧ Int32.toInt m_typed ≤ 0) (h_m_thrown : 0 ≤ Int32.toInt m_thrown ∧ Int32.toInt m_thrown ≤ 0) (h_m_read : m_read = 1) (h_m_length : 1 ≤ Int32.toInt m_length ∧ Int32.toInt m_length ≤ 80) (h_m_top : 76 ≤ Int32.toInt m_top ∧ Int32.toInt m_top ≤ 76) (h_m_at : 0 ≤ Int32.toInt m_at ∧ Int32.toInt m_at ≤ 80) (h_m_wrong : -1 ≤ Int32.toInt m_wrong ∧ Int32.toInt m_wrong ≤ 80) (h_m_newFruitMany : 0 ≤ Int32.toInt m_newFruitMany ∧ Int32.toInt m_newFruitMany ≤ 16) (h_m_newStandingMany : 0 ≤ Int32.toInt m_newStandingMany ∧ Int32.toInt m_newStandingMany ≤ 8) (h_m_undoMany : 0 ≤ Int32.toInt m_undoMany ∧ Int32.toInt m_undoMany ≤ 12) (e0_m_now : ∀ k : Nat, k = 17 → -1 ≤ Int32.toInt (m_now k) ∧ Int32.toInt (m_now k) ≤ SB) (e1_m_now : ∀ k : Nat, k = 19 → 0 ≤ Int32.toInt (m_now k) ∧ Int32.toInt (m_now k) ≤ 9) (h_m_x : ∀ k : Nat, 0 ≤ Int32.toInt (m_x k) ∧ Int32.toInt (m_x k) ≤ 99) (h_m_height : ∀ k : Nat, 0 ≤ Int32.toInt (m_height k) ∧ Int32.toInt (m_height k) ≤ 99) (h_m_worth : ∀ k : Nat, 0 ≤ Int32.toInt (m_worth k) ∧ Int32.toInt (m_worth k) ≤ 9) (h_m_ripe : ∀ k : Nat, 0 ≤ Int32.toInt (m_ripe k) ∧ Int32.toInt (m_ripe k) ≤ 9) (h_m_foot : ∀ k : Nat, 0 ≤ Int32.toInt (m_foot k) ∧ Int32.toInt (m_foot k) ≤ 99) (h_m_fork : ∀ k : Nat, 0 ≤ Int32.toInt (m_fork k) ∧ Int32.toInt (m_fork k) ≤ 99) (e0_m_newFruits : ∀ k : Nat, k % 4 = 0 → 0 ≤ Int32.toInt (m_newFruits k) ∧ Int32.toInt (m_newFruits k) ≤ 99) (e1_m_newFruits : ∀ k : Nat, k % 4 = 1 → 0 ≤ Int32.toInt (m_newFruits k) ∧ Int32.toInt (m_newFruits k) ≤ 99) (e2_m_newFruits : ∀ k : Nat, k % 4 = 2 → 0 ≤ Int32.toInt (m_newFruits k) ∧ Int32.toInt (m_newFruits k) ≤ 9) (e3_m_newFruits : ∀ k : Nat, k % 4 = 3 → 0 ≤ Int32.toInt (m_newFruits k) ∧ Int32.toInt (m_newFruits k) ≤ 9) (h_m_newFruits : ∀ k : Nat, 0 ≤ Int32.toInt (m_newFruits k) ∧ Int32.toInt (m_newFruits k) ≤ 99) (h_m_newStandings : ∀ k : Nat, 0 ≤ Int32.toInt (m_newStandings k) ∧ Int32.toInt (m_newStandings k) ≤ 99) (hx0 : Int32.toInt m_fruits + Int32.toInt m_newFruitMany ≤ 16) (hx1 : Int32.toInt m_standings + Int32.toInt m_newStandingMany ≤ 8) (hx2 : Int32.toInt m_standings0 ≤ Int32.toInt m_standings) : ws_X10_orchard_89 post m_text m_rule m_fruits m_standings m_typed m_thrown m_read m_length m_top m_at m_wrong m_newFruitMany m_newStandingMany m_undoMany m_came m_now m_x m_height m_worth m_ripe m_foot m_fork m_newFruits m_newStandings := by
  have l0 : Int32.toInt ((-1) : Int32) = -1 := (by decide)
  have l1 : Int32.toInt (0 : Int32) = 0 := (by decide)
  refine And.intro (fun c57 => ?_) (fun c57 => ?_)
  · skip
    have c57 := mt (fa_eq _ _).mpr c57
    refine And.intro (fun h9 => absurd h9 (by decide)) (fun _ => ?_)
    have f58 : Int32.toInt ((-1) - m_wrong) = Int32.toInt ((-1) : Int32) - Int32.toInt m_wrong := ta_sub _ _ (by omega)
    obtain ⟨w59, ew59⟩ : ∃ w9 : Int32, w9 = (-1) - m_wrong := ⟨_, rfl⟩
    rw [← ew59] at f58
    have key9 := hpost w59 m_fruits m_standings m_typed m_thrown m_read m_length m_top m_at m_wrong m_newFruitMany m_newStandingMany m_undoMany m_came m_now m_x m_height m_worth m_ripe m_foot m_fork m_newFruits m_newStandings (by omega) (by omega) (by omega) (by omega) (by omega) (by first | exact h_m_read | exact Or.inl rfl | exact Or.inr rfl | omega) (by omega) (by omega) (by omega) (by omega) (by omega) (by omega) (by omega) e0_m_now e1_m_now (fun k => by have q9 := h_m_x k; omega) (fun k => by have q9 := h_m_height k; omega) (fun k => by have q9 := h_m_worth k; omega) (fun k => by have q9 := h_m_ripe k; omega) (fun k => by have q9 := h_m_foot k; omega) (fun k => by have q9 := h_m_fork k; omega) e0_m_newFruits e1_m_newFruits e2_m_newFruits e3_m_newFruits (fun k => by have q9 := h_m_newFruits k; omega) (fun k => by have q9 := h_m_newStandings k; omega) (by omega)
    subst ew59
    exact key9
  · skip
    have c57 := (fa_eq _ _).mp c57
    refine And.intro (fun _ => ?_) (fun h9 => absurd h9 (by decide))
    have f60 := tp_r m_came
    exact ⟨18, tb_X10_orchard_105 m_text m_rule h_m_text h_m_rule hc0 hpost _ 0 m_fruits m_standings m_typed m_thrown m_read m_length m_top m_at m_wrong m_newFruitMany m_newStandingMany m_undoMany m_came m_now m_x m_height m_worth m_ripe m_foot m_fork m_newFruits m_newStandings (by omega) (by omega) (by omega) (by omega) (by omega) (by first | exact h_m_read | exact Or.inl rfl | exact Or.inr rfl | omega) (by omega) (by omega) (by omega) (by omega) (by omega) (by omega) (by omega) e0_m_now e1_m_now (fun k => by have q9 := h_m_x k; omega) (fun k => by have q9 := h_m_height k; omega) (fun k => by have q9 := h_m_worth k; omega) (fun k => by have q9 := h_m_ripe k; omega) (fun k => by have q9 := h_m_foot k; omega) (fun k => by have q9 := h_m_fork k; omega) e0_m_newFruits e1_m_newFruits e2_m_newFruits e3_m_newFruits (fun k => by have q9 := h_m_newFruits k; omega) (fun k => by have q9 := h_m_newStandings k; omega) (by omega) (by omega) (by omega) (by omega)⟩
set_option maxHeartbeats 8000000 in
set_option maxRecDepth 200000 in
theorem ts_X10_orchard_70 {post : Int32 → Int32 → Int32 → Int32 → Int32 → Nat → Int32 → Int32 → Int32 → Int32 → Int32 → Int32 → Int32 → Int32 → (Nat → Int32) → (Nat → Int32) → (Nat → Int32) → (Nat → Int32) → (Nat → Int32) → (Nat → Int32) → (Nat → Int32) → (Nat → Int32) → (Nat → Int32) → Prop} {SB : Int} {m_standings0 : Int32} (m_text : Nat → Int32) (m_rule : Nat → Int32) (h_m_text : ∀ k : Nat, -128 ≤ Int32.toInt (m_text k) ∧ Int32.toInt (m_text k) ≤ 127) (h_m_rule : ∀ k : Nat, -128 ≤ Int32.toInt (m_rule k) ∧ Int32.toInt (m_rule k) ≤ 127) (hc0 : -1 ≤ SB ∧ SB ≤ 7) (hpost : ∀ (r : Int32) (m_fruits' : Int32) (m_standings' : Int32) (m_typed' : Int32) (m_thrown' : Int32) (m_read' : Nat) (m_length' : Int32) (m_top' : Int32) (m_at' : Int32) (m_wrong' : Int32) (m_newFruitMany' : Int32) (m_newStandingMany' : Int32) (m_undoMany' : Int32) (m_came' : Int32) (m_now' : Nat → Int32) (m_x' : Nat → Int32) (m_height' : Nat → Int32) (m_worth' : Nat → Int32) (m_ripe' : Nat → Int32) (m_foot' : Nat → Int32) (m_fork' : Nat → Int32) (m_newFruits' : Nat → Int32) (m_newStandings' : Nat → Int32), (-100 ≤ Int32.toInt r ∧ Int32.toInt r ≤ 24) → (0 ≤ Int32.toInt m_fruits' ∧ Int32.toInt m_fruits' ≤ 16) → (0 ≤ Int32.toInt m_standings' ∧ Int32.toInt m_standings' ≤ 8) → (0 ≤ Int32.toInt m_typed' ∧ Int32.toInt m_typed' ≤ 0) → (0 ≤ Int32.toInt m_thrown' ∧ Int32.toInt m_thrown' ≤ 0) → (m_read' = 1) → (0 ≤ Int32.toInt m_length' ∧ Int32.toInt m_length' ≤ 80) → (76 ≤ Int32.toInt m_top' ∧ Int32.toInt m_top' ≤ 76) → (0 ≤ Int32.toInt m_at' ∧ Int32.toInt m_at' ≤ 80) → (-1 ≤ Int32.toInt m_wrong' ∧ Int32.toInt m_wrong' ≤ 80) → (0 ≤ Int32.toInt m_newFruitMany' ∧ Int32.toInt m_newFruitMany' ≤ 16) → (0 ≤ Int32.toInt m_newStandingMany' ∧ Int32.toInt m_newStandingMany' ≤ 8) → (0 ≤ Int32.toInt m_undoMany' ∧ Int32.toInt m_undoMany' ≤ 12) → (∀ k : Nat, k = 17 → -1 ≤ Int32.toInt (m_now' k) ∧ Int32.toInt (m_now' k) ≤ SB) → (∀ k : Nat, k = 19 → 0 ≤ Int32.toInt (m_now' k) ∧ Int32.toInt (m_now' k) ≤ 9) → (∀ k : Nat, 0 ≤ Int32.toInt (m_x' k) ∧ Int32.toInt (m_x' k) ≤ 99) → (∀ k : Nat, 0 ≤ Int32.toInt (m_height' k) ∧ Int32.toInt (m_height' k) ≤ 99) → (∀ k : Nat, 0 ≤ Int32.toInt (m_worth' k) ∧ Int32.toInt (m_worth' k) ≤ 9) → (∀ k : Nat, 0 ≤ Int32.toInt (m_ripe' k) ∧ Int32.toInt (m_ripe' k) ≤ 9) → (∀ k : Nat, 0 ≤ Int32.toInt (m_foot' k) ∧ Int32.toInt (m_foot' k) ≤ 99) → (∀ k : Nat, 0 ≤ Int32.toInt (m_fork' k) ∧ Int32.toInt (m_fork' k) ≤ 99) → (∀ k : Nat, k % 4 = 0 → 0 ≤ Int32.toInt (m_newFruits' k) ∧ Int32.toInt (m_newFruits' k) ≤ 99) → (∀ k : Nat, k % 4 = 1 → 0 ≤ Int32.toInt (m_newFruits' k) ∧ Int32.toInt (m_newFruits' k) ≤ 99) → (∀ k : Nat, k % 4 = 2 → 0 ≤ Int32.toInt (m_newFruits' k) ∧ Int32.toInt (m_newFruits' k) ≤ 9) → (∀ k : Nat, k % 4 = 3 → 0 ≤ Int32.toInt (m_newFruits' k) ∧ Int32.toInt (m_newFruits' k) ≤ 9) → (∀ k : Nat, 0 ≤ Int32.toInt (m_newFruits' k) ∧ Int32.toInt (m_newFruits' k) ≤ 99) → (∀ k : Nat, 0 ≤ Int32.toInt (m_newStandings' k) ∧ Int32.toInt (m_newStandings' k) ≤ 99) → (Int32.toInt m_standings0 ≤ Int32.toInt m_standings') → post r m_fruits' m_standings' m_typed' m_thrown' m_read' m_length' m_top' m_at' m_wrong' m_newFruitMany' m_newStandingMany' m_undoMany' m_came' m_now' m_x' m_height' m_worth' m_ripe' m_foot' m_fork' m_newFruits' m_newStandings') (m_fruits : Int32) (m_standings : Int32) (m_typed : Int32) (m_thrown : Int32) (m_read : Nat) (m_length : Int32) (m_top : Int32) (m_at : Int32) (m_wrong : Int32) (m_newFruitMany : Int32) (m_newStandingMany : Int32) (m_undoMany : Int32) (m_came : Int32) (m_now : Nat → Int32) (m_x : Nat → Int32) (m_height : Nat → Int32) (m_worth : Nat → Int32) (m_ripe : Nat → Int32) (m_foot : Nat → Int32) (m_fork : Nat → Int32) (m_newFruits : Nat → Int32) (m_newStandings : Nat → Int32) (h_m_fruits : 0 ≤ Int32.toInt m_fruits ∧ Int32.toInt m_fruits ≤ 16) (h_m_standings : 0 ≤ Int32.toInt m_standings ∧ Int32.toInt m_standings ≤ 8) (h_m_typed : 0 ≤ Int32.toInt m_typed ∧ Int32.toInt m_typed ≤ 0) (h_m_thrown : 0 ≤ Int32.toInt m_thrown ∧ Int32.toInt m_thrown ≤ 0) (h_m_read : m_read = 1) (h_m_length : 1 ≤ Int32.toInt m_length ∧ Int32.toInt m_length ≤ 80) (h_m_top : 76 ≤ Int32.toInt m_top ∧ Int32.toInt m_top ≤ 76) (h_m_at : 0 ≤ Int32.toInt m_at ∧ Int32.toInt m_at ≤ 80) (h_m_wrong : -1 ≤ Int32.toInt m_wrong ∧ Int32.toInt m_wrong ≤ 80) (h_m_newFruitMany : 0 ≤ Int32.toInt m_newFruitMany ∧ Int32.toInt m_newFruitMany ≤ 16) (h_m_newStandingMany : 0 ≤ Int32.toInt m_newStandingMany ∧ Int32.toInt m_newStandingMany ≤ 8) (h_m_undoMany : 0 ≤ Int32.toInt m_undoMany ∧ Int32.toInt m_undoMany ≤ 12) (e0_m_now : ∀ k : Nat, k = 17 → -1 ≤ Int32.toInt (m_now k) ∧ Int32.toInt (m_now k) ≤ SB) (e1_m_now : ∀ k : Nat, k = 19 → 0 ≤ Int32.toInt (m_now k) ∧ Int32.toInt (m_now k) ≤ 9) (h_m_x : ∀ k : Nat, 0 ≤ Int32.toInt (m_x k) ∧ Int32.toInt (m_x k) ≤ 99) (h_m_height : ∀ k : Nat, 0 ≤ Int32.toInt (m_height k) ∧ Int32.toInt (m_height k) ≤ 99) (h_m_worth : ∀ k : Nat, 0 ≤ Int32.toInt (m_worth k) ∧ Int32.toInt (m_worth k) ≤ 9) (h_m_ripe : ∀ k : Nat, 0 ≤ Int32.toInt (m_ripe k) ∧ Int32.toInt (m_ripe k) ≤ 9) (h_m_foot : ∀ k : Nat, 0 ≤ Int32.toInt (m_foot k) ∧ Int32.toInt (m_foot k) ≤ 99) (h_m_fork : ∀ k : Nat, 0 ≤ Int32.toInt (m_fork k) ∧ Int32.toInt (m_fork k) ≤ 99) (e0_m_newFruits : ∀ k : Nat, k % 4 = 0 → 0 ≤ Int32.toInt (m_newFruits k) ∧ Int32.toInt (m_newFruits k) ≤ 99) (e1_m_newFruits : ∀ k : Nat, k % 4 = 1 → 0 ≤ Int32.toInt (m_newFruits k) ∧ Int32.toInt (m_newFruits k) ≤ 99) (e2_m_newFruits : ∀ k : Nat, k % 4 = 2 → 0 ≤ Int32.toInt (m_newFruits k) ∧ Int32.toInt (m_newFruits k) ≤ 9) (e3_m_newFruits : ∀ k : Nat, k % 4 = 3 → 0 ≤ Int32.toInt (m_newFruits k) ∧ Int32.toInt (m_newFruits k) ≤ 9) (h_m_newFruits : ∀ k : Nat, 0 ≤ Int32.toInt (m_newFruits k) ∧ Int32.toInt (m_newFruits k) ≤ 99) (h_m_newStandings : ∀ k : Nat, 0 ≤ Int32.toInt (m_newStandings k) ∧ Int32.toInt (m_newStandings k) ≤ 99) (hx0 : Int32.toInt m_fruits + Int32.toInt m_newFruitMany ≤ 16) (hx1 : Int32.toInt m_standings + Int32.toInt m_newStandingMany ≤ 8) (hx2 : Int32.toInt m_standings0 ≤ Int32.toInt m_standings) : ws_X10_orchard_70 post m_text m_rule m_fruits m_standings m_typed m_thrown m_read m_length m_top m_at m_wrong m_newFruitMany m_newStandingMany m_undoMany m_came m_now m_x m_height m_worth m_ripe m_foot m_fork m_newFruits m_newStandings := by
  have l0 : Int32.toInt ((-1) : Int32) = -1 := (by decide)
  refine And.intro (fun c61 => ?_) (fun c61 => ?_)
  · skip
    have c61 := (fa_le _ _).mp c61
    have f62 := tp_r m_came
    exact ts_X10_orchard_89 m_text m_rule h_m_text h_m_rule hc0 hpost m_fruits m_standings m_typed m_thrown m_read m_length m_top m_at m_wrong m_newFruitMany m_newStandingMany m_undoMany m_came m_now m_x m_height m_worth m_ripe m_foot m_fork m_newFruits m_newStandings (by omega) (by omega) (by omega) (by omega) (by first | exact h_m_read | exact Or.inl rfl | exact Or.inr rfl | omega) (by omega) (by omega) (by omega) (by omega) (by omega) (by omega) (by omega) e0_m_now e1_m_now (fun k => by have q9 := h_m_x k; omega) (fun k => by have q9 := h_m_height k; omega) (fun k => by have q9 := h_m_worth k; omega) (fun k => by have q9 := h_m_ripe k; omega) (fun k => by have q9 := h_m_foot k; omega) (fun k => by have q9 := h_m_fork k; omega) e0_m_newFruits e1_m_newFruits e2_m_newFruits e3_m_newFruits (fun k => by have q9 := h_m_newFruits k; omega) (fun k => by have q9 := h_m_newStandings k; omega) (by omega) (by omega) (by omega)
  · skip
    have c61 := mt (fa_le _ _).mpr c61
    refine And.intro (fun c63 => ?_) (fun c63 => ?_)
    · skip
      have c63 := mt (fa_eq _ _).mpr c63
      refine And.intro (fun _ => ?_) (fun h9 => absurd h9 (by decide))
      have f64 := tp_r m_came
      exact ts_X10_orchard_89 m_text m_rule h_m_text h_m_rule hc0 hpost m_fruits m_standings m_typed m_thrown m_read m_length m_top m_at m_wrong m_newFruitMany m_newStandingMany m_undoMany m_came m_now m_x m_height m_worth m_ripe m_foot m_fork m_newFruits m_newStandings (by omega) (by omega) (by omega) (by omega) (by first | exact h_m_read | exact Or.inl rfl | exact Or.inr rfl | omega) (by omega) (by omega) (by omega) (by omega) (by omega) (by omega) (by omega) e0_m_now e1_m_now (fun k => by have q9 := h_m_x k; omega) (fun k => by have q9 := h_m_height k; omega) (fun k => by have q9 := h_m_worth k; omega) (fun k => by have q9 := h_m_ripe k; omega) (fun k => by have q9 := h_m_foot k; omega) (fun k => by have q9 := h_m_fork k; omega) e0_m_newFruits e1_m_newFruits e2_m_newFruits e3_m_newFruits (fun k => by have q9 := h_m_newFruits k; omega) (fun k => by have q9 := h_m_newStandings k; omega) (by omega) (by omega) (by omega)
    · skip
      have c63 := (fa_eq _ _).mp c63
      refine And.intro (fun h9 => absurd h9 (by decide)) (fun _ => ?_)
      have f65 := tp_r m_came
      exact ts_X10_orchard_89 m_text m_rule h_m_text h_m_rule hc0 hpost m_fruits m_standings m_typed m_thrown m_read m_length m_top m_at m_at m_newFruitMany m_newStandingMany m_undoMany m_came m_now m_x m_height m_worth m_ripe m_foot m_fork m_newFruits m_newStandings (by omega) (by omega) (by omega) (by omega) (by first | exact h_m_read | exact Or.inl rfl | exact Or.inr rfl | omega) (by omega) (by omega) (by omega) (by omega) (by omega) (by omega) (by omega) e0_m_now e1_m_now (fun k => by have q9 := h_m_x k; omega) (fun k => by have q9 := h_m_height k; omega) (fun k => by have q9 := h_m_worth k; omega) (fun k => by have q9 := h_m_ripe k; omega) (fun k => by have q9 := h_m_foot k; omega) (fun k => by have q9 := h_m_fork k; omega) e0_m_newFruits e1_m_newFruits e2_m_newFruits e3_m_newFruits (fun k => by have q9 := h_m_newFruits k; omega) (fun k => by have q9 := h_m_newStandings k; omega) (by omega) (by omega) (by omega)
set_option maxHeartbeats 8000000 in
set_option maxRecDepth 200000 in
theorem ts_X10_orchard_45 {post : Int32 → Int32 → Int32 → Int32 → Int32 → Nat → Int32 → Int32 → Int32 → Int32 → Int32 → Int32 → Int32 → Int32 → (Nat → Int32) → (Nat → Int32) → (Nat → Int32) → (Nat → Int32) → (Nat → Int32) → (Nat → Int32) → (Nat → Int32) → (Nat → Int32) → (Nat → Int32) → Prop} {SB : Int} {m_standings0 : Int32} {next : Int32 → Int32 → Int32 → Int32 → Int32 → Nat → Int32 → Int32 → Int32 → Int32 → Int32 → Int32 → Int32 → Int32 → (Nat → Int32) → (Nat → Int32) → (Nat → Int32) → (Nat → Int32) → (Nat → Int32) → (Nat → Int32) → (Nat → Int32) → (Nat → Int32) → (Nat → Int32) → Prop} {n45 : Int} (m_text : Nat → Int32) (m_rule : Nat → Int32) (h_m_text : ∀ k : Nat, -128 ≤ Int32.toInt (m_text k) ∧ Int32.toInt (m_text k) ≤ 127) (h_m_rule : ∀ k : Nat, -128 ≤ Int32.toInt (m_rule k) ∧ Int32.toInt (m_rule k) ≤ 127) (hc0 : -1 ≤ SB ∧ SB ≤ 7) (hpost : ∀ (r : Int32) (m_fruits' : Int32) (m_standings' : Int32) (m_typed' : Int32) (m_thrown' : Int32) (m_read' : Nat) (m_length' : Int32) (m_top' : Int32) (m_at' : Int32) (m_wrong' : Int32) (m_newFruitMany' : Int32) (m_newStandingMany' : Int32) (m_undoMany' : Int32) (m_came' : Int32) (m_now' : Nat → Int32) (m_x' : Nat → Int32) (m_height' : Nat → Int32) (m_worth' : Nat → Int32) (m_ripe' : Nat → Int32) (m_foot' : Nat → Int32) (m_fork' : Nat → Int32) (m_newFruits' : Nat → Int32) (m_newStandings' : Nat → Int32), (-100 ≤ Int32.toInt r ∧ Int32.toInt r ≤ 24) → (0 ≤ Int32.toInt m_fruits' ∧ Int32.toInt m_fruits' ≤ 16) → (0 ≤ Int32.toInt m_standings' ∧ Int32.toInt m_standings' ≤ 8) → (0 ≤ Int32.toInt m_typed' ∧ Int32.toInt m_typed' ≤ 0) → (0 ≤ Int32.toInt m_thrown' ∧ Int32.toInt m_thrown' ≤ 0) → (m_read' = 1) → (0 ≤ Int32.toInt m_length' ∧ Int32.toInt m_length' ≤ 80) → (76 ≤ Int32.toInt m_top' ∧ Int32.toInt m_top' ≤ 76) → (0 ≤ Int32.toInt m_at' ∧ Int32.toInt m_at' ≤ 80) → (-1 ≤ Int32.toInt m_wrong' ∧ Int32.toInt m_wrong' ≤ 80) → (0 ≤ Int32.toInt m_newFruitMany' ∧ Int32.toInt m_newFruitMany' ≤ 16) → (0 ≤ Int32.toInt m_newStandingMany' ∧ Int32.toInt m_newStandingMany' ≤ 8) → (0 ≤ Int32.toInt m_undoMany' ∧ Int32.toInt m_undoMany' ≤ 12) → (∀ k : Nat, k = 17 → -1 ≤ Int32.toInt (m_now' k) ∧ Int32.toInt (m_now' k) ≤ SB) → (∀ k : Nat, k = 19 → 0 ≤ Int32.toInt (m_now' k) ∧ Int32.toInt (m_now' k) ≤ 9) → (∀ k : Nat, 0 ≤ Int32.toInt (m_x' k) ∧ Int32.toInt (m_x' k) ≤ 99) → (∀ k : Nat, 0 ≤ Int32.toInt (m_height' k) ∧ Int32.toInt (m_height' k) ≤ 99) → (∀ k : Nat, 0 ≤ Int32.toInt (m_worth' k) ∧ Int32.toInt (m_worth' k) ≤ 9) → (∀ k : Nat, 0 ≤ Int32.toInt (m_ripe' k) ∧ Int32.toInt (m_ripe' k) ≤ 9) → (∀ k : Nat, 0 ≤ Int32.toInt (m_foot' k) ∧ Int32.toInt (m_foot' k) ≤ 99) → (∀ k : Nat, 0 ≤ Int32.toInt (m_fork' k) ∧ Int32.toInt (m_fork' k) ≤ 99) → (∀ k : Nat, k % 4 = 0 → 0 ≤ Int32.toInt (m_newFruits' k) ∧ Int32.toInt (m_newFruits' k) ≤ 99) → (∀ k : Nat, k % 4 = 1 → 0 ≤ Int32.toInt (m_newFruits' k) ∧ Int32.toInt (m_newFruits' k) ≤ 99) → (∀ k : Nat, k % 4 = 2 → 0 ≤ Int32.toInt (m_newFruits' k) ∧ Int32.toInt (m_newFruits' k) ≤ 9) → (∀ k : Nat, k % 4 = 3 → 0 ≤ Int32.toInt (m_newFruits' k) ∧ Int32.toInt (m_newFruits' k) ≤ 9) → (∀ k : Nat, 0 ≤ Int32.toInt (m_newFruits' k) ∧ Int32.toInt (m_newFruits' k) ≤ 99) → (∀ k : Nat, 0 ≤ Int32.toInt (m_newStandings' k) ∧ Int32.toInt (m_newStandings' k) ≤ 99) → (Int32.toInt m_standings0 ≤ Int32.toInt m_standings') → post r m_fruits' m_standings' m_typed' m_thrown' m_read' m_length' m_top' m_at' m_wrong' m_newFruitMany' m_newStandingMany' m_undoMany' m_came' m_now' m_x' m_height' m_worth' m_ripe' m_foot' m_fork' m_newFruits' m_newStandings') (hKn : ∀ (x1 : Int32) (m_fruits : Int32) (m_standings : Int32) (m_typed : Int32) (m_thrown : Int32) (m_read : Nat) (m_length : Int32) (m_top : Int32) (m_at : Int32) (m_wrong : Int32) (m_newFruitMany : Int32) (m_newStandingMany : Int32) (m_undoMany : Int32) (m_came : Int32) (m_now : Nat → Int32) (m_x : Nat → Int32) (m_height : Nat → Int32) (m_worth : Nat → Int32) (m_ripe : Nat → Int32) (m_foot : Nat → Int32) (m_fork : Nat → Int32) (m_newFruits : Nat → Int32) (m_newStandings : Nat → Int32), (0 ≤ Int32.toInt x1 ∧ Int32.toInt x1 ≤ 1) → (0 ≤ Int32.toInt m_fruits ∧ Int32.toInt m_fruits ≤ 16) → (0 ≤ Int32.toInt m_standings ∧ Int32.toInt m_standings ≤ 8) → (0 ≤ Int32.toInt m_typed ∧ Int32.toInt m_typed ≤ 0) → (0 ≤ Int32.toInt m_thrown ∧ Int32.toInt m_thrown ≤ 0) → (m_read = 1) → (1 ≤ Int32.toInt m_length ∧ Int32.toInt m_length ≤ 80) → (76 ≤ Int32.toInt m_top ∧ Int32.toInt m_top ≤ 76) → (0 ≤ Int32.toInt m_at ∧ Int32.toInt m_at ≤ 80) → (-1 ≤ Int32.toInt m_wrong ∧ Int32.toInt m_wrong ≤ 80) → (0 ≤ Int32.toInt m_newFruitMany ∧ Int32.toInt m_newFruitMany ≤ 16) → (0 ≤ Int32.toInt m_newStandingMany ∧ Int32.toInt m_newStandingMany ≤ 8) → (0 ≤ Int32.toInt m_undoMany ∧ Int32.toInt m_undoMany ≤ 12) → (∀ k : Nat, k = 17 → -1 ≤ Int32.toInt (m_now k) ∧ Int32.toInt (m_now k) ≤ SB) → (∀ k : Nat, k = 19 → 0 ≤ Int32.toInt (m_now k) ∧ Int32.toInt (m_now k) ≤ 9) → (∀ k : Nat, 0 ≤ Int32.toInt (m_x k) ∧ Int32.toInt (m_x k) ≤ 99) → (∀ k : Nat, 0 ≤ Int32.toInt (m_height k) ∧ Int32.toInt (m_height k) ≤ 99) → (∀ k : Nat, 0 ≤ Int32.toInt (m_worth k) ∧ Int32.toInt (m_worth k) ≤ 9) → (∀ k : Nat, 0 ≤ Int32.toInt (m_ripe k) ∧ Int32.toInt (m_ripe k) ≤ 9) → (∀ k : Nat, 0 ≤ Int32.toInt (m_foot k) ∧ Int32.toInt (m_foot k) ≤ 99) → (∀ k : Nat, 0 ≤ Int32.toInt (m_fork k) ∧ Int32.toInt (m_fork k) ≤ 99) → (∀ k : Nat, k % 4 = 0 → 0 ≤ Int32.toInt (m_newFruits k) ∧ Int32.toInt (m_newFruits k) ≤ 99) → (∀ k : Nat, k % 4 = 1 → 0 ≤ Int32.toInt (m_newFruits k) ∧ Int32.toInt (m_newFruits k) ≤ 99) → (∀ k : Nat, k % 4 = 2 → 0 ≤ Int32.toInt (m_newFruits k) ∧ Int32.toInt (m_newFruits k) ≤ 9) → (∀ k : Nat, k % 4 = 3 → 0 ≤ Int32.toInt (m_newFruits k) ∧ Int32.toInt (m_newFruits k) ≤ 9) → (∀ k : Nat, 0 ≤ Int32.toInt (m_newFruits k) ∧ Int32.toInt (m_newFruits k) ≤ 99) → (∀ k : Nat, 0 ≤ Int32.toInt (m_newStandings k) ∧ Int32.toInt (m_newStandings k) ≤ 99) → (Int32.toInt m_fruits + Int32.toInt m_newFruitMany ≤ 16) → (Int32.toInt m_standings + Int32.toInt m_newStandingMany ≤ 8) → (Int32.toInt m_standings0 ≤ Int32.toInt m_standings) → (80 - Int32.toInt m_at + Int32.toInt x1 < n45) → next x1 m_fruits m_standings m_typed m_thrown m_read m_length m_top m_at m_wrong m_newFruitMany m_newStandingMany m_undoMany m_came m_now m_x m_height m_worth m_ripe m_foot m_fork m_newFruits m_newStandings) (x1 : Int32) (m_fruits : Int32) (m_standings : Int32) (m_typed : Int32) (m_thrown : Int32) (m_read : Nat) (m_length : Int32) (m_top : Int32) (m_at : Int32) (m_wrong : Int32) (m_newFruitMany : Int32) (m_newStandingMany : Int32) (m_undoMany : Int32) (m_came : Int32) (m_now : Nat → Int32) (m_x : Nat → Int32) (m_height : Nat → Int32) (m_worth : Nat → Int32) (m_ripe : Nat → Int32) (m_foot : Nat → Int32) (m_fork : Nat → Int32) (m_newFruits : Nat → Int32) (m_newStandings : Nat → Int32) (h_x1 : 0 ≤ Int32.toInt x1 ∧ Int32.toInt x1 ≤ 1) (h_m_fruits : 0 ≤ Int32.toInt m_fruits ∧ Int32.toInt m_fruits ≤ 16) (h_m_standings : 0 ≤ Int32.toInt m_standings ∧ Int32.toInt m_standings ≤ 8) (h_m_typed : 0 ≤ Int32.toInt m_typed ∧ Int32.toInt m_typed ≤ 0) (h_m_thrown : 0 ≤ Int32.toInt m_thrown ∧ Int32.toInt m_thrown ≤ 0) (h_m_read : m_read = 1) (h_m_length : 1 ≤ Int32.toInt m_length ∧ Int32.toInt m_length ≤ 80) (h_m_top : 76 ≤ Int32.toInt m_top ∧ Int32.toInt m_top ≤ 76) (h_m_at : 0 ≤ Int32.toInt m_at ∧ Int32.toInt m_at ≤ 80) (h_m_wrong : -1 ≤ Int32.toInt m_wrong ∧ Int32.toInt m_wrong ≤ 80) (h_m_newFruitMany : 0 ≤ Int32.toInt m_newFruitMany ∧ Int32.toInt m_newFruitMany ≤ 16) (h_m_newStandingMany : 0 ≤ Int32.toInt m_newStandingMany ∧ Int32.toInt m_newStandingMany ≤ 8) (h_m_undoMany : 0 ≤ Int32.toInt m_undoMany ∧ Int32.toInt m_undoMany ≤ 12) (e0_m_now : ∀ k : Nat, k = 17 → -1 ≤ Int32.toInt (m_now k) ∧ Int32.toInt (m_now k) ≤ SB) (e1_m_now : ∀ k : Nat, k = 19 → 0 ≤ Int32.toInt (m_now k) ∧ Int32.toInt (m_now k) ≤ 9) (h_m_x : ∀ k : Nat, 0 ≤ Int32.toInt (m_x k) ∧ Int32.toInt (m_x k) ≤ 99) (h_m_height : ∀ k : Nat, 0 ≤ Int32.toInt (m_height k) ∧ Int32.toInt (m_height k) ≤ 99) (h_m_worth : ∀ k : Nat, 0 ≤ Int32.toInt (m_worth k) ∧ Int32.toInt (m_worth k) ≤ 9) (h_m_ripe : ∀ k : Nat, 0 ≤ Int32.toInt (m_ripe k) ∧ Int32.toInt (m_ripe k) ≤ 9) (h_m_foot : ∀ k : Nat, 0 ≤ Int32.toInt (m_foot k) ∧ Int32.toInt (m_foot k) ≤ 99) (h_m_fork : ∀ k : Nat, 0 ≤ Int32.toInt (m_fork k) ∧ Int32.toInt (m_fork k) ≤ 99) (e0_m_newFruits : ∀ k : Nat, k % 4 = 0 → 0 ≤ Int32.toInt (m_newFruits k) ∧ Int32.toInt (m_newFruits k) ≤ 99) (e1_m_newFruits : ∀ k : Nat, k % 4 = 1 → 0 ≤ Int32.toInt (m_newFruits k) ∧ Int32.toInt (m_newFruits k) ≤ 99) (e2_m_newFruits : ∀ k : Nat, k % 4 = 2 → 0 ≤ Int32.toInt (m_newFruits k) ∧ Int32.toInt (m_newFruits k) ≤ 9) (e3_m_newFruits : ∀ k : Nat, k % 4 = 3 → 0 ≤ Int32.toInt (m_newFruits k) ∧ Int32.toInt (m_newFruits k) ≤ 9) (h_m_newFruits : ∀ k : Nat, 0 ≤ Int32.toInt (m_newFruits k) ∧ Int32.toInt (m_newFruits k) ≤ 99) (h_m_newStandings : ∀ k : Nat, 0 ≤ Int32.toInt (m_newStandings k) ∧ Int32.toInt (m_newStandings k) ≤ 99) (hx0 : Int32.toInt m_fruits + Int32.toInt m_newFruitMany ≤ 16) (hx1 : Int32.toInt m_standings + Int32.toInt m_newStandingMany ≤ 8) (hx2 : Int32.toInt m_standings0 ≤ Int32.toInt m_standings) (hn45 : 80 - Int32.toInt m_at + Int32.toInt x1 ≤ n45) : ws_X10_orchard_45 post next m_text m_rule x1 m_fruits m_standings m_typed m_thrown m_read m_length m_top m_at m_wrong m_newFruitMany m_newStandingMany m_undoMany m_came m_now m_x m_height m_worth m_ripe m_foot m_fork m_newFruits m_newStandings := by
  have l0 : Int32.toInt ((-1) : Int32) = -1 := (by decide)
  have l1 : Int32.toInt (0 : Int32) = 0 := (by decide)
  have l2 : Int32.toInt (1 : Int32) = 1 := (by decide)
  have l3 : Int32.toInt (59 : Int32) = 59 := (by decide)
  refine And.intro (fun c66 => ?_) (fun c66 => ?_)
  · skip
    have c66 := (fa_eq _ _).mp c66
    have f67 := tp_r m_came
    exact ts_X10_orchard_70 m_text m_rule h_m_text h_m_rule hc0 hpost m_fruits m_standings m_typed m_thrown m_read m_length m_top m_at m_wrong m_newFruitMany m_newStandingMany m_undoMany m_came m_now m_x m_height m_worth m_ripe m_foot m_fork m_newFruits m_newStandings (by omega) (by omega) (by omega) (by omega) (by first | exact h_m_read | exact Or.inl rfl | exact Or.inr rfl | omega) (by omega) (by omega) (by omega) (by omega) (by omega) (by omega) (by omega) e0_m_now e1_m_now (fun k => by have q9 := h_m_x k; omega) (fun k => by have q9 := h_m_height k; omega) (fun k => by have q9 := h_m_worth k; omega) (fun k => by have q9 := h_m_ripe k; omega) (fun k => by have q9 := h_m_foot k; omega) (fun k => by have q9 := h_m_fork k; omega) e0_m_newFruits e1_m_newFruits e2_m_newFruits e3_m_newFruits (fun k => by have q9 := h_m_newFruits k; omega) (fun k => by have q9 := h_m_newStandings k; omega) (by omega) (by omega) (by omega)
  · skip
    have c66 := mt (fa_eq _ _).mpr c66
    refine And.intro (fun c68 => ?_) (fun c68 => ?_)
    · skip
      have c68 := mt (fa_eq _ _).mpr c68
      refine And.intro (fun _ => ?_) (fun h9 => absurd h9 (by decide))
      have f69 := tp_r m_came
      exact ts_X10_orchard_70 m_text m_rule h_m_text h_m_rule hc0 hpost m_fruits m_standings m_typed m_thrown m_read m_length m_top m_at m_wrong m_newFruitMany m_newStandingMany m_undoMany m_came m_now m_x m_height m_worth m_ripe m_foot m_fork m_newFruits m_newStandings (by omega) (by omega) (by omega) (by omega) (by first | exact h_m_read | exact Or.inl rfl | exact Or.inr rfl | omega) (by omega) (by omega) (by omega) (by omega) (by omega) (by omega) (by omega) e0_m_now e1_m_now (fun k => by have q9 := h_m_x k; omega) (fun k => by have q9 := h_m_height k; omega) (fun k => by have q9 := h_m_worth k; omega) (fun k => by have q9 := h_m_ripe k; omega) (fun k => by have q9 := h_m_foot k; omega) (fun k => by have q9 := h_m_fork k; omega) e0_m_newFruits e1_m_newFruits e2_m_newFruits e3_m_newFruits (fun k => by have q9 := h_m_newFruits k; omega) (fun k => by have q9 := h_m_newStandings k; omega) (by omega) (by omega) (by omega)
    · skip
      have c68 := (fa_eq _ _).mp c68
      refine And.intro (fun h9 => absurd h9 (by decide)) (fun _ => ?_)
      refine t_X10_readLine (by omega) (by omega) (by first | exact h_m_read | exact Or.inl rfl | exact Or.inr rfl | omega) (by omega) (by omega) (by omega) (by omega) (by omega) (by omega) (fun k => by have q9 := h_m_text k; omega) e0_m_newFruits e1_m_newFruits e2_m_newFruits e3_m_newFruits (fun k => by have q9 := h_m_newFruits k; omega) (fun k => by have q9 := h_m_newStandings k; omega) (fun k => by have q9 := h_m_rule k; omega) (by omega) (by omega) (fun m_at_70 m_wrong_71 m_newFruitMany_72 m_newStandingMany_73 m_newFruits_74 m_newStandings_75 h_m_at_70 h_m_wrong_71 h_m_newFruitMany_72 h_m_newStandingMany_73 e0_m_newFruits_74 e1_m_newFruits_74 e2_m_newFruits_74 e3_m_newFruits_74 h_m_newFruits_74 h_m_newStandings_75 ox76 ox77 ox78 => ?_)
      refine And.intro (fun c79 => ?_) (fun c79 => ?_)
      · skip
        have c79 := mt (fa_eq _ _).mpr c79
        refine And.intro (fun _ => ?_) (fun h9 => absurd h9 (by decide))
        have f80 := tp_r m_came
        exact hKn 0 m_fruits m_standings m_typed m_thrown m_read m_length m_top m_at_70 m_wrong_71 m_newFruitMany_72 m_newStandingMany_73 m_undoMany m_came m_now m_x m_height m_worth m_ripe m_foot m_fork m_newFruits_74 m_newStandings_75 (by omega) (by omega) (by omega) (by omega) (by omega) (by first | exact h_m_read | exact Or.inl rfl | exact Or.inr rfl | omega) (by omega) (by omega) (by omega) (by omega) (by omega) (by omega) (by omega) e0_m_now e1_m_now (fun k => by have q9 := h_m_x k; omega) (fun k => by have q9 := h_m_height k; omega) (fun k => by have q9 := h_m_worth k; omega) (fun k => by have q9 := h_m_ripe k; omega) (fun k => by have q9 := h_m_foot k; omega) (fun k => by have q9 := h_m_fork k; omega) e0_m_newFruits_74 e1_m_newFruits_74 e2_m_newFruits_74 e3_m_newFruits_74 (fun k => by have q9 := h_m_newFruits_74 k; omega) (fun k => by have q9 := h_m_newStandings_75 k; omega) (by omega) (by omega) (by omega) (by omega)
      · skip
        have c79 := (fa_eq _ _).mp c79
        refine And.intro (fun h9 => absurd h9 (by decide)) (fun _ => ?_)
        refine t_X10_here (by first | exact h_m_read | exact Or.inl rfl | exact Or.inr rfl | omega) (by omega) (by omega) (by omega) (fun k => by have q9 := h_m_text k; omega) (fun k => by have q9 := h_m_rule k; omega) (by omega) (fun r81 h_r81 ox82 ox83 => ?_)
        refine And.intro (fun c84 => ?_) (fun c84 => ?_)
        · skip
          have c84 := (fa_eq _ _).mp c84
          intro v85 ev85
          have f86 : Int32.toInt (m_at_70 + 1) = Int32.toInt m_at_70 + Int32.toInt (1 : Int32) := ta_add _ _ (by omega)
          rw [← ev85] at f86
          have f87 := tp_r m_came
          exact hKn 1 m_fruits m_standings m_typed m_thrown m_read m_length m_top v85 m_wrong_71 m_newFruitMany_72 m_newStandingMany_73 m_undoMany m_came m_now m_x m_height m_worth m_ripe m_foot m_fork m_newFruits_74 m_newStandings_75 (by omega) (by omega) (by omega) (by omega) (by omega) (by first | exact h_m_read | exact Or.inl rfl | exact Or.inr rfl | omega) (by omega) (by omega) (by omega) (by omega) (by omega) (by omega) (by omega) e0_m_now e1_m_now (fun k => by have q9 := h_m_x k; omega) (fun k => by have q9 := h_m_height k; omega) (fun k => by have q9 := h_m_worth k; omega) (fun k => by have q9 := h_m_ripe k; omega) (fun k => by have q9 := h_m_foot k; omega) (fun k => by have q9 := h_m_fork k; omega) e0_m_newFruits_74 e1_m_newFruits_74 e2_m_newFruits_74 e3_m_newFruits_74 (fun k => by have q9 := h_m_newFruits_74 k; omega) (fun k => by have q9 := h_m_newStandings_75 k; omega) (by omega) (by omega) (by omega) (by omega)
        · skip
          have c84 := mt (fa_eq _ _).mpr c84
          have f88 := tp_r m_came
          exact hKn 0 m_fruits m_standings m_typed m_thrown m_read m_length m_top m_at_70 m_wrong_71 m_newFruitMany_72 m_newStandingMany_73 m_undoMany m_came m_now m_x m_height m_worth m_ripe m_foot m_fork m_newFruits_74 m_newStandings_75 (by omega) (by omega) (by omega) (by omega) (by omega) (by first | exact h_m_read | exact Or.inl rfl | exact Or.inr rfl | omega) (by omega) (by omega) (by omega) (by omega) (by omega) (by omega) (by omega) e0_m_now e1_m_now (fun k => by have q9 := h_m_x k; omega) (fun k => by have q9 := h_m_height k; omega) (fun k => by have q9 := h_m_worth k; omega) (fun k => by have q9 := h_m_ripe k; omega) (fun k => by have q9 := h_m_foot k; omega) (fun k => by have q9 := h_m_fork k; omega) e0_m_newFruits_74 e1_m_newFruits_74 e2_m_newFruits_74 e3_m_newFruits_74 (fun k => by have q9 := h_m_newFruits_74 k; omega) (fun k => by have q9 := h_m_newStandings_75 k; omega) (by omega) (by omega) (by omega) (by omega)
set_option maxHeartbeats 8000000 in
set_option maxRecDepth 200000 in
theorem tb_X10_orchard_45 {post : Int32 → Int32 → Int32 → Int32 → Int32 → Nat → Int32 → Int32 → Int32 → Int32 → Int32 → Int32 → Int32 → Int32 → (Nat → Int32) → (Nat → Int32) → (Nat → Int32) → (Nat → Int32) → (Nat → Int32) → (Nat → Int32) → (Nat → Int32) → (Nat → Int32) → (Nat → Int32) → Prop} {SB : Int} {m_standings0 : Int32} (m_text : Nat → Int32) (m_rule : Nat → Int32) (h_m_text : ∀ k : Nat, -128 ≤ Int32.toInt (m_text k) ∧ Int32.toInt (m_text k) ≤ 127) (h_m_rule : ∀ k : Nat, -128 ≤ Int32.toInt (m_rule k) ∧ Int32.toInt (m_rule k) ≤ 127) (hc0 : -1 ≤ SB ∧ SB ≤ 7) (hpost : ∀ (r : Int32) (m_fruits' : Int32) (m_standings' : Int32) (m_typed' : Int32) (m_thrown' : Int32) (m_read' : Nat) (m_length' : Int32) (m_top' : Int32) (m_at' : Int32) (m_wrong' : Int32) (m_newFruitMany' : Int32) (m_newStandingMany' : Int32) (m_undoMany' : Int32) (m_came' : Int32) (m_now' : Nat → Int32) (m_x' : Nat → Int32) (m_height' : Nat → Int32) (m_worth' : Nat → Int32) (m_ripe' : Nat → Int32) (m_foot' : Nat → Int32) (m_fork' : Nat → Int32) (m_newFruits' : Nat → Int32) (m_newStandings' : Nat → Int32), (-100 ≤ Int32.toInt r ∧ Int32.toInt r ≤ 24) → (0 ≤ Int32.toInt m_fruits' ∧ Int32.toInt m_fruits' ≤ 16) → (0 ≤ Int32.toInt m_standings' ∧ Int32.toInt m_standings' ≤ 8) → (0 ≤ Int32.toInt m_typed' ∧ Int32.toInt m_typed' ≤ 0) → (0 ≤ Int32.toInt m_thrown' ∧ Int32.toInt m_thrown' ≤ 0) → (m_read' = 1) → (0 ≤ Int32.toInt m_length' ∧ Int32.toInt m_length' ≤ 80) → (76 ≤ Int32.toInt m_top' ∧ Int32.toInt m_top' ≤ 76) → (0 ≤ Int32.toInt m_at' ∧ Int32.toInt m_at' ≤ 80) → (-1 ≤ Int32.toInt m_wrong' ∧ Int32.toInt m_wrong' ≤ 80) → (0 ≤ Int32.toInt m_newFruitMany' ∧ Int32.toInt m_newFruitMany' ≤ 16) → (0 ≤ Int32.toInt m_newStandingMany' ∧ Int32.toInt m_newStandingMany' ≤ 8) → (0 ≤ Int32.toInt m_undoMany' ∧ Int32.toInt m_undoMany' ≤ 12) → (∀ k : Nat, k = 17 → -1 ≤ Int32.toInt (m_now' k) ∧ Int32.toInt (m_now' k) ≤ SB) → (∀ k : Nat, k = 19 → 0 ≤ Int32.toInt (m_now' k) ∧ Int32.toInt (m_now' k) ≤ 9) → (∀ k : Nat, 0 ≤ Int32.toInt (m_x' k) ∧ Int32.toInt (m_x' k) ≤ 99) → (∀ k : Nat, 0 ≤ Int32.toInt (m_height' k) ∧ Int32.toInt (m_height' k) ≤ 99) → (∀ k : Nat, 0 ≤ Int32.toInt (m_worth' k) ∧ Int32.toInt (m_worth' k) ≤ 9) → (∀ k : Nat, 0 ≤ Int32.toInt (m_ripe' k) ∧ Int32.toInt (m_ripe' k) ≤ 9) → (∀ k : Nat, 0 ≤ Int32.toInt (m_foot' k) ∧ Int32.toInt (m_foot' k) ≤ 99) → (∀ k : Nat, 0 ≤ Int32.toInt (m_fork' k) ∧ Int32.toInt (m_fork' k) ≤ 99) → (∀ k : Nat, k % 4 = 0 → 0 ≤ Int32.toInt (m_newFruits' k) ∧ Int32.toInt (m_newFruits' k) ≤ 99) → (∀ k : Nat, k % 4 = 1 → 0 ≤ Int32.toInt (m_newFruits' k) ∧ Int32.toInt (m_newFruits' k) ≤ 99) → (∀ k : Nat, k % 4 = 2 → 0 ≤ Int32.toInt (m_newFruits' k) ∧ Int32.toInt (m_newFruits' k) ≤ 9) → (∀ k : Nat, k % 4 = 3 → 0 ≤ Int32.toInt (m_newFruits' k) ∧ Int32.toInt (m_newFruits' k) ≤ 9) → (∀ k : Nat, 0 ≤ Int32.toInt (m_newFruits' k) ∧ Int32.toInt (m_newFruits' k) ≤ 99) → (∀ k : Nat, 0 ≤ Int32.toInt (m_newStandings' k) ∧ Int32.toInt (m_newStandings' k) ≤ 99) → (Int32.toInt m_standings0 ≤ Int32.toInt m_standings') → post r m_fruits' m_standings' m_typed' m_thrown' m_read' m_length' m_top' m_at' m_wrong' m_newFruitMany' m_newStandingMany' m_undoMany' m_came' m_now' m_x' m_height' m_worth' m_ripe' m_foot' m_fork' m_newFruits' m_newStandings') : ∀ (n : Nat) (x1 : Int32) (m_fruits : Int32) (m_standings : Int32) (m_typed : Int32) (m_thrown : Int32) (m_read : Nat) (m_length : Int32) (m_top : Int32) (m_at : Int32) (m_wrong : Int32) (m_newFruitMany : Int32) (m_newStandingMany : Int32) (m_undoMany : Int32) (m_came : Int32) (m_now : Nat → Int32) (m_x : Nat → Int32) (m_height : Nat → Int32) (m_worth : Nat → Int32) (m_ripe : Nat → Int32) (m_foot : Nat → Int32) (m_fork : Nat → Int32) (m_newFruits : Nat → Int32) (m_newStandings : Nat → Int32), (0 ≤ Int32.toInt x1 ∧ Int32.toInt x1 ≤ 1) → (0 ≤ Int32.toInt m_fruits ∧ Int32.toInt m_fruits ≤ 16) → (0 ≤ Int32.toInt m_standings ∧ Int32.toInt m_standings ≤ 8) → (0 ≤ Int32.toInt m_typed ∧ Int32.toInt m_typed ≤ 0) → (0 ≤ Int32.toInt m_thrown ∧ Int32.toInt m_thrown ≤ 0) → (m_read = 1) → (1 ≤ Int32.toInt m_length ∧ Int32.toInt m_length ≤ 80) → (76 ≤ Int32.toInt m_top ∧ Int32.toInt m_top ≤ 76) → (0 ≤ Int32.toInt m_at ∧ Int32.toInt m_at ≤ 80) → (-1 ≤ Int32.toInt m_wrong ∧ Int32.toInt m_wrong ≤ 80) → (0 ≤ Int32.toInt m_newFruitMany ∧ Int32.toInt m_newFruitMany ≤ 16) → (0 ≤ Int32.toInt m_newStandingMany ∧ Int32.toInt m_newStandingMany ≤ 8) → (0 ≤ Int32.toInt m_undoMany ∧ Int32.toInt m_undoMany ≤ 12) → (∀ k : Nat, k = 17 → -1 ≤ Int32.toInt (m_now k) ∧ Int32.toInt (m_now k) ≤ SB) → (∀ k : Nat, k = 19 → 0 ≤ Int32.toInt (m_now k) ∧ Int32.toInt (m_now k) ≤ 9) → (∀ k : Nat, 0 ≤ Int32.toInt (m_x k) ∧ Int32.toInt (m_x k) ≤ 99) → (∀ k : Nat, 0 ≤ Int32.toInt (m_height k) ∧ Int32.toInt (m_height k) ≤ 99) → (∀ k : Nat, 0 ≤ Int32.toInt (m_worth k) ∧ Int32.toInt (m_worth k) ≤ 9) → (∀ k : Nat, 0 ≤ Int32.toInt (m_ripe k) ∧ Int32.toInt (m_ripe k) ≤ 9) → (∀ k : Nat, 0 ≤ Int32.toInt (m_foot k) ∧ Int32.toInt (m_foot k) ≤ 99) → (∀ k : Nat, 0 ≤ Int32.toInt (m_fork k) ∧ Int32.toInt (m_fork k) ≤ 99) → (∀ k : Nat, k % 4 = 0 → 0 ≤ Int32.toInt (m_newFruits k) ∧ Int32.toInt (m_newFruits k) ≤ 99) → (∀ k : Nat, k % 4 = 1 → 0 ≤ Int32.toInt (m_newFruits k) ∧ Int32.toInt (m_newFruits k) ≤ 99) → (∀ k : Nat, k % 4 = 2 → 0 ≤ Int32.toInt (m_newFruits k) ∧ Int32.toInt (m_newFruits k) ≤ 9) → (∀ k : Nat, k % 4 = 3 → 0 ≤ Int32.toInt (m_newFruits k) ∧ Int32.toInt (m_newFruits k) ≤ 9) → (∀ k : Nat, 0 ≤ Int32.toInt (m_newFruits k) ∧ Int32.toInt (m_newFruits k) ≤ 99) → (∀ k : Nat, 0 ≤ Int32.toInt (m_newStandings k) ∧ Int32.toInt (m_newStandings k) ≤ 99) → (Int32.toInt m_fruits + Int32.toInt m_newFruitMany ≤ 16) → (Int32.toInt m_standings + Int32.toInt m_newStandingMany ≤ 8) → (Int32.toInt m_standings0 ≤ Int32.toInt m_standings) → (80 - Int32.toInt m_at + Int32.toInt x1 < (n : Int)) → wb_X10_orchard_45 post m_text m_rule n x1 m_fruits m_standings m_typed m_thrown m_read m_length m_top m_at m_wrong m_newFruitMany m_newStandingMany m_undoMany m_came m_now m_x m_height m_worth m_ripe m_foot m_fork m_newFruits m_newStandings := by
  intro n
  induction n with
  | zero =>
    intro x1 m_fruits m_standings m_typed m_thrown m_read m_length m_top m_at m_wrong m_newFruitMany m_newStandingMany m_undoMany m_came m_now m_x m_height m_worth m_ripe m_foot m_fork m_newFruits m_newStandings h_x1 h_m_fruits h_m_standings h_m_typed h_m_thrown h_m_read h_m_length h_m_top h_m_at h_m_wrong h_m_newFruitMany h_m_newStandingMany h_m_undoMany e0_m_now e1_m_now h_m_x h_m_height h_m_worth h_m_ripe h_m_foot h_m_fork e0_m_newFruits e1_m_newFruits e2_m_newFruits e3_m_newFruits h_m_newFruits h_m_newStandings hx0 hx1 hx2 hm
    exfalso; omega
  | succ n ih =>
    intro x1 m_fruits m_standings m_typed m_thrown m_read m_length m_top m_at m_wrong m_newFruitMany m_newStandingMany m_undoMany m_came m_now m_x m_height m_worth m_ripe m_foot m_fork m_newFruits m_newStandings h_x1 h_m_fruits h_m_standings h_m_typed h_m_thrown h_m_read h_m_length h_m_top h_m_at h_m_wrong h_m_newFruitMany h_m_newStandingMany h_m_undoMany e0_m_now e1_m_now h_m_x h_m_height h_m_worth h_m_ripe h_m_foot h_m_fork e0_m_newFruits e1_m_newFruits e2_m_newFruits e3_m_newFruits h_m_newFruits h_m_newStandings hx0 hx1 hx2 hm
    exact ts_X10_orchard_45 m_text m_rule h_m_text h_m_rule hc0 hpost ih x1 m_fruits m_standings m_typed m_thrown m_read m_length m_top m_at m_wrong m_newFruitMany m_newStandingMany m_undoMany m_came m_now m_x m_height m_worth m_ripe m_foot m_fork m_newFruits m_newStandings h_x1 h_m_fruits h_m_standings h_m_typed h_m_thrown h_m_read h_m_length h_m_top h_m_at h_m_wrong h_m_newFruitMany h_m_newStandingMany h_m_undoMany e0_m_now e1_m_now h_m_x h_m_height h_m_worth h_m_ripe h_m_foot h_m_fork e0_m_newFruits e1_m_newFruits e2_m_newFruits e3_m_newFruits h_m_newFruits h_m_newStandings hx0 hx1 hx2 (by omega)
set_option maxHeartbeats 8000000 in
set_option maxRecDepth 200000 in
theorem t_X10_orchard {post : Int32 → Int32 → Int32 → Int32 → Int32 → Nat → Int32 → Int32 → Int32 → Int32 → Int32 → Int32 → Int32 → Int32 → (Nat → Int32) → (Nat → Int32) → (Nat → Int32) → (Nat → Int32) → (Nat → Int32) → (Nat → Int32) → (Nat → Int32) → (Nat → Int32) → (Nat → Int32) → Prop} {SB : Int} {m_fruits : Int32} {m_standings : Int32} {m_typed : Int32} {m_thrown : Int32} {m_read : Nat} {m_length : Int32} {m_top : Int32} {m_at : Int32} {m_wrong : Int32} {m_newFruitMany : Int32} {m_newStandingMany : Int32} {m_undoMany : Int32} {m_came : Int32} {m_now : Nat → Int32} {m_x : Nat → Int32} {m_height : Nat → Int32} {m_worth : Nat → Int32} {m_ripe : Nat → Int32} {m_foot : Nat → Int32} {m_fork : Nat → Int32} {m_text : Nat → Int32} {m_newFruits : Nat → Int32} {m_newStandings : Nat → Int32} {m_rule : Nat → Int32} (h_m_fruits : 0 ≤ Int32.toInt m_fruits ∧ Int32.toInt m_fruits ≤ 16) (h_m_standings : 0 ≤ Int32.toInt m_standings ∧ Int32.toInt m_standings ≤ 8) (h_m_typed : 0 ≤ Int32.toInt m_typed ∧ Int32.toInt m_typed ≤ 80) (h_m_thrown : 0 ≤ Int32.toInt m_thrown ∧ Int32.toInt m_thrown ≤ 1) (h_m_read : m_read = 0 ∨ m_read = 1 ∨ m_read = 2) (h_m_length : 0 ≤ Int32.toInt m_length ∧ Int32.toInt m_length ≤ 80) (h_m_top : 0 ≤ Int32.toInt m_top ∧ Int32.toInt m_top ≤ 80) (h_m_at : 0 ≤ Int32.toInt m_at ∧ Int32.toInt m_at ≤ 80) (h_m_wrong : -1 ≤ Int32.toInt m_wrong ∧ Int32.toInt m_wrong ≤ 80) (h_m_newFruitMany : 0 ≤ Int32.toInt m_newFruitMany ∧ Int32.toInt m_newFruitMany ≤ 16) (h_m_newStandingMany : 0 ≤ Int32.toInt m_newStandingMany ∧ Int32.toInt m_newStandingMany ≤ 8) (h_m_undoMany : 0 ≤ Int32.toInt m_undoMany ∧ Int32.toInt m_undoMany ≤ 12) (e0_m_now : ∀ k : Nat, k = 17 → -1 ≤ Int32.toInt (m_now k) ∧ Int32.toInt (m_now k) ≤ SB) (e1_m_now : ∀ k : Nat, k = 19 → 0 ≤ Int32.toInt (m_now k) ∧ Int32.toInt (m_now k) ≤ 9) (h_m_x : ∀ k : Nat, 0 ≤ Int32.toInt (m_x k) ∧ Int32.toInt (m_x k) ≤ 99) (h_m_height : ∀ k : Nat, 0 ≤ Int32.toInt (m_height k) ∧ Int32.toInt (m_height k) ≤ 99) (h_m_worth : ∀ k : Nat, 0 ≤ Int32.toInt (m_worth k) ∧ Int32.toInt (m_worth k) ≤ 9) (h_m_ripe : ∀ k : Nat, 0 ≤ Int32.toInt (m_ripe k) ∧ Int32.toInt (m_ripe k) ≤ 9) (h_m_foot : ∀ k : Nat, 0 ≤ Int32.toInt (m_foot k) ∧ Int32.toInt (m_foot k) ≤ 99) (h_m_fork : ∀ k : Nat, 0 ≤ Int32.toInt (m_fork k) ∧ Int32.toInt (m_fork k) ≤ 99) (h_m_text : ∀ k : Nat, -128 ≤ Int32.toInt (m_text k) ∧ Int32.toInt (m_text k) ≤ 127) (e0_m_newFruits : ∀ k : Nat, k % 4 = 0 → 0 ≤ Int32.toInt (m_newFruits k) ∧ Int32.toInt (m_newFruits k) ≤ 99) (e1_m_newFruits : ∀ k : Nat, k % 4 = 1 → 0 ≤ Int32.toInt (m_newFruits k) ∧ Int32.toInt (m_newFruits k) ≤ 99) (e2_m_newFruits : ∀ k : Nat, k % 4 = 2 → 0 ≤ Int32.toInt (m_newFruits k) ∧ Int32.toInt (m_newFruits k) ≤ 9) (e3_m_newFruits : ∀ k : Nat, k % 4 = 3 → 0 ≤ Int32.toInt (m_newFruits k) ∧ Int32.toInt (m_newFruits k) ≤ 9) (h_m_newFruits : ∀ k : Nat, 0 ≤ Int32.toInt (m_newFruits k) ∧ Int32.toInt (m_newFruits k) ≤ 99) (h_m_newStandings : ∀ k : Nat, 0 ≤ Int32.toInt (m_newStandings k) ∧ Int32.toInt (m_newStandings k) ≤ 99) (h_m_rule : ∀ k : Nat, -128 ≤ Int32.toInt (m_rule k) ∧ Int32.toInt (m_rule k) ≤ 127) (hc0 : -1 ≤ SB ∧ SB ≤ 7) (hpost : ∀ (r : Int32) (m_fruits' : Int32) (m_standings' : Int32) (m_typed' : Int32) (m_thrown' : Int32) (m_read' : Nat) (m_length' : Int32) (m_top' : Int32) (m_at' : Int32) (m_wrong' : Int32) (m_newFruitMany' : Int32) (m_newStandingMany' : Int32) (m_undoMany' : Int32) (m_came' : Int32) (m_now' : Nat → Int32) (m_x' : Nat → Int32) (m_height' : Nat → Int32) (m_worth' : Nat → Int32) (m_ripe' : Nat → Int32) (m_foot' : Nat → Int32) (m_fork' : Nat → Int32) (m_newFruits' : Nat → Int32) (m_newStandings' : Nat → Int32), (-100 ≤ Int32.toInt r ∧ Int32.toInt r ≤ 24) → (0 ≤ Int32.toInt m_fruits' ∧ Int32.toInt m_fruits' ≤ 16) → (0 ≤ Int32.toInt m_standings' ∧ Int32.toInt m_standings' ≤ 8) → (0 ≤ Int32.toInt m_typed' ∧ Int32.toInt m_typed' ≤ 0) → (0 ≤ Int32.toInt m_thrown' ∧ Int32.toInt m_thrown' ≤ 0) → (m_read' = 1) → (0 ≤ Int32.toInt m_length' ∧ Int32.toInt m_length' ≤ 80) → (76 ≤ Int32.toInt m_top' ∧ Int32.toInt m_top' ≤ 76) → (0 ≤ Int32.toInt m_at' ∧ Int32.toInt m_at' ≤ 80) → (-1 ≤ Int32.toInt m_wrong' ∧ Int32.toInt m_wrong' ≤ 80) → (0 ≤ Int32.toInt m_newFruitMany' ∧ Int32.toInt m_newFruitMany' ≤ 16) → (0 ≤ Int32.toInt m_newStandingMany' ∧ Int32.toInt m_newStandingMany' ≤ 8) → (0 ≤ Int32.toInt m_undoMany' ∧ Int32.toInt m_undoMany' ≤ 12) → (∀ k : Nat, k = 17 → -1 ≤ Int32.toInt (m_now' k) ∧ Int32.toInt (m_now' k) ≤ SB) → (∀ k : Nat, k = 19 → 0 ≤ Int32.toInt (m_now' k) ∧ Int32.toInt (m_now' k) ≤ 9) → (∀ k : Nat, 0 ≤ Int32.toInt (m_x' k) ∧ Int32.toInt (m_x' k) ≤ 99) → (∀ k : Nat, 0 ≤ Int32.toInt (m_height' k) ∧ Int32.toInt (m_height' k) ≤ 99) → (∀ k : Nat, 0 ≤ Int32.toInt (m_worth' k) ∧ Int32.toInt (m_worth' k) ≤ 9) → (∀ k : Nat, 0 ≤ Int32.toInt (m_ripe' k) ∧ Int32.toInt (m_ripe' k) ≤ 9) → (∀ k : Nat, 0 ≤ Int32.toInt (m_foot' k) ∧ Int32.toInt (m_foot' k) ≤ 99) → (∀ k : Nat, 0 ≤ Int32.toInt (m_fork' k) ∧ Int32.toInt (m_fork' k) ≤ 99) → (∀ k : Nat, k % 4 = 0 → 0 ≤ Int32.toInt (m_newFruits' k) ∧ Int32.toInt (m_newFruits' k) ≤ 99) → (∀ k : Nat, k % 4 = 1 → 0 ≤ Int32.toInt (m_newFruits' k) ∧ Int32.toInt (m_newFruits' k) ≤ 99) → (∀ k : Nat, k % 4 = 2 → 0 ≤ Int32.toInt (m_newFruits' k) ∧ Int32.toInt (m_newFruits' k) ≤ 9) → (∀ k : Nat, k % 4 = 3 → 0 ≤ Int32.toInt (m_newFruits' k) ∧ Int32.toInt (m_newFruits' k) ≤ 9) → (∀ k : Nat, 0 ≤ Int32.toInt (m_newFruits' k) ∧ Int32.toInt (m_newFruits' k) ≤ 99) → (∀ k : Nat, 0 ≤ Int32.toInt (m_newStandings' k) ∧ Int32.toInt (m_newStandings' k) ≤ 99) → (Int32.toInt m_standings ≤ Int32.toInt m_standings') → post r m_fruits' m_standings' m_typed' m_thrown' m_read' m_length' m_top' m_at' m_wrong' m_newFruitMany' m_newStandingMany' m_undoMany' m_came' m_now' m_x' m_height' m_worth' m_ripe' m_foot' m_fork' m_newFruits' m_newStandings') : wp_X10_orchard post m_fruits m_standings m_typed m_thrown m_read m_length m_top m_at m_wrong m_newFruitMany m_newStandingMany m_undoMany m_came m_now m_x m_height m_worth m_ripe m_foot m_fork m_text m_newFruits m_newStandings m_rule := by
  have l0 : Int32.toInt ((-1) : Int32) = -1 := (by decide)
  have l1 : Int32.toInt (0 : Int32) = 0 := (by decide)
  have l2 : Int32.toInt (1 : Int32) = 1 := (by decide)
  have l3 : Int32.toInt (76 : Int32) = 76 := (by decide)
  refine And.intro (fun c89 => ?_) (fun c89 => ?_)
  · skip
    have c89 := mt (fa_eq _ _).mpr c89
    have f90 := tp_r m_came
    exact ⟨83, tb_X10_orchard_45 m_text m_rule h_m_text h_m_rule hc0 hpost _ 1 m_fruits m_standings 0 0 1 m_typed 76 0 (-1) 0 0 m_undoMany m_came m_now m_x m_height m_worth m_ripe m_foot m_fork m_newFruits m_newStandings (by omega) (by omega) (by omega) (by omega) (by omega) (by first | exact h_m_read | exact Or.inl rfl | exact Or.inr rfl | omega) (by omega) (by omega) (by omega) (by omega) (by omega) (by omega) (by omega) e0_m_now e1_m_now (fun k => by have q9 := h_m_x k; omega) (fun k => by have q9 := h_m_height k; omega) (fun k => by have q9 := h_m_worth k; omega) (fun k => by have q9 := h_m_ripe k; omega) (fun k => by have q9 := h_m_foot k; omega) (fun k => by have q9 := h_m_fork k; omega) e0_m_newFruits e1_m_newFruits e2_m_newFruits e3_m_newFruits (fun k => by have q9 := h_m_newFruits k; omega) (fun k => by have q9 := h_m_newStandings k; omega) (by omega) (by omega) (by omega) (by omega)⟩
  · skip
    have c89 := (fa_eq _ _).mp c89
    exact hpost _ _ _ _ _ _ _ _ _ _ _ _ _ _ _ _ _ _ _ _ _ _ _ (by omega) (by omega) (by omega) (by omega) (by omega) (by first | exact h_m_read | exact Or.inl rfl | exact Or.inr rfl | omega) (by omega) (by omega) (by omega) (by omega) (by omega) (by omega) (by omega) e0_m_now e1_m_now (fun k => by have q9 := h_m_x k; omega) (fun k => by have q9 := h_m_height k; omega) (fun k => by have q9 := h_m_worth k; omega) (fun k => by have q9 := h_m_ripe k; omega) (fun k => by have q9 := h_m_foot k; omega) (fun k => by have q9 := h_m_fork k; omega) e0_m_newFruits e1_m_newFruits e2_m_newFruits e3_m_newFruits (fun k => by have q9 := h_m_newFruits k; omega) (fun k => by have q9 := h_m_newStandings k; omega) (by omega)
