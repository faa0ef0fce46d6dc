theorem du_X9_day {P Q : Int32 → (Nat → Int32) → Int32 → Int32 → Int32 → Int32 → Int32 → Int32 → Int32 → Int32 → Int32 → Int32 → Int32 → (Nat → Int32) → (Nat → Int32) → Int32 → Int32 → (Nat → Int32) → Int32 → (Nat → Int32) → Prop} {x_acts : Nat → Int32} {tx_length : Int32} {tx_place : Int32} {tx_stop : Int32} {tx_signs : Nat → Int32} {tr_fruits : Int32} {tr_standings : Int32} {tr_x : Nat → Int32} {tr_height : Nat → Int32} {tr_worth : Nat → Int32} {tr_ripe : Nat → Int32} {tr_foot : Nat → Int32} {tr_fork : Nat → Int32} {tr_settings : Nat → Int32} {no_apron : Int32} {no_basket : Int32} {no_ground : Int32} {no_bruised : Int32} {no_ladder : Int32} {no_helper : Int32} {no_today : Int32} {no_clock : Int32} {ru_length : Int32} {ru_given : Nat → Int32} {ru_stack : Nat → Int32} {ru_program : Nat → Int32} {pa_undoable : Int32} {pa_free : Int32} {pa_cells : Nat → Int32} {ro_size : Int32} {ro_numbers : Nat → Int32} (h : wp_X9_day P x_acts tx_length tx_place tx_stop tx_signs tr_fruits tr_standings tr_x tr_height tr_worth tr_ripe tr_foot tr_fork tr_settings no_apron no_basket no_ground no_bruised no_ladder no_helper no_today no_clock ru_length ru_given ru_stack ru_program pa_undoable pa_free pa_cells ro_size ro_numbers) (hq : P (F_X9_day x_acts tx_length tx_place tx_stop tx_signs tr_fruits tr_standings tr_x tr_height tr_worth tr_ripe tr_foot tr_fork tr_settings no_apron no_basket no_ground no_bruised no_ladder no_helper no_today no_clock ru_length ru_given ru_stack ru_program pa_undoable pa_free pa_cells ro_size ro_numbers).1 (F_X9_day x_acts tx_length tx_place tx_stop tx_signs tr_fruits tr_standings tr_x tr_height tr_worth tr_ripe tr_foot tr_fork tr_settings no_apron no_basket no_ground no_bruised no_ladder no_helper no_today no_clock ru_length ru_given ru_stack ru_program pa_undoable pa_free pa_cells ro_size ro_numbers).2.1 (F_X9_day x_acts tx_length tx_place tx_stop tx_signs tr_fruits tr_standings tr_x tr_height tr_worth tr_ripe tr_foot tr_fork tr_settings no_apron no_basket no_ground no_bruised no_ladder no_helper no_today no_clock ru_length ru_given ru_stack ru_program pa_undoable pa_free pa_cells ro_size ro_numbers).2.2.1 (F_X9_day x_acts tx_length tx_place tx_stop tx_signs tr_fruits tr_standings tr_x tr_height tr_worth tr_ripe tr_foot tr_fork tr_settings no_apron no_basket no_ground no_bruised no_ladder no_helper no_today no_clock ru_length ru_given ru_stack ru_program pa_undoable pa_free pa_cells ro_size ro_numbers).2.2.2.1 (F_X9_day x_acts tx_length tx_place tx_stop tx_signs tr_fruits tr_standings tr_x tr_height tr_worth tr_ripe tr_foot tr_fork tr_settings no_apron no_basket no_ground no_bruised no_ladder no_helper no_today no_clock ru_length ru_given ru_stack ru_program pa_undoable pa_free pa_cells ro_size ro_numbers).2.2.2.2.1 (F_X9_day x_acts tx_length tx_place tx_stop tx_signs tr_fruits tr_standings tr_x tr_height tr_worth tr_ripe tr_foot tr_fork tr_settings no_apron no_basket no_ground no_bruised no_ladder no_helper no_today no_clock ru_length ru_given ru_stack ru_program pa_undoable pa_free pa_cells ro_size ro_numbers).2.2.2.2.2.1 (F_X9_day x_acts tx_length tx_place tx_stop tx_signs tr_fruits tr_standings tr_x tr_height tr_worth tr_ripe tr_foot tr_fork tr_settings no_apron no_basket no_ground no_bruised no_ladder no_helper no_today no_clock ru_length ru_given ru_stack ru_program pa_undoable pa_free pa_cells ro_size ro_numbers).2.2.2.2.2.2.1 (F_X9_day x_acts tx_length tx_place tx_stop tx_signs tr_fruits tr_standings tr_x tr_height tr_worth tr_ripe tr_foot tr_fork tr_settings no_apron no_basket no_ground no_bruised no_ladder no_helper no_today no_clock ru_length ru_given ru_stack ru_program pa_undoable pa_free pa_cells ro_size ro_numbers).2.2.2.2.2.2.2.1 (F_X9_day x_acts tx_length tx_place tx_stop tx_signs tr_fruits tr_standings tr_x tr_height tr_worth tr_ripe tr_foot tr_fork tr_settings no_apron no_basket no_ground no_bruised no_ladder no_helper no_today no_clock ru_length ru_given ru_stack ru_program pa_undoable pa_free pa_cells ro_size ro_numbers).2.2.2.2.2.2.2.2.1 (F_X9_day x_acts tx_length tx_place tx_stop tx_signs tr_fruits tr_standings tr_x tr_height tr_worth tr_ripe tr_foot tr_fork tr_settings no_apron no_basket no_ground no_bruised no_ladder no_helper no_today no_clock ru_length ru_given ru_stack ru_program pa_undoable pa_free pa_cells ro_size ro_numbers).2.2.2.2.2.2.2.2.2.1 (F_X9_day x_acts tx_length tx_place tx_stop tx_signs tr_fruits tr_standings tr_x tr_height tr_worth tr_ripe tr_foot tr_fork tr_settings no_apron no_basket no_ground no_bruised no_ladder no_helper no_today no_clock ru_length ru_given ru_stack ru_program pa_undoable pa_free pa_cells ro_size ro_numbers).2.2.2.2.2.2.2.2.2.2.1 (F_X9_day x_acts tx_length tx_place tx_stop tx_signs tr_fruits tr_standings tr_x tr_height tr_worth tr_ripe tr_foot tr_fork tr_settings no_apron no_basket no_ground no_bruised no_ladder no_helper no_today no_clock ru_length ru_given ru_stack ru_program pa_undoable pa_free pa_cells ro_size ro_numbers).2.2.2.2.2.2.2.2.2.2.2.1 (F_X9_day x_acts tx_length tx_place tx_stop tx_signs tr_fruits tr_standings tr_x tr_height tr_worth tr_ripe tr_foot tr_fork tr_settings no_apron no_basket no_ground no_bruised no_ladder no_helper no_today no_clock ru_length ru_given ru_stack ru_program pa_undoable pa_free pa_cells ro_size ro_numbers).2.2.2.2.2.2.2.2.2.2.2.2.1 (F_X9_day x_acts tx_length tx_place tx_stop tx_signs tr_fruits tr_standings tr_x tr_height tr_worth tr_ripe tr_foot tr_fork tr_settings no_apron no_basket no_ground no_bruised no_ladder no_helper no_today no_clock ru_length ru_given ru_stack ru_program pa_undoable pa_free pa_cells ro_size ro_numbers).2.2.2.2.2.2.2.2.2.2.2.2.2.1 (F_X9_day x_acts tx_length tx_place tx_stop tx_signs tr_fruits tr_standings tr_x tr_height tr_worth tr_ripe tr_foot tr_fork tr_settings no_apron no_basket no_ground no_bruised no_ladder no_helper no_today no_clock ru_length ru_given ru_stack ru_program pa_undoable pa_free pa_cells ro_size ro_numbers).2.2.2.2.2.2.2.2.2.2.2.2.2.2.1 (F_X9_day x_acts tx_length tx_place tx_stop tx_signs tr_fruits tr_standings tr_x tr_height tr_worth tr_ripe tr_foot tr_fork tr_settings no_apron no_basket no_ground no_bruised no_ladder no_helper no_today no_clock ru_length ru_given ru_stack ru_program pa_undoable pa_free pa_cells ro_size ro_numbers).2.2.2.2.2.2.2.2.2.2.2.2.2.2.2.1 (F_X9_day x_acts tx_length tx_place tx_stop tx_signs tr_fruits tr_standings tr_x tr_height tr_worth tr_ripe tr_foot tr_fork tr_settings no_apron no_basket no_ground no_bruised no_ladder no_helper no_today no_clock ru_length ru_given ru_stack ru_program pa_undoable pa_free pa_cells ro_size ro_numbers).2.2.2.2.2.2.2.2.2.2.2.2.2.2.2.2.1 (F_X9_day x_acts tx_length tx_place tx_stop tx_signs tr_fruits tr_standings tr_x tr_height tr_worth tr_ripe tr_foot tr_fork tr_settings no_apron no_basket no_ground no_bruised no_ladder no_helper no_today no_clock ru_length ru_given ru_stack ru_program pa_undoable pa_free pa_cells ro_size ro_numbers).2.2.2.2.2.2.2.2.2.2.2.2.2.2.2.2.2.1 (F_X9_day x_acts tx_length tx_place tx_stop tx_signs tr_fruits tr_standings tr_x tr_height tr_worth tr_ripe tr_foot tr_fork tr_settings no_apron no_basket no_ground no_bruised no_ladder no_helper no_today no_clock ru_length ru_given ru_stack ru_program pa_undoable pa_free pa_cells ro_size ro_numbers).2.2.2.2.2.2.2.2.2.2.2.2.2.2.2.2.2.2.1 (F_X9_day x_acts tx_length tx_place tx_stop tx_signs tr_fruits tr_standings tr_x tr_height tr_worth tr_ripe tr_foot tr_fork tr_settings no_apron no_basket no_ground no_bruised no_ladder no_helper no_today no_clock ru_length ru_given ru_stack ru_program pa_undoable pa_free pa_cells ro_size ro_numbers).2.2.2.2.2.2.2.2.2.2.2.2.2.2.2.2.2.2.2 → Q (F_X9_day x_acts tx_length tx_place tx_stop tx_signs tr_fruits tr_standings tr_x tr_height tr_worth tr_ripe tr_foot tr_fork tr_settings no_apron no_basket no_ground no_bruised no_ladder no_helper no_today no_clock ru_length ru_given ru_stack ru_program pa_undoable pa_free pa_cells ro_size ro_numbers).1 (F_X9_day x_acts tx_length tx_place tx_stop tx_signs tr_fruits tr_standings tr_x tr_height tr_worth tr_ripe tr_foot tr_fork tr_settings no_apron no_basket no_ground no_bruised no_ladder no_helper no_today no_clock ru_length ru_given ru_stack ru_program pa_undoable pa_free pa_cells ro_size ro_numbers).2.1 (F_X9_day x_acts tx_length tx_place tx_stop tx_signs tr_fruits tr_standings tr_x tr_height tr_worth tr_ripe tr_foot tr_fork tr_settings no_apron no_basket no_ground no_bruised no_ladder no_helper no_today no_clock ru_length ru_given ru_stack ru_program pa_undoable pa_free pa_cells ro_size ro_numbers).2.2.1 (F_X9_day x_acts tx_length tx_place tx_stop tx_signs tr_fruits tr_standings tr_x tr_height tr_worth tr_ripe tr_foot tr_fork tr_settings no_apron no_basket no_ground no_bruised no_ladder no_helper no_today no_clock ru_length ru_given ru_stack ru_program pa_undoable pa_free pa_cells ro_size ro_numbers).2.2.2.1 (F_X9_day x_acts tx_length tx_place tx_stop tx_signs tr_fruits tr_standings tr_x tr_height tr_worth tr_ripe tr_foot tr_fork tr_settings no_apron no_basket no_ground no_bruised no_ladder no_helper no_today no_clock ru_length ru_given ru_stack ru_program pa_undoable pa_free pa_cells ro_size ro_numbers).2.2.2.2.1 (F_X9_day x_acts tx_length tx_place tx_stop tx_signs tr_fruits tr_standings tr_x tr_height tr_worth tr_ripe tr_foot tr_fork tr_settings no_apron no_basket no_ground no_bruised no_ladder no_helper no_today no_clock ru_length ru_given ru_stack ru_program pa_undoable pa_free pa_cells ro_size ro_numbers).2.2.2.2.2.1 (F_X9_day x_acts tx_length tx_place tx_stop tx_signs tr_fruits tr_standings tr_x tr_height tr_worth tr_ripe tr_foot tr_fork tr_settings no_apron no_basket no_ground no_bruised no_ladder no_helper no_today no_clock ru_length ru_given ru_stack ru_program pa_undoable pa_free pa_cells ro_size ro_numbers).2.2.2.2.2.2.1 (F_X9_day x_acts tx_length tx_place tx_stop tx_signs tr_fruits tr_standings tr_x tr_height tr_worth tr_ripe tr_foot tr_fork tr_settings no_apron no_basket no_ground no_bruised no_ladder no_helper no_today no_clock ru_length ru_given ru_stack ru_program pa_undoable pa_free pa_cells ro_size ro_numbers).2.2.2.2.2.2.2.1 (F_X9_day x_acts tx_length tx_place tx_stop tx_signs tr_fruits tr_standings tr_x tr_height tr_worth tr_ripe tr_foot tr_fork tr_settings no_apron no_basket no_ground no_bruised no_ladder no_helper no_today no_clock ru_length ru_given ru_stack ru_program pa_undoable pa_free pa_cells ro_size ro_numbers).2.2.2.2.2.2.2.2.1 (F_X9_day x_acts tx_length tx_place tx_stop tx_signs tr_fruits tr_standings tr_x tr_height tr_worth tr_ripe tr_foot tr_fork tr_settings no_apron no_basket no_ground no_bruised no_ladder no_helper no_today no_clock ru_length ru_given ru_stack ru_program pa_undoable pa_free pa_cells ro_size ro_numbers).2.2.2.2.2.2.2.2.2.1 (F_X9_day x_acts tx_length tx_place tx_stop tx_signs tr_fruits tr_standings tr_x tr_height tr_worth tr_ripe tr_foot tr_fork tr_settings no_apron no_basket no_ground no_bruised no_ladder no_helper no_today no_clock ru_length ru_given ru_stack ru_program pa_undoable pa_free pa_cells ro_size ro_numbers).2.2.2.2.2.2.2.2.2.2.1 (F_X9_day x_acts tx_length tx_place tx_stop tx_signs tr_fruits tr_standings tr_x tr_height tr_worth tr_ripe tr_foot tr_fork tr_settings no_apron no_basket no_ground no_bruised no_ladder no_helper no_today no_clock ru_length ru_given ru_stack ru_program pa_undoable pa_free pa_cells ro_size ro_numbers).2.2.2.2.2.2.2.2.2.2.2.1 (F_X9_day x_acts tx_length tx_place tx_stop tx_signs tr_fruits tr_standings tr_x tr_height tr_worth tr_ripe tr_foot tr_fork tr_settings no_apron no_basket no_ground no_bruised no_ladder no_helper no_today no_clock ru_length ru_given ru_stack ru_program pa_undoable pa_free pa_cells ro_size ro_numbers).2.2.2.2.2.2.2.2.2.2.2.2.1 (F_X9_day x_acts tx_length tx_place tx_stop tx_signs tr_fruits tr_standings tr_x tr_height tr_worth tr_ripe tr_foot tr_fork tr_settings no_apron no_basket no_ground no_bruised no_ladder no_helper no_today no_clock ru_length ru_given ru_stack ru_program pa_undoable pa_free pa_cells ro_size ro_numbers).2.2.2.2.2.2.2.2.2.2.2.2.2.1 (F_X9_day x_acts tx_length tx_place tx_stop tx_signs tr_fruits tr_standings tr_x tr_height tr_worth tr_ripe tr_foot tr_fork tr_settings no_apron no_basket no_ground no_bruised no_ladder no_helper no_today no_clock ru_length ru_given ru_stack ru_program pa_undoable pa_free pa_cells ro_size ro_numbers).2.2.2.2.2.2.2.2.2.2.2.2.2.2.1 (F_X9_day x_acts tx_length tx_place tx_stop tx_signs tr_fruits tr_standings tr_x tr_height tr_worth tr_ripe tr_foot tr_fork tr_settings no_apron no_basket no_ground no_bruised no_ladder no_helper no_today no_clock ru_length ru_given ru_stack ru_program pa_undoable pa_free pa_cells ro_size ro_numbers).2.2.2.2.2.2.2.2.2.2.2.2.2.2.2.1 (F_X9_day x_acts tx_length tx_place tx_stop tx_signs tr_fruits tr_standings tr_x tr_height tr_worth tr_ripe tr_foot tr_fork tr_settings no_apron no_basket no_ground no_bruised no_ladder no_helper no_today no_clock ru_length ru_given ru_stack ru_program pa_undoable pa_free pa_cells ro_size ro_numbers).2.2.2.2.2.2.2.2.2.2.2.2.2.2.2.2.1 (F_X9_day x_acts tx_length tx_place tx_stop tx_signs tr_fruits tr_standings tr_x tr_height tr_worth tr_ripe tr_foot tr_fork tr_settings no_apron no_basket no_ground no_bruised no_ladder no_helper no_today no_clock ru_length ru_given ru_stack ru_program pa_undoable pa_free pa_cells ro_size ro_numbers).2.2.2.2.2.2.2.2.2.2.2.2.2.2.2.2.2.1 (F_X9_day x_acts tx_length tx_place tx_stop tx_signs tr_fruits tr_standings tr_x tr_height tr_worth tr_ripe tr_foot tr_fork tr_settings no_apron no_basket no_ground no_bruised no_ladder no_helper no_today no_clock ru_length ru_given ru_stack ru_program pa_undoable pa_free pa_cells ro_size ro_numbers).2.2.2.2.2.2.2.2.2.2.2.2.2.2.2.2.2.2.1 (F_X9_day x_acts tx_length tx_place tx_stop tx_signs tr_fruits tr_standings tr_x tr_height tr_worth tr_ripe tr_foot tr_fork tr_settings no_apron no_basket no_ground no_bruised no_ladder no_helper no_today no_clock ru_length ru_given ru_stack ru_program pa_undoable pa_free pa_cells ro_size ro_numbers).2.2.2.2.2.2.2.2.2.2.2.2.2.2.2.2.2.2.2) : wp_X9_day Q x_acts tx_length tx_place tx_stop tx_signs tr_fruits tr_standings tr_x tr_height tr_worth tr_ripe tr_foot tr_fork tr_settings no_apron no_basket no_ground no_bruised no_ladder no_helper no_today no_clock ru_length ru_given ru_stack ru_program pa_undoable pa_free pa_cells ro_size ro_numbers := dt_X9_day h (fun o eo => by rw [eo]; exact hq)
theorem dw_X9_day {Q : Int32 → (Nat → Int32) → Int32 → Int32 → Int32 → Int32 → Int32 → Int32 → Int32 → Int32 → Int32 → Int32 → Int32 → (Nat → Int32) → (Nat → Int32) → Int32 → Int32 → (Nat → Int32) → Int32 → (Nat → Int32) → Prop} {x_acts : Nat → Int32} {tx_length : Int32} {tx_place : Int32} {tx_stop : Int32} {tx_signs : Nat → Int32} {tr_fruits : Int32} {tr_standings : Int32} {tr_x : Nat → Int32} {tr_height : Nat → Int32} {tr_worth : Nat → Int32} {tr_ripe : Nat → Int32} {tr_foot : Nat → Int32} {tr_fork : Nat → Int32} {tr_settings : Nat → Int32} {no_apron : Int32} {no_basket : Int32} {no_ground : Int32} {no_bruised : Int32} {no_ladder : Int32} {no_helper : Int32} {no_today : Int32} {no_clock : Int32} {ru_length : Int32} {ru_given : Nat → Int32} {ru_stack : Nat → Int32} {ru_program : Nat → Int32} {pa_undoable : Int32} {pa_free : Int32} {pa_cells : Nat → Int32} {ro_size : Int32} {ro_numbers : Nat → Int32} (h : wp_X9_day (fun o0 o1 o2 o3 o4 o5 o6 o7 o8 o9 o10 o11 o12 o13 o14 o15 o16 o17 o18 o19 => (o0, o1, o2, o3, o4, o5, o6, o7, o8, o9, o10, o11, o12, o13, o14, o15, o16, o17, o18, o19) = F_X9_day x_acts tx_length tx_place tx_stop tx_signs tr_fruits tr_standings tr_x tr_height tr_worth tr_ripe tr_foot tr_fork tr_settings no_apron no_basket no_ground no_bruised no_ladder no_helper no_today no_clock ru_length ru_given ru_stack ru_program pa_undoable pa_free pa_cells ro_size ro_numbers → Q o0 o1 o2 o3 o4 o5 o6 o7 o8 o9 o10 o11 o12 o13 o14 o15 o16 o17 o18 o19) x_acts tx_length tx_place tx_stop tx_signs tr_fruits tr_standings tr_x tr_height tr_worth tr_ripe tr_foot tr_fork tr_settings no_apron no_basket no_ground no_bruised no_ladder no_helper no_today no_clock ru_length ru_given ru_stack ru_program pa_undoable pa_free pa_cells ro_size ro_numbers) : wp_X9_day Q x_acts tx_length tx_place tx_stop tx_signs tr_fruits tr_standings tr_x tr_height tr_worth tr_ripe tr_foot tr_fork tr_settings no_apron no_basket no_ground no_bruised no_ladder no_helper no_today no_clock ru_length ru_given ru_stack ru_program pa_undoable pa_free pa_cells ro_size ro_numbers := dt_X9_day h (fun o eo hp => hp eo)
noncomputable def F_X2_read (p1 : Int32) (no_apron : Int32) (no_basket : Int32) (no_ground : Int32) (no_bruised : Int32) (no_ladder : Int32) (no_helper : Int32) (no_today : Int32) (no_clock : Int32) (pa_cells : Nat → Int32) : Int32 × Int32 × Int32 × Int32 × Int32 × Int32 × Int32 × Int32 := if p1 < 0 then (no_apron, no_basket, no_ground, no_bruised, no_ladder, no_helper, no_today, no_clock) else (if p1 ≤ (104 - 8) then ((pa_cells p1.toNatClampNeg), (pa_cells (p1 + 1).toNatClampNeg), (pa_cells (p1 + 2).toNatClampNeg), (pa_cells (p1 + 3).toNatClampNeg), (pa_cells (p1 + 4).toNatClampNeg), (pa_cells (p1 + 5).toNatClampNeg), (pa_cells (p1 + 6).toNatClampNeg), (pa_cells (p1 + 7).toNatClampNeg)) else (no_apron, no_basket, no_ground, no_bruised, no_ladder, no_helper, no_today, no_clock))
set_option maxHeartbeats 200000 in
set_option maxRecDepth 10000 in
theorem dt_X2_read {P Q : Int32 → Int32 → Int32 → Int32 → Int32 → Int32 → Int32 → Int32 → Prop} {p1 : Int32} {no_apron : Int32} {no_basket : Int32} {no_ground : Int32} {no_bruised : Int32} {no_ladder : Int32} {no_helper : Int32} {no_today : Int32} {no_clock : Int32} {pa_cells : Nat → Int32} (h : wp_X2_read P p1 no_apron no_basket no_ground no_bruised no_ladder no_helper no_today no_clock pa_cells) (hq : ∀ o : Int32 × Int32 × Int32 × Int32 × Int32 × Int32 × Int32 × Int32, o = F_X2_read p1 no_apron no_basket no_ground no_bruised no_ladder no_helper no_today no_clock pa_cells → P o.1 o.2.1 o.2.2.1 o.2.2.2.1 o.2.2.2.2.1 o.2.2.2.2.2.1 o.2.2.2.2.2.2.1 o.2.2.2.2.2.2.2 → Q o.1 o.2.1 o.2.2.1 o.2.2.2.1 o.2.2.2.2.1 o.2.2.2.2.2.1 o.2.2.2.2.2.2.1 o.2.2.2.2.2.2.2) : wp_X2_read Q p1 no_apron no_basket no_ground no_bruised no_ladder no_helper no_today no_clock pa_cells := by
  rw [F_X2_read] at hq
  refine And.intro (fun c1 => ?_) (fun c1 => ?_)
  · have h := And.left h c1
    rw [if_pos c1] at hq
    have q9 := hq _ rfl
    dsimp only at q9
    exact q9 h
  · have h := And.right h c1
    rw [if_neg c1] at hq
    refine And.intro (fun c2 => ?_) (fun c2 => ?_)
    · have h := And.left h c2
      rw [if_pos c2] at hq
      refine And.intro (And.left h) ?_
      have h := And.right h
      refine ae ?_
      have h := h _ rfl
      refine ae ?_
      have h := h _ rfl
      refine And.intro (And.left h) ?_
      have h := And.right h
      refine ae ?_
      have h := h _ rfl
      refine ae ?_
      have h := h _ rfl
      refine And.intro (And.left h) ?_
      have h := And.right h
      refine ae ?_
      have h := h _ rfl
      refine ae ?_
      have h := h _ rfl
      refine And.intro (And.left h) ?_
      have h := And.right h
      refine ae ?_
      have h := h _ rfl
      refine ae ?_
      have h := h _ rfl
      refine And.intro (And.left h) ?_
      have h := And.right h
      refine ae ?_
      have h := h _ rfl
      refine ae ?_
      have h := h _ rfl
      refine And.intro (And.left h) ?_
      have h := And.right h
      refine ae ?_
      have h := h _ rfl
      refine ae ?_
      have h := h _ rfl
      refine And.intro (And.left h) ?_
      have h := And.right h
      refine ae ?_
      have h := h _ rfl
      refine ae ?_
      have h := h _ rfl
      refine And.intro (And.left h) ?_
      have h := And.right h
      refine ae ?_
      have h := h _ rfl
      have q9 := hq _ rfl
      dsimp only at q9
      exact q9 h
    · have h := And.right h c2
      rw [if_neg c2] at hq
      have q9 := hq _ rfl
      dsimp only at q9
      exact q9 h
theorem du_X2_read {P Q : Int32 → Int32 → Int32 → Int32 → Int32 → Int32 → Int32 → Int32 → Prop} {p1 : Int32} {no_apron : Int32} {no_basket : Int32} {no_ground : Int32} {no_bruised : Int32} {no_ladder : Int32} {no_helper : Int32} {no_today : Int32} {no_clock : Int32} {pa_cells : Nat → Int32} (h : wp_X2_read P p1 no_apron no_basket no_ground no_bruised no_ladder no_helper no_today no_clock pa_cells) (hq : P (F_X2_read p1 no_apron no_basket no_ground no_bruised no_ladder no_helper no_today no_clock pa_cells).1 (F_X2_read p1 no_apron no_basket no_ground no_bruised no_ladder no_helper no_today no_clock pa_cells).2.1 (F_X2_read p1 no_apron no_basket no_ground no_bruised no_ladder no_helper no_today no_clock pa_cells).2.2.1 (F_X2_read p1 no_apron no_basket no_ground no_bruised no_ladder no_helper no_today no_clock pa_cells).2.2.2.1 (F_X2_read p1 no_apron no_basket no_ground no_bruised no_ladder no_helper no_today no_clock pa_cells).2.2.2.2.1 (F_X2_read p1 no_apron no_basket no_ground no_bruised no_ladder no_helper no_today no_clock pa_cells).2.2.2.2.2.1 (F_X2_read p1 no_apron no_basket no_ground no_bruised no_ladder no_helper no_today no_clock pa_cells).2.2.2.2.2.2.1 (F_X2_read p1 no_apron no_basket no_ground no_bruised no_ladder no_helper no_today no_clock pa_cells).2.2.2.2.2.2.2 → Q (F_X2_read p1 no_apron no_basket no_ground no_bruised no_ladder no_helper no_today no_clock pa_cells).1 (F_X2_read p1 no_apron no_basket no_ground no_bruised no_ladder no_helper no_today no_clock pa_cells).2.1 (F_X2_read p1 no_apron no_basket no_ground no_bruised no_ladder no_helper no_today no_clock pa_cells).2.2.1 (F_X2_read p1 no_apron no_basket no_ground no_bruised no_ladder no_helper no_today no_clock pa_cells).2.2.2.1 (F_X2_read p1 no_apron no_basket no_ground no_bruised no_ladder no_helper no_today no_clock pa_cells).2.2.2.2.1 (F_X2_read p1 no_apron no_basket no_ground no_bruised no_ladder no_helper no_today no_clock pa_cells).2.2.2.2.2.1 (F_X2_read p1 no_apron no_basket no_ground no_bruised no_ladder no_helper no_today no_clock pa_cells).2.2.2.2.2.2.1 (F_X2_read p1 no_apron no_basket no_ground no_bruised no_ladder no_helper no_today no_clock pa_cells).2.2.2.2.2.2.2) : wp_X2_read Q p1 no_apron no_basket no_ground no_bruised no_ladder no_helper no_today no_clock pa_cells := dt_X2_read h (fun o eo => by rw [eo]; exact hq)
noncomputable def F_X4_goBack (no_apron : Int32) (no_basket : Int32) (no_ground : Int32) (no_bruised : Int32) (no_ladder : Int32) (no_helper : Int32) (no_today : Int32) (no_clock : Int32) (pa_undoable : Int32) (pa_free : Int32) (pa_cells : Nat → Int32) : Int32 × Int32 × Int32 × Int32 × Int32 × Int32 × Int32 × Int32 × Int32 × Int32 := ((F_X2_read ((((pa_free + 13) - 1) - ((pa_free + 13) - 1) / 13 * 13) * 8) no_apron no_basket no_ground no_bruised no_ladder no_helper no_today no_clock pa_cells).1, (F_X2_read ((((pa_free + 13) - 1) - ((pa_free + 13) - 1) / 13 * 13) * 8) no_apron no_basket no_ground no_bruised no_ladder no_helper no_today no_clock pa_cells).2.1, (F_X2_read ((((pa_free + 13) - 1) - ((pa_free + 13) - 1) / 13 * 13) * 8) no_apron no_basket no_ground no_bruised no_ladder no_helper no_today no_clock pa_cells).2.2.1, (F_X2_read ((((pa_free + 13) - 1) - ((pa_free + 13) - 1) / 13 * 13) * 8) no_apron no_basket no_ground no_bruised no_ladder no_helper no_today no_clock pa_cells).2.2.2.1, (F_X2_read ((((pa_free + 13) - 1) - ((pa_free + 13) - 1) / 13 * 13) * 8) no_apron no_basket no_ground no_bruised no_ladder no_helper no_today no_clock pa_cells).2.2.2.2.1, (F_X2_read ((((pa_free + 13) - 1) - ((pa_free + 13) - 1) / 13 * 13) * 8) no_apron no_basket no_ground no_bruised no_ladder no_helper no_today no_clock pa_cells).2.2.2.2.2.1, (F_X2_read ((((pa_free + 13) - 1) - ((pa_free + 13) - 1) / 13 * 13) * 8) no_apron no_basket no_ground no_bruised no_ladder no_helper no_today no_clock pa_cells).2.2.2.2.2.2.1, (F_X2_read ((((pa_free + 13) - 1) - ((pa_free + 13) - 1) / 13 * 13) * 8) no_apron no_basket no_ground no_bruised no_ladder no_helper no_today no_clock pa_cells).2.2.2.2.2.2.2, (pa_undoable - 1), (((pa_free + 13) - 1) - ((pa_free + 13) - 1) / 13 * 13))
set_option maxHeartbeats 200000 in
set_option maxRecDepth 10000 in
theorem dt_X4_goBack {P Q : Int32 → Int32 → Int32 → Int32 → Int32 → Int32 → Int32 → Int32 → Int32 → Int32 → Prop} {no_apron : Int32} {no_basket : Int32} {no_ground : Int32} {no_bruised : Int32} {no_ladder : Int32} {no_helper : Int32} {no_today : Int32} {no_clock : Int32} {pa_undoable : Int32} {pa_free : Int32} {pa_cells : Nat → Int32} (h : wp_X4_goBack P no_apron no_basket no_ground no_bruised no_ladder no_helper no_today no_clock pa_undoable pa_free pa_cells) (hq : ∀ o : Int32 × Int32 × Int32 × Int32 × Int32 × Int32 × Int32 × Int32 × Int32 × Int32, o = F_X4_goBack no_apron no_basket no_ground no_bruised no_ladder no_helper no_today no_clock pa_undoable pa_free pa_cells → P o.1 o.2.1 o.2.2.1 o.2.2.2.1 o.2.2.2.2.1 o.2.2.2.2.2.1 o.2.2.2.2.2.2.1 o.2.2.2.2.2.2.2.1 o.2.2.2.2.2.2.2.2.1 o.2.2.2.2.2.2.2.2.2 → Q o.1 o.2.1 o.2.2.1 o.2.2.2.1 o.2.2.2.2.1 o.2.2.2.2.2.1 o.2.2.2.2.2.2.1 o.2.2.2.2.2.2.2.1 o.2.2.2.2.2.2.2.2.1 o.2.2.2.2.2.2.2.2.2) : wp_X4_goBack Q no_apron no_basket no_ground no_bruised no_ladder no_helper no_today no_clock pa_undoable pa_free pa_cells := by
  rw [F_X4_goBack] at hq
  refine ae ?_
  have h := h _ rfl
  refine ae ?_
  have h := h _ rfl
  refine ae ?_
  have h := h _ rfl
  refine ae ?_
  have h := h _ rfl
  refine ae ?_
  have h := h _ rfl
  refine du_X2_read h ?_
  intro h
  have q9 := hq _ rfl
  dsimp only at q9
  exact q9 h
theorem du_X4_goBack {P Q : Int32 → Int32 → Int32 → Int32 → Int32 → Int32 → Int32 → Int32 → Int32 → Int32 → Prop} {no_apron : Int32} {no_basket : Int32} {no_ground : Int32} {no_bruised : Int32} {no_ladder : Int32} {no_helper : Int32} {no_today : Int32} {no_clock : Int32} {pa_undoable : Int32} {pa_free : Int32} {pa_cells : Nat → Int32} (h : wp_X4_goBack P no_apron no_basket no_ground no_bruised no_ladder no_helper no_today no_clock pa_undoable pa_free pa_cells) (hq : P (F_X4_goBack no_apron no_basket no_ground no_bruised no_ladder no_helper no_today no_clock pa_undoable pa_free pa_cells).1 (F_X4_goBack no_apron no_basket no_ground no_bruised no_ladder no_helper no_today no_clock pa_undoable pa_free pa_cells).2.1 (F_X4_goBack no_apron no_basket no_ground no_bruised no_ladder no_helper no_today no_clock pa_undoable pa_free pa_cells).2.2.1 (F_X4_goBack no_apron no_basket no_ground no_bruised no_ladder no_helper no_today no_clock pa_undoable pa_free pa_cells).2.2.2.1 (F_X4_goBack no_apron no_basket no_ground no_bruised no_ladder no_helper no_today no_clock pa_undoable pa_free pa_cells).2.2.2.2.1 (F_X4_goBack no_apron no_basket no_ground no_bruised no_ladder no_helper no_today no_clock pa_undoable pa_free pa_cells).2.2.2.2.2.1 (F_X4_goBack no_apron no_basket no_ground no_bruised no_ladder no_helper no_today no_clock pa_undoable pa_free pa_cells).2.2.2.2.2.2.1 (F_X4_goBack no_apron no_basket no_ground no_bruised no_ladder no_helper no_today no_clock pa_undoable pa_free pa_cells).2.2.2.2.2.2.2.1 (F_X4_goBack no_apron no_basket no_ground no_bruised no_ladder no_helper no_today no_clock pa_undoable pa_free pa_cells).2.2.2.2.2.2.2.2.1 (F_X4_goBack no_apron no_basket no_ground no_bruised no_ladder no_helper no_today no_clock pa_undoable pa_free pa_cells).2.2.2.2.2.2.2.2.2 → Q (F_X4_goBack no_apron no_basket no_ground no_bruised no_ladder no_helper no_today no_clock pa_undoable pa_free pa_cells).1 (F_X4_goBack no_apron no_basket no_ground no_bruised no_ladder no_helper no_today no_clock pa_undoable pa_free pa_cells).2.1 (F_X4_goBack no_apron no_basket no_ground no_bruised no_ladder no_helper no_today no_clock pa_undoable pa_free pa_cells).2.2.1 (F_X4_goBack no_apron no_basket no_ground no_bruised no_ladder no_helper no_today no_clock pa_undoable pa_free pa_cells).2.2.2.1 (F_X4_goBack no_apron no_basket no_ground no_bruised no_ladder no_helper no_today no_clock pa_undoable pa_free pa_cells).2.2.2.2.1 (F_X4_goBack no_apron no_basket no_ground no_bruised no_ladder no_helper no_today no_clock pa_undoable pa_free pa_cells).2.2.2.2.2.1 (F_X4_goBack no_apron no_basket no_ground no_bruised no_ladder no_helper no_today no_clock pa_undoable pa_free pa_cells).2.2.2.2.2.2.1 (F_X4_goBack no_apron no_basket no_ground no_bruised no_ladder no_helper no_today no_clock pa_undoable pa_free pa_cells).2.2.2.2.2.2.2.1 (F_X4_goBack no_apron no_basket no_ground no_bruised no_ladder no_helper no_today no_clock pa_undoable pa_free pa_cells).2.2.2.2.2.2.2.2.1 (F_X4_goBack no_apron no_basket no_ground no_bruised no_ladder no_helper no_today no_clock pa_undoable pa_free pa_cells).2.2.2.2.2.2.2.2.2) : wp_X4_goBack Q no_apron no_basket no_ground no_bruised no_ladder no_helper no_today no_clock pa_undoable pa_free pa_cells := dt_X4_goBack h (fun o eo => by rw [eo]; exact hq)
noncomputable def F_X9_undo (no_apron : Int32) (no_basket : Int32) (no_ground : Int32) (no_bruised : Int32) (no_ladder : Int32) (no_helper : Int32) (no_today : Int32) (no_clock : Int32) (pa_undoable : Int32) (pa_free : Int32) (pa_cells : Nat → Int32) : Int32 × Int32 × Int32 × Int32 × Int32 × Int32 × Int32 × Int32 × Int32 × Int32 × Int32 := if pa_undoable = 0 then ((-1), no_apron, no_basket, no_ground, no_bruised, no_ladder, no_helper, no_today, no_clock, pa_undoable, pa_free) else ((F_X4_goBack no_apron no_basket no_ground no_bruised no_ladder no_helper no_today no_clock pa_undoable pa_free pa_cells).2.2.2.2.2.2.2.2.1, (F_X4_goBack no_apron no_basket no_ground no_bruised no_ladder no_helper no_today no_clock pa_undoable pa_free pa_cells).1, (F_X4_goBack no_apron no_basket no_ground no_bruised no_ladder no_helper no_today no_clock pa_undoable pa_free pa_cells).2.1, (F_X4_goBack no_apron no_basket no_ground no_bruised no_ladder no_helper no_today no_clock pa_undoable pa_free pa_cells).2.2.1, (F_X4_goBack no_apron no_basket no_ground no_bruised no_ladder no_helper no_today no_clock pa_undoable pa_free pa_cells).2.2.2.1, (F_X4_goBack no_apron no_basket no_ground no_bruised no_ladder no_helper no_today no_clock pa_undoable pa_free pa_cells).2.2.2.2.1, (F_X4_goBack no_apron no_basket no_ground no_bruised no_ladder no_helper no_today no_clock pa_undoable pa_free pa_cells).2.2.2.2.2.1, (F_X4_goBack no_apron no_basket no_ground no_bruised no_ladder no_helper no_today no_clock pa_undoable pa_free pa_cells).2.2.2.2.2.2.1, (F_X4_goBack no_apron no_basket no_ground no_bruised no_ladder no_helper no_today no_clock pa_undoable pa_free pa_cells).2.2.2.2.2.2.2.1, (F_X4_goBack no_apron no_basket no_ground no_bruised no_ladder no_helper no_today no_clock pa_undoable pa_free pa_cells).2.2.2.2.2.2.2.2.1, (F_X4_goBack no_apron no_basket no_ground no_bruised no_ladder no_helper no_today no_clock pa_undoable pa_free pa_cells).2.2.2.2.2.2.2.2.2)
set_option maxHeartbeats 200000 in
set_option maxRecDepth 10000 in
theorem dt_X9_undo {P Q : Int32 → Int32 → Int32 → Int32 → Int32 → Int32 → Int32 → Int32 → Int32 → Int32 → Int32 → Prop} {no_apron : Int32} {no_basket : Int32} {no_ground : Int32} {no_bruised : Int32} {no_ladder : Int32} {no_helper : Int32} {no_today : Int32} {no_clock : Int32} {pa_undoable : Int32} {pa_free : Int32} {pa_cells : Nat → Int32} (h : wp_X9_undo P no_apron no_basket no_ground no_bruised no_ladder no_helper no_today no_clock pa_undoable pa_free pa_cells) (hq : ∀ o : Int32 × Int32 × Int32 × Int32 × Int32 × Int32 × Int32 × Int32 × Int32 × Int32 × Int32, o = F_X9_undo no_apron no_basket no_ground no_bruised no_ladder no_helper no_today no_clock pa_undoable pa_free pa_cells → P o.1 o.2.1 o.2.2.1 o.2.2.2.1 o.2.2.2.2.1 o.2.2.2.2.2.1 o.2.2.2.2.2.2.1 o.2.2.2.2.2.2.2.1 o.2.2.2.2.2.2.2.2.1 o.2.2.2.2.2.2.2.2.2.1 o.2.2.2.2.2.2.2.2.2.2 → Q o.1 o.2.1 o.2.2.1 o.2.2.2.1 o.2.2.2.2.1 o.2.2.2.2.2.1 o.2.2.2.2.2.2.1 o.2.2.2.2.2.2.2.1 o.2.2.2.2.2.2.2.2.1 o.2.2.2.2.2.2.2.2.2.1 o.2.2.2.2.2.2.2.2.2.2) : wp_X9_undo Q no_apron no_basket no_ground no_bruised no_ladder no_helper no_today no_clock pa_undoable pa_free pa_cells := by
  rw [F_X9_undo] at hq
  refine And.intro (fun c1 => ?_) (fun c1 => ?_)
  · have h := And.left h c1
    rw [if_neg c1] at hq
    refine du_X4_goBack h ?_
    intro h
    have q9 := hq _ rfl
    dsimp only at q9
    exact q9 h
  · have h := And.right h c1
    rw [if_pos c1] at hq
    have q9 := hq _ rfl
    dsimp only at q9
    exact q9 h
theorem du_X9_undo {P Q : Int32 → Int32 → Int32 → Int32 → Int32 → Int32 → Int32 → Int32 → Int32 → Int32 → Int32 → Prop} {no_apron : Int32} {no_basket : Int32} {no_ground : Int32} {no_bruised : Int32} {no_ladder : Int32} {no_helper : Int32} {no_today : Int32} {no_clock : Int32} {pa_undoable : Int32} {pa_free : Int32} {pa_cells : Nat → Int32} (h : wp_X9_undo P no_apron no_basket no_ground no_bruised no_ladder no_helper no_today no_clock pa_undoable pa_free pa_cells) (hq : P (F_X9_undo no_apron no_basket no_ground no_bruised no_ladder no_helper no_today no_clock pa_undoable pa_free pa_cells).1 (F_X9_undo no_apron no_basket no_ground no_bruised no_ladder no_helper no_today no_clock pa_undoable pa_free pa_cells).2.1 (F_X9_undo no_apron no_basket no_ground no_bruised no_ladder no_helper no_today no_clock pa_undoable pa_free pa_cells).2.2.1 (F_X9_undo no_apron no_basket no_ground no_bruised no_ladder no_helper no_today no_clock pa_undoable pa_free pa_cells).2.2.2.1 (F_X9_undo no_apron no_basket no_ground no_bruised no_ladder no_helper no_today no_clock pa_undoable pa_free pa_cells).2.2.2.2.1 (F_X9_undo no_apron no_basket no_ground no_bruised no_ladder no_helper no_today no_clock pa_undoable pa_free pa_cells).2.2.2.2.2.1 (F_X9_undo no_apron no_basket no_ground no_bruised no_ladder no_helper no_today no_clock pa_undoable pa_free pa_cells).2.2.2.2.2.2.1 (F_X9_undo no_apron no_basket no_ground no_bruised no_ladder no_helper no_today no_clock pa_undoable pa_free pa_cells).2.2.2.2.2.2.2.1 (F_X9_undo no_apron no_basket no_ground no_bruised no_ladder no_helper no_today no_clock pa_undoable pa_free pa_cells).2.2.2.2.2.2.2.2.1 (F_X9_undo no_apron no_basket no_ground no_bruised no_ladder no_helper no_today no_clock pa_undoable pa_free pa_cells).2.2.2.2.2.2.2.2.2.1 (F_X9_undo no_apron no_basket no_ground no_bruised no_ladder no_helper no_today no_clock pa_undoable pa_free pa_cells).2.2.2.2.2.2.2.2.2.2 → Q (F_X9_undo no_apron no_basket no_ground no_bruised no_ladder no_helper no_today no_clock pa_undoable pa_free pa_cells).1 (F_X9_undo no_apron no_basket no_ground no_bruised no_ladder no_helper no_today no_clock pa_undoable pa_free pa_cells).2.1 (F_X9_undo no_apron no_basket no_ground no_bruised no_ladder no_helper no_today no_clock pa_undoable pa_free pa_cells).2.2.1 (F_X9_undo no_apron no_basket no_ground no_bruised no_ladder no_helper no_today no_clock pa_undoable pa_free pa_cells).2.2.2.1 (F_X9_undo no_apron no_basket no_ground no_bruised no_ladder no_helper no_today no_clock pa_undoable pa_free pa_cells).2.2.2.2.1 (F_X9_undo no_apron no_basket no_ground no_bruised no_ladder no_helper no_today no_clock pa_undoable pa_free pa_cells).2.2.2.2.2.1 (F_X9_undo no_apron no_basket no_ground no_bruised no_ladder no_helper no_today no_clock pa_undoable pa_free pa_cells).2.2.2.2.2.2.1 (F_X9_undo no_apron no_basket no_ground no_bruised no_ladder no_helper no_today no_clock pa_undoable pa_free pa_cells).2.2.2.2.2.2.2.1 (F_X9_undo no_apron no_basket no_ground no_bruised no_ladder no_helper no_today no_clock pa_undoable pa_free pa_cells).2.2.2.2.2.2.2.2.1 (F_X9_undo no_apron no_basket no_ground no_bruised no_ladder no_helper no_today no_clock pa_undoable pa_free pa_cells).2.2.2.2.2.2.2.2.2.1 (F_X9_undo no_apron no_basket no_ground no_bruised no_ladder no_helper no_today no_clock pa_undoable pa_free pa_cells).2.2.2.2.2.2.2.2.2.2) : wp_X9_undo Q no_apron no_basket no_ground no_bruised no_ladder no_helper no_today no_clock pa_undoable pa_free pa_cells := dt_X9_undo h (fun o eo => by rw [eo]; exact hq)
theorem dw_X9_undo {Q : Int32 → Int32 → Int32 → Int32 → Int32 → Int32 → Int32 → Int32 → Int32 → Int32 → Int32 → Prop} {no_apron : Int32} {no_basket : Int32} {no_ground : Int32} {no_bruised : Int32} {no_ladder : Int32} {no_helper : Int32} {no_today : Int32} {no_clock : Int32} {pa_undoable : Int32} {pa_free : Int32} {pa_cells : Nat → Int32} (h : wp_X9_undo (fun o0 o1 o2 o3 o4 o5 o6 o7 o8 o9 o10 => (o0, o1, o2, o3, o4, o5, o6, o7, o8, o9, o10) = F_X9_undo no_apron no_basket no_ground no_bruised no_ladder no_helper no_today no_clock pa_undoable pa_free pa_cells → Q o0 o1 o2 o3 o4 o5 o6 o7 o8 o9 o10) no_apron no_basket no_ground no_bruised no_ladder no_helper no_today no_clock pa_undoable pa_free pa_cells) : wp_X9_undo Q no_apron no_basket no_ground no_bruised no_ladder no_helper no_today no_clock pa_undoable pa_free pa_cells := dt_X9_undo h (fun o eo hp => hp eo)
noncomputable def j_X9_from_77 {R : Type} (k42 : Int32 → Int32 → Int32 → Int32 → R) (tr_fruits : Int32) (tr_standings : Int32) (tr_x : Nat → Int32) (tr_height : Nat → Int32) (tr_foot : Nat → Int32) (tr_fork : Nat → Int32) (tr_settings : Nat → Int32) (no_helper : Int32) (x1 : Int32) (x3 : Int32) (x4 : Int32) (x5 : Int32) : R := k42 x1 x3 x4 (x5 + 1)
noncomputable def bd_X9_from_42 (tr_fruits : Int32) (tr_standings : Int32) (tr_x : Nat → Int32) (tr_height : Nat → Int32) (tr_foot : Nat → Int32) (tr_fork : Nat → Int32) (tr_settings : Nat → Int32) (no_helper : Int32) (x1 : Int32) (x3 : Int32) (c : Int32) (s : Int32) : Int32 := if (F_X3_isWithin x1 c x3 tr_x tr_height tr_foot tr_fork) = 0 then (j_X9_from_77 (fun q0 q1 q2 q3 => q2) tr_fruits tr_standings tr_x tr_height tr_foot tr_fork tr_settings no_helper x1 x3 s c) else (j_X9_from_77 (fun q0 q1 q2 q3 => q2) tr_fruits tr_standings tr_x tr_height tr_foot tr_fork tr_settings no_helper x1 x3 (s ||| (1 <<< (c &&& 31))) c)
noncomputable def ex_X9_from_42 {R : Type} (po : Int32 → R) (tr_fruits : Int32) (tr_standings : Int32) (tr_x : Nat → Int32) (tr_height : Nat → Int32) (tr_foot : Nat → Int32) (tr_fork : Nat → Int32) (tr_settings : Nat → Int32) (no_helper : Int32) (x1 : Int32) (x3 : Int32) (c : Int32) (s : Int32) : R := po s
set_option maxHeartbeats 200000 in
set_option maxRecDepth 10000 in
theorem dl_X9_from_42 {P Q : Int32 → Prop} {tr_fruits : Int32} {tr_standings : Int32} {tr_x : Nat → Int32} {tr_height : Nat → Int32} {tr_foot : Nat → Int32} {tr_fork : Nat → Int32} {tr_settings : Nat → Int32} {no_helper : Int32} {x1 : Int32} {x3 : Int32} {a : Int32} {i : Nat} (hi0 : i < 2147483648) (hE : ∀ (c : Int32) (s : Int32), c = nI (i + (Int32.toInt tr_standings - ((i : Nat) : Int)).toNat) → s = itr (bd_X9_from_42 tr_fruits tr_standings tr_x tr_height tr_foot tr_fork tr_settings no_helper x1 x3) a i (Int32.toInt tr_standings - ((i : Nat) : Int)).toNat → (P s) → (Q s)) : ∀ (n k : Nat) (c : Int32), c = nI (i + k) → k ≤ (Int32.toInt tr_standings - ((i : Nat) : Int)).toNat → wb_X9_from_42 P tr_fruits tr_standings tr_x tr_height tr_foot tr_fork tr_settings no_helper n x1 x3 (itr (bd_X9_from_42 tr_fruits tr_standings tr_x tr_height tr_foot tr_fork tr_settings no_helper x1 x3) a i k) c → wb_X9_from_42 Q tr_fruits tr_standings tr_x tr_height tr_foot tr_fork tr_settings no_helper n x1 x3 (itr (bd_X9_from_42 tr_fruits tr_standings tr_x tr_height tr_foot tr_fork tr_settings no_helper x1 x3) a i k) c := by
  intro n
  induction n with
  | zero => intro k c hc hk h; exact False.elim h
  | succ n ih =>
    intro k c hc hk h
    have hr := tp_r tr_standings
    have hi : Int32.toInt c = ((i + k : Nat) : Int) := by rw [hc]; exact nI_toInt (by omega)
    refine And.intro (fun t0 => ?_) (fun t0 => ?_)
    · have h := And.left h t0
      have t1 := (fa_le _ _).mp t0
      have hk2 : k = (Int32.toInt tr_standings - ((i : Nat) : Int)).toNat := by omega
      subst hk2
      exact hE _ _ hc rfl h
    · have h := And.right h t0
      have t1 := mt (fa_le _ _).mpr t0
      have hs : ∀ o : Int32, o = itr (bd_X9_from_42 tr_fruits tr_standings tr_x tr_height tr_foot tr_fork tr_settings no_helper x1 x3) a i (k + 1) → wb_X9_from_42 P tr_fruits tr_standings tr_x tr_height tr_foot tr_fork tr_settings no_helper n x1 x3 o (c + 1) → wb_X9_from_42 Q tr_fruits tr_standings tr_x tr_height tr_foot tr_fork tr_settings no_helper n x1 x3 o (c + 1) := by
        intro o eo h9
        have q := ih (k + 1) (c + 1) (by rw [hc]; exact nI_1 _) (by omega)
        rw [← eo] at q
        exact q h9
      rw [itr_s, ← hc, bd_X9_from_42] at hs
      refine du_X3_isWithin h ?_
      intro h
      refine And.intro (fun c1 => ?_) (fun c1 => ?_)
      · have h := And.left h c1
        rw [if_pos c1] at hs
        rw [j_X9_from_77] at hs
        unfold ws_X9_from_77 at h ⊢
        refine ae ?_
        have h := h _ rfl
        have q9 := hs _ rfl
        exact q9 h
      · have h := And.right h c1
        rw [if_neg c1] at hs
        refine ae ?_
        have h := h _ rfl
        rw [j_X9_from_77] at hs
        unfold ws_X9_from_77 at h ⊢
        refine ae ?_
        have h := h _ rfl
        have q9 := hs _ rfl
        exact q9 h
noncomputable def F_X9_from (p0 : Int32) (p1 : Int32) (tr_fruits : Int32) (tr_standings : Int32) (tr_x : Nat → Int32) (tr_height : Nat → Int32) (tr_foot : Nat → Int32) (tr_fork : Nat → Int32) (tr_settings : Nat → Int32) (no_helper : Int32) : Int32 := if (F_X3_hasFruit p0 tr_fruits) = 0 then (-1) else (if (F_X9_isYesOrNo p1) = 0 then (-1) else (ex_X9_from_42 (fun o0 => o0) tr_fruits tr_standings tr_x tr_height tr_foot tr_fork tr_settings no_helper p0 (F_X3_reach no_helper p1 tr_settings) (nI (0 + (Int32.toInt tr_standings - ((0 : Nat) : Int)).toNat)) (itr (bd_X9_from_42 tr_fruits tr_standings tr_x tr_height tr_foot tr_fork tr_settings no_helper p0 (F_X3_reach no_helper p1 tr_settings)) 0 0 (Int32.toInt tr_standings - ((0 : Nat) : Int)).toNat)))
set_option maxHeartbeats 200000 in
set_option maxRecDepth 10000 in
theorem dt_X9_from {P Q : Int32 → Prop} {p0 : Int32} {p1 : Int32} {tr_fruits : Int32} {tr_standings : Int32} {tr_x : Nat → Int32} {tr_height : Nat → Int32} {tr_foot : Nat → Int32} {tr_fork : Nat → Int32} {tr_settings : Nat → Int32} {no_helper : Int32} (h : wp_X9_from P p0 p1 tr_fruits tr_standings tr_x tr_height tr_foot tr_fork tr_settings no_helper) (hq : ∀ o : Int32, o = F_X9_from p0 p1 tr_fruits tr_standings tr_x tr_height tr_foot tr_fork tr_settings no_helper → P o → Q o) : wp_X9_from Q p0 p1 tr_fruits tr_standings tr_x tr_height tr_foot tr_fork tr_settings no_helper := by
  rw [F_X9_from] at hq
  refine du_X3_hasFruit h ?_
  intro h
  refine And.intro (fun c1 => ?_) (fun c1 => ?_)
  · have h := And.left h c1
    rw [if_pos c1] at hq
    have q9 := hq _ rfl
    exact q9 h
  · have h := And.right h c1
    rw [if_neg c1] at hq
    refine du_X9_isYesOrNo h ?_
    intro h
    refine And.intro (fun c2 => ?_) (fun c2 => ?_)
    · have h := And.left h c2
      rw [if_neg c2] at hq
      refine du_X3_reach h ?_
      intro h
      obtain ⟨n3, h⟩ := h
      refine ⟨n3, dl_X9_from_42 (a := 0) (i := 0) (by decide) ?_ n3 0 0 (by decide) (Nat.zero_le _) h⟩
      intro cc4 s5 ec6 es7 h
      rw [← ec6, ← es7, ex_X9_from_42] at hq
      have q9 := hq _ rfl
      exact q9 h
    · have h := And.right h c2
      rw [if_pos c2] at hq
      have q9 := hq _ rfl
      exact q9 h
theorem du_X9_from {P Q : Int32 → Prop} {p0 : Int32} {p1 : Int32} {tr_fruits : Int32} {tr_standings : Int32} {tr_x : Nat → Int32} {tr_height : Nat → Int32} {tr_foot : Nat → Int32} {tr_fork : Nat → Int32} {tr_settings : Nat → Int32} {no_helper : Int32} (h : wp_X9_from P p0 p1 tr_fruits tr_standings tr_x tr_height tr_foot tr_fork tr_settings no_helper) (hq : P (F_X9_from p0 p1 tr_fruits tr_standings tr_x tr_height tr_foot tr_fork tr_settings no_helper) → Q (F_X9_from p0 p1 tr_fruits tr_standings tr_x tr_height tr_foot tr_fork tr_settings no_helper)) : wp_X9_from Q p0 p1 tr_fruits tr_standings tr_x tr_height tr_foot tr_fork tr_settings no_helper := dt_X9_from h (fun o eo => by rw [eo]; exact hq)
theorem dw_X9_from {Q : Int32 → Prop} {p0 : Int32} {p1 : Int32} {tr_fruits : Int32} {tr_standings : Int32} {tr_x : Nat → Int32} {tr_height : Nat → Int32} {tr_foot : Nat → Int32} {tr_fork : Nat → Int32} {tr_settings : Nat → Int32} {no_helper : Int32} (h : wp_X9_from (fun o0 => o0 = F_X9_from p0 p1 tr_fruits tr_standings tr_x tr_height tr_foot tr_fork tr_settings no_helper → Q o0) p0 p1 tr_fruits tr_standings tr_x tr_height tr_foot tr_fork tr_settings no_helper) : wp_X9_from Q p0 p1 tr_fruits tr_standings tr_x tr_height tr_foot tr_fork tr_settings no_helper := dt_X9_from h (fun o eo hp => hp eo)
noncomputable def bd_X9_never_10 (tr_fruits : Int32) (tr_standings : Int32) (tr_x : Nat → Int32) (tr_height : Nat → Int32) (tr_worth : Nat → Int32) (tr_foot : Nat → Int32) (tr_fork : Nat → Int32) (tr_settings : Nat → Int32) (no_apron : Int32) (no_basket : Int32) (no_ground : Int32) (no_bruised : Int32) (ro_size : Int32) (ro_numbers : Nat → Int32) (c : Int32) (s : Int32) : Int32 := (s &&& ((F_X3_within c (F_X3_reach 1 1 tr_settings) tr_fruits tr_x tr_height tr_foot tr_fork) ^^^ (-1)))
noncomputable def ex_X9_never_10 {R : Type} (po : Int32 → Int32 → (Nat → Int32) → R) (tr_fruits : Int32) (tr_standings : Int32) (tr_x : Nat → Int32) (tr_height : Nat → Int32) (tr_worth : Nat → Int32) (tr_foot : Nat → Int32) (tr_fork : Nat → Int32) (tr_settings : Nat → Int32) (no_apron : Int32) (no_basket : Int32) (no_ground : Int32) (no_bruised : Int32) (ro_size : Int32) (ro_numbers : Nat → Int32) (c : Int32) (s : Int32) : R := po s ((F_X9_tell (F_X0_worthOf s tr_fruits tr_worth no_bruised) ro_size ro_numbers).1) ((F_X9_tell (F_X0_worthOf s tr_fruits tr_worth no_bruised) ro_size ro_numbers).2)
set_option maxHeartbeats 200000 in
set_option maxRecDepth 10000 in
theorem dl_X9_never_10 {P Q : Int32 → Int32 → (Nat → Int32) → Prop} {tr_fruits : Int32} {tr_standings : Int32} {tr_x : Nat → Int32} {tr_height : Nat → Int32} {tr_worth : Nat → Int32} {tr_foot : Nat → Int32} {tr_fork : Nat → Int32} {tr_settings : Nat → Int32} {no_apron : Int32} {no_basket : Int32} {no_ground : Int32} {no_bruised : Int32} {ro_size : Int32} {ro_numbers : Nat → Int32} {a : Int32} {i : Nat} (hi0 : i < 2147483648) (hE : ∀ (c : Int32) (s : Int32), c = nI (i + (Int32.toInt tr_standings - ((i : Nat) : Int)).toNat) → s = itr (bd_X9_never_10 tr_fruits tr_standings tr_x tr_height tr_worth tr_foot tr_fork tr_settings no_apron no_basket no_ground no_bruised ro_size ro_numbers) a i (Int32.toInt tr_standings - ((i : Nat) : Int)).toNat → (wp_X0_worthOf (fun r_2 => wp_X9_tell (fun ro_size_3 ro_numbers_4 => P s ro_size_3 ro_numbers_4) r_2 ro_size ro_numbers) s tr_fruits tr_worth no_bruised) → (wp_X0_worthOf (fun r_2 => wp_X9_tell (fun ro_size_3 ro_numbers_4 => Q s ro_size_3 ro_numbers_4) r_2 ro_size ro_numbers) s tr_fruits tr_worth no_bruised)) : ∀ (n k : Nat) (c : Int32), c = nI (i + k) → k ≤ (Int32.toInt tr_standings - ((i : Nat) : Int)).toNat → wb_X9_never_10 P tr_fruits tr_standings tr_x tr_height tr_worth tr_foot tr_fork tr_settings no_apron no_basket no_ground no_bruised n (itr (bd_X9_never_10 tr_fruits tr_standings tr_x tr_height tr_worth tr_foot tr_fork tr_settings no_apron no_basket no_ground no_bruised ro_size ro_numbers) a i k) c ro_size ro_numbers → wb_X9_never_10 Q tr_fruits tr_standings tr_x tr_height tr_worth tr_foot tr_fork tr_settings no_apron no_basket no_ground no_bruised n (itr (bd_X9_never_10 tr_fruits tr_standings tr_x tr_height tr_worth tr_foot tr_fork tr_settings no_apron no_basket no_ground no_bruised ro_size ro_numbers) a i k) c ro_size ro_numbers := by
  intro n
  induction n with
  | zero => intro k c hc hk h; exact False.elim h
  | succ n ih =>
    intro k c hc hk h
    have hr := tp_r tr_standings
    have hi : Int32.toInt c = ((i + k : Nat) : Int) := by rw [hc]; exact nI_toInt (by omega)
    refine And.intro (fun t0 => ?_) (fun t0 => ?_)
    · have h := And.left h t0
      have t1 := (fa_le _ _).mp t0
      have hk2 : k = (Int32.toInt tr_standings - ((i : Nat) : Int)).toNat := by omega
      subst hk2
      exact hE _ _ hc rfl h
    · have h := And.right h t0
      have t1 := mt (fa_le _ _).mpr t0
      have hs : ∀ o : Int32, o = itr (bd_X9_never_10 tr_fruits tr_standings tr_x tr_height tr_worth tr_foot tr_fork tr_settings no_apron no_basket no_ground no_bruised ro_size ro_numbers) a i (k + 1) → wb_X9_never_10 P tr_fruits tr_standings tr_x tr_height tr_worth tr_foot tr_fork tr_settings no_apron no_basket no_ground no_bruised n o (c + 1) ro_size ro_numbers → wb_X9_never_10 Q tr_fruits tr_standings tr_x tr_height tr_worth tr_foot tr_fork tr_settings no_apron no_basket no_ground no_bruised n o (c + 1) ro_size ro_numbers := by
        intro o eo h9
        have q := ih (k + 1) (c + 1) (by rw [hc]; exact nI_1 _) (by omega)
        rw [← eo] at q
        exact q h9
      rw [itr_s, ← hc, bd_X9_never_10] at hs
      refine du_X3_reach h ?_
      intro h
      refine du_X3_within h ?_
      intro h
      refine ae ?_
      have h := h _ rfl
      refine ae ?_
      have h := h _ rfl
      have q9 := hs _ rfl
      exact q9 h
noncomputable def F_X9_never (tr_fruits : Int32) (tr_standings : Int32) (tr_x : Nat → Int32) (tr_height : Nat → Int32) (tr_worth : Nat → Int32) (tr_foot : Nat → Int32) (tr_fork : Nat → Int32) (tr_settings : Nat → Int32) (no_apron : Int32) (no_basket : Int32) (no_ground : Int32) (no_bruised : Int32) (ro_size : Int32) (ro_numbers : Nat → Int32) : Int32 × Int32 × (Nat → Int32) := ex_X9_never_10 (fun o0 o1 o2 => (o0, o1, o2)) tr_fruits tr_standings tr_x tr_height tr_worth tr_foot tr_fork tr_settings no_apron no_basket no_ground no_bruised ro_size ro_numbers (nI (0 + (Int32.toInt tr_standings - ((0 : Nat) : Int)).toNat)) (itr (bd_X9_never_10 tr_fruits tr_standings tr_x tr_height tr_worth tr_foot tr_fork tr_settings no_apron no_basket no_ground no_bruised ro_size ro_numbers) (F_X0_hanging tr_fruits no_apron no_basket no_ground) 0 (Int32.toInt tr_standings - ((0 : Nat) : Int)).toNat)
set_option maxHeartbeats 200000 in
set_option maxRecDepth 10000 in
theorem dt_X9_never {P Q : Int32 → Int32 → (Nat → Int32) → Prop} {tr_fruits : Int32} {tr_standings : Int32} {tr_x : Nat → Int32} {tr_height : Nat → Int32} {tr_worth : Nat → Int32} {tr_foot : Nat → Int32} {tr_fork : Nat → Int32} {tr_settings : Nat → Int32} {no_apron : Int32} {no_basket : Int32} {no_ground : Int32} {no_bruised : Int32} {ro_size : Int32} {ro_numbers : Nat → Int32} (h : wp_X9_never P tr_fruits tr_standings tr_x tr_height tr_worth tr_foot tr_fork tr_settings no_apron no_basket no_ground no_bruised ro_size ro_numbers) (hq : ∀ o : Int32 × Int32 × (Nat → Int32), o = F_X9_never tr_fruits tr_standings tr_x tr_height tr_worth tr_foot tr_fork tr_settings no_apron no_basket no_ground no_bruised ro_size ro_numbers → P o.1 o.2.1 o.2.2 → Q o.1 o.2.1 o.2.2) : wp_X9_never Q tr_fruits tr_standings tr_x tr_height tr_worth tr_foot tr_fork tr_settings no_apron no_basket no_ground no_bruised ro_size ro_numbers := by
  rw [F_X9_never] at hq
  refine du_X0_hanging h ?_
  intro h
  obtain ⟨n1, h⟩ := h
  refine ⟨n1, dl_X9_never_10 (a := (F_X0_hanging tr_fruits no_apron no_basket no_ground)) (i := 0) (by decide) ?_ n1 0 0 (by decide) (Nat.zero_le _) h⟩
  intro cc2 s3 ec4 es5 h
  rw [← ec4, ← es5, ex_X9_never_10] at hq
  refine du_X0_worthOf h ?_
  intro h
  refine du_X9_tell h ?_
  intro h
  have q9 := hq _ rfl
  dsimp only at q9
  exact q9 h
theorem du_X9_never {P Q : Int32 → Int32 → (Nat → Int32) → Prop} {tr_fruits : Int32} {tr_standings : Int32} {tr_x : Nat → Int32} {tr_height : Nat → Int32} {tr_worth : Nat → Int32} {tr_foot : Nat → Int32} {tr_fork : Nat → Int32} {tr_settings : Nat → Int32} {no_apron : Int32} {no_basket : Int32} {no_ground : Int32} {no_bruised : Int32} {ro_size : Int32} {ro_numbers : Nat → Int32} (h : wp_X9_never P tr_fruits tr_standings tr_x tr_height tr_worth tr_foot tr_fork tr_settings no_apron no_basket no_ground no_bruised ro_size ro_numbers) (hq : P (F_X9_never tr_fruits tr_standings tr_x tr_height tr_worth tr_foot tr_fork tr_settings no_apron no_basket no_ground no_bruised ro_size ro_numbers).1 (F_X9_never tr_fruits tr_standings tr_x tr_height tr_worth tr_foot tr_fork tr_settings no_apron no_basket no_ground no_bruised ro_size ro_numbers).2.1 (F_X9_never tr_fruits tr_standings tr_x tr_height tr_worth tr_foot tr_fork tr_settings no_apron no_basket no_ground no_bruised ro_size ro_numbers).2.2 → Q (F_X9_never tr_fruits tr_standings tr_x tr_height tr_worth tr_foot tr_fork tr_settings no_apron no_basket no_ground no_bruised ro_size ro_numbers).1 (F_X9_never tr_fruits tr_standings tr_x tr_height tr_worth tr_foot tr_fork tr_settings no_apron no_basket no_ground no_bruised ro_size ro_numbers).2.1 (F_X9_never tr_fruits tr_standings tr_x tr_height tr_worth tr_foot tr_fork tr_settings no_apron no_basket no_ground no_bruised ro_size ro_numbers).2.2) : wp_X9_never Q tr_fruits tr_standings tr_x tr_height tr_worth tr_foot tr_fork tr_settings no_apron no_basket no_ground no_bruised ro_size ro_numbers := dt_X9_never h (fun o eo => by rw [eo]; exact hq)
theorem dw_X9_never {Q : Int32 → Int32 → (Nat → Int32) → Prop} {tr_fruits : Int32} {tr_standings : Int32} {tr_x : Nat → Int32} {tr_height : Nat → Int32} {tr_worth : Nat → Int32} {tr_foot : Nat → Int32} {tr_fork : Nat → Int32} {tr_settings : Nat → Int32} {no_apron : Int32} {no_basket : Int32} {no_ground : Int32} {no_bruised : Int32} {ro_size : Int32} {ro_numbers : Nat → Int32} (h : wp_X9_never (fun o0 o1 o2 => (o0, o1, o2) = F_X9_never tr_fruits tr_standings tr_x tr_height tr_worth tr_foot tr_fork tr_settings no_apron no_basket no_ground no_bruised ro_size ro_numbers → Q o0 o1 o2) tr_fruits tr_standings tr_x tr_height tr_worth tr_foot tr_fork tr_settings no_apron no_basket no_ground no_bruised ro_size ro_numbers) : wp_X9_never Q tr_fruits tr_standings tr_x tr_height tr_worth tr_foot tr_fork tr_settings no_apron no_basket no_ground no_bruised ro_size ro_numbers := dt_X9_never h (fun o eo hp => hp eo)
noncomputable def F_X9_seconds (p0 : Int32) (p1 : Int32) (p2 : Int32) (tr_fruits : Int32) (tr_standings : Int32) (tr_x : Nat → Int32) (tr_height : Nat → Int32) (tr_worth : Nat → Int32) (tr_foot : Nat → Int32) (tr_fork : Nat → Int32) (tr_settings : Nat → Int32) (no_bruised : Int32) (no_helper : Int32) (ru_length : Int32) (ru_given : Nat → Int32) (ru_stack : Nat → Int32) (ru_program : Nat → Int32) : Int32 × (Nat → Int32) × (Nat → Int32) := if (F_X3_hasFruit p0 tr_fruits) = 0 then ((-1), ru_given, ru_stack) else (if (F_X3_hasStanding p1 tr_standings) = 0 then ((-1), ru_given, ru_stack) else (if (F_X9_isYesOrNo p2) = 0 then ((-1), ru_given, ru_stack) else (if (F_X3_isWithin p0 p1 (F_X3_reach no_helper p2 tr_settings) tr_x tr_height tr_foot tr_fork) = 0 then ((-2), ru_given, ru_stack) else ((F_X0_pickSeconds p0 p1 p2 0 tr_fruits tr_x tr_height tr_worth tr_foot tr_fork no_bruised ru_length ru_given ru_stack ru_program).1, (F_X0_pickSeconds p0 p1 p2 0 tr_fruits tr_x tr_height tr_worth tr_foot tr_fork no_bruised ru_length ru_given ru_stack ru_program).2.1, (F_X0_pickSeconds p0 p1 p2 0 tr_fruits tr_x tr_height tr_worth tr_foot tr_fork no_bruised ru_length ru_given ru_stack ru_program).2.2))))
set_option maxHeartbeats 200000 in
set_option maxRecDepth 10000 in
theorem dt_X9_seconds {P Q : Int32 → (Nat → Int32) → (Nat → Int32) → Prop} {p0 : Int32} {p1 : Int32} {p2 : Int32} {tr_fruits : Int32} {tr_standings : Int32} {tr_x : Nat → Int32} {tr_height : Nat → Int32} {tr_worth : Nat → Int32} {tr_foot : Nat → Int32} {tr_fork : Nat → Int32} {tr_settings : Nat → Int32} {no_bruised : Int32} {no_helper : Int32} {ru_length : Int32} {ru_given : Nat → Int32} {ru_stack : Nat → Int32} {ru_program : Nat → Int32} (h : wp_X9_seconds P p0 p1 p2 tr_fruits tr_standings tr_x tr_height tr_worth tr_foot tr_fork tr_settings no_bruised no_helper ru_length ru_given ru_stack ru_program) (hq : ∀ o : Int32 × (Nat → Int32) × (Nat → Int32), o = F_X9_seconds p0 p1 p2 tr_fruits tr_standings tr_x tr_height tr_worth tr_foot tr_fork tr_settings no_bruised no_helper ru_length ru_given ru_stack ru_program → P o.1 o.2.1 o.2.2 → Q o.1 o.2.1 o.2.2) : wp_X9_seconds Q p0 p1 p2 tr_fruits tr_standings tr_x tr_height tr_worth tr_foot tr_fork tr_settings no_bruised no_helper ru_length ru_given ru_stack ru_program := by
  rw [F_X9_seconds] at hq
  refine du_X3_hasFruit h ?_
  intro h
  refine And.intro (fun c1 => ?_) (fun c1 => ?_)
  · have h := And.left h c1
    rw [if_pos c1] at hq
    have q9 := hq _ rfl
    dsimp only at q9
    exact q9 h
  · have h := And.right h c1
    rw [if_neg c1] at hq
    refine du_X3_hasStanding h ?_
    intro h
    refine And.intro (fun c2 => ?_) (fun c2 => ?_)
    · have h := And.left h c2
      rw [if_pos c2] at hq
      have q9 := hq _ rfl
      dsimp only at q9
      exact q9 h
    · have h := And.right h c2
      rw [if_neg c2] at hq
      refine du_X9_isYesOrNo h ?_
      intro h
      refine And.intro (fun c3 => ?_) (fun c3 => ?_)
      · have h := And.left h c3
        rw [if_neg c3] at hq
        refine du_X3_reach h ?_
        intro h
        refine du_X3_isWithin h ?_
        intro h
        refine And.intro (fun c4 => ?_) (fun c4 => ?_)
        · have h := And.left h c4
          rw [if_neg c4] at hq
          refine du_X0_pickSeconds h ?_
          intro h
          have q9 := hq _ rfl
          dsimp only at q9
          exact q9 h
        · have h := And.right h c4
          rw [if_pos c4] at hq
          have q9 := hq _ rfl
          dsimp only at q9
          exact q9 h
      · have h := And.right h c3
        rw [if_pos c3] at hq
        have q9 := hq _ rfl
        dsimp only at q9
        exact q9 h
theorem du_X9_seconds {P Q : Int32 → (Nat → Int32) → (Nat → Int32) → Prop} {p0 : Int32} {p1 : Int32} {p2 : Int32} {tr_fruits : Int32} {tr_standings : Int32} {tr_x : Nat → Int32} {tr_height : Nat → Int32} {tr_worth : Nat → Int32} {tr_foot : Nat → Int32} {tr_fork : Nat → Int32} {tr_settings : Nat → Int32} {no_bruised : Int32} {no_helper : Int32} {ru_length : Int32} {ru_given : Nat → Int32} {ru_stack : Nat → Int32} {ru_program : Nat → Int32} (h : wp_X9_seconds P p0 p1 p2 tr_fruits tr_standings tr_x tr_height tr_worth tr_foot tr_fork tr_settings no_bruised no_helper ru_length ru_given ru_stack ru_program) (hq : P (F_X9_seconds p0 p1 p2 tr_fruits tr_standings tr_x tr_height tr_worth tr_foot tr_fork tr_settings no_bruised no_helper ru_length ru_given ru_stack ru_program).1 (F_X9_seconds p0 p1 p2 tr_fruits tr_standings tr_x tr_height tr_worth tr_foot tr_fork tr_settings no_bruised no_helper ru_length ru_given ru_stack ru_program).2.1 (F_X9_seconds p0 p1 p2 tr_fruits tr_standings tr_x tr_height tr_worth tr_foot tr_fork tr_settings no_bruised no_helper ru_length ru_given ru_stack ru_program).2.2 → Q (F_X9_seconds p0 p1 p2 tr_fruits tr_standings tr_x tr_height tr_worth tr_foot tr_fork tr_settings no_bruised no_helper ru_length ru_given ru_stack ru_program).1 (F_X9_seconds p0 p1 p2 tr_fruits tr_standings tr_x tr_height tr_worth tr_foot tr_fork tr_settings no_bruised no_helper ru_length ru_given ru_stack ru_program).2.1 (F_X9_seconds p0 p1 p2 tr_fruits tr_standings tr_x tr_height tr_worth tr_foot tr_fork tr_settings no_bruised no_helper ru_length ru_given ru_stack ru_program).2.2) : wp_X9_seconds Q p0 p1 p2 tr_fruits tr_standings tr_x tr_height tr_worth tr_foot tr_fork tr_settings no_bruised no_helper ru_length ru_given ru_stack ru_program := dt_X9_seconds h (fun o eo => by rw [eo]; exact hq)
theorem dw_X9_seconds {Q : Int32 → (Nat → Int32) → (Nat → Int32) → Prop} {p0 : Int32} {p1 : Int32} {p2 : Int32} {tr_fruits : Int32} {tr_standings : Int32} {tr_x : Nat → Int32} {tr_height : Nat → Int32} {tr_worth : Nat → Int32} {tr_foot : Nat → Int32} {tr_fork : Nat → Int32} {tr_settings : Nat → Int32} {no_bruised : Int32} {no_helper : Int32} {ru_length : Int32} {ru_given : Nat → Int32} {ru_stack : Nat → Int32} {ru_program : Nat → Int32} (h : wp_X9_seconds (fun o0 o1 o2 => (o0, o1, o2) = F_X9_seconds p0 p1 p2 tr_fruits tr_standings tr_x tr_height tr_worth tr_foot tr_fork tr_settings no_bruised no_helper ru_length ru_given ru_stack ru_program → Q o0 o1 o2) p0 p1 p2 tr_fruits tr_standings tr_x tr_height tr_worth tr_foot tr_fork tr_settings no_bruised no_helper ru_length ru_given ru_stack ru_program) : wp_X9_seconds Q p0 p1 p2 tr_fruits tr_standings tr_x tr_height tr_worth tr_foot tr_fork tr_settings no_bruised no_helper ru_length ru_given ru_stack ru_program := dt_X9_seconds h (fun o eo hp => hp eo)
noncomputable def F_X3_allStandings (tr_standings : Int32) : Int32 := ((1 <<< (tr_standings &&& 31)) - 1)
set_option maxHeartbeats 200000 in
set_option maxRecDepth 10000 in
theorem dt_X3_allStandings {P Q : Int32 → Prop} {tr_standings : Int32} (h : wp_X3_allStandings P tr_standings) (hq : ∀ o : Int32, o = F_X3_allStandings tr_standings → P o → Q o) : wp_X3_allStandings Q tr_standings := by
  rw [F_X3_allStandings] at hq
  refine ae ?_
  have h := h _ rfl
  have q9 := hq _ rfl
  exact q9 h
theorem du_X3_allStandings {P Q : Int32 → Prop} {tr_standings : Int32} (h : wp_X3_allStandings P tr_standings) (hq : P (F_X3_allStandings tr_standings) → Q (F_X3_allStandings tr_standings)) : wp_X3_allStandings Q tr_standings := dt_X3_allStandings h (fun o eo => by rw [eo]; exact hq)
noncomputable def j_X5_reachedBy_32 {R : Type} (k4 : Int32 → Int32 → Int32 → R) (pl_near : Nat → Int32) (tr_standings : Int32) (x1 : Int32) (x2 : Int32) (x3 : Int32) : R := k4 x1 x2 (x3 + 1)
noncomputable def bd_X5_reachedBy_4 (pl_near : Nat → Int32) (tr_standings : Int32) (x1 : Int32) (c : Int32) (s : Int32) : Int32 := if ((x1 >>> (c &&& 31)) &&& 1) = 0 then (j_X5_reachedBy_32 (fun q0 q1 q2 => q1) pl_near tr_standings x1 s c) else (j_X5_reachedBy_32 (fun q0 q1 q2 => q1) pl_near tr_standings x1 (s ||| (pl_near c.toNatClampNeg)) c)
noncomputable def ex_X5_reachedBy_4 {R : Type} (po : Int32 → R) (pl_near : Nat → Int32) (tr_standings : Int32) (x1 : Int32) (c : Int32) (s : Int32) : R := po s
set_option maxHeartbeats 200000 in
set_option maxRecDepth 10000 in
theorem dl_X5_reachedBy_4 {P Q : Int32 → Prop} {pl_near : Nat → Int32} {tr_standings : Int32} {x1 : Int32} {a : Int32} {i : Nat} (hi0 : i < 2147483648) (hE : ∀ (c : Int32) (s : Int32), c = nI (i + (Int32.toInt tr_standings - ((i : Nat) : Int)).toNat) → s = itr (bd_X5_reachedBy_4 pl_near tr_standings x1) a i (Int32.toInt tr_standings - ((i : Nat) : Int)).toNat → (P s) → (Q s)) : ∀ (n k : Nat) (c : Int32), c = nI (i + k) → k ≤ (Int32.toInt tr_standings - ((i : Nat) : Int)).toNat → wb_X5_reachedBy_4 P pl_near tr_standings n x1 (itr (bd_X5_reachedBy_4 pl_near tr_standings x1) a i k) c → wb_X5_reachedBy_4 Q pl_near tr_standings n x1 (itr (bd_X5_reachedBy_4 pl_near tr_standings x1) a i k) c := by
  intro n
  induction n with
  | zero => intro k c hc hk h; exact False.elim h
  | succ n ih =>
    intro k c hc hk h
    have hr := tp_r tr_standings
    have hi : Int32.toInt c = ((i + k : Nat) : Int) := by rw [hc]; exact nI_toInt (by omega)
    refine And.intro (fun t0 => ?_) (fun t0 => ?_)
    · have h := And.left h t0
      have t1 := (fa_le _ _).mp t0
      have hk2 : k = (Int32.toInt tr_standings - ((i : Nat) : Int)).toNat := by omega
      subst hk2
      exact hE _ _ hc rfl h
    · have h := And.right h t0
      have t1 := mt (fa_le _ _).mpr t0
      have hs : ∀ o : Int32, o = itr (bd_X5_reachedBy_4 pl_near tr_standings x1) a i (k + 1) → wb_X5_reachedBy_4 P pl_near tr_standings n x1 o (c + 1) → wb_X5_reachedBy_4 Q pl_near tr_standings n x1 o (c + 1) := by
        intro o eo h9
        have q := ih (k + 1) (c + 1) (by rw [hc]; exact nI_1 _) (by omega)
        rw [← eo] at q
        exact q h9
      rw [itr_s, ← hc, bd_X5_reachedBy_4] at hs
      refine ae ?_
      have h := h _ rfl
      refine And.intro (fun c1 => ?_) (fun c1 => ?_)
      · have h := And.left h c1
        rw [if_pos c1] at hs
        rw [j_X5_reachedBy_32] at hs
        unfold ws_X5_reachedBy_32 at h ⊢
        refine ae ?_
        have h := h _ rfl
        have q9 := hs _ rfl
        exact q9 h
      · have h := And.right h c1
        rw [if_neg c1] at hs
        refine And.intro (And.left h) ?_
        have h := And.right h
        refine ae ?_
        have h := h _ rfl
        rw [j_X5_reachedBy_32] at hs
        unfold ws_X5_reachedBy_32 at h ⊢
        refine ae ?_
        have h := h _ rfl
        have q9 := hs _ rfl
        exact q9 h
noncomputable def F_X5_reachedBy (p0 : Int32) (pl_near : Nat → Int32) (tr_standings : Int32) : Int32 := ex_X5_reachedBy_4 (fun o0 => o0) pl_near tr_standings p0 (nI (0 + (Int32.toInt tr_standings - ((0 : Nat) : Int)).toNat)) (itr (bd_X5_reachedBy_4 pl_near tr_standings p0) 0 0 (Int32.toInt tr_standings - ((0 : Nat) : Int)).toNat)
set_option maxHeartbeats 200000 in
set_option maxRecDepth 10000 in
theorem dt_X5_reachedBy {P Q : Int32 → Prop} {p0 : Int32} {pl_near : Nat → Int32} {tr_standings : Int32} (h : wp_X5_reachedBy P p0 pl_near tr_standings) (hq : ∀ o : Int32, o = F_X5_reachedBy p0 pl_near tr_standings → P o → Q o) : wp_X5_reachedBy Q p0 pl_near tr_standings := by
  rw [F_X5_reachedBy] at hq
  obtain ⟨n1, h⟩ := h
  refine ⟨n1, dl_X5_reachedBy_4 (a := 0) (i := 0) (by decide) ?_ n1 0 0 (by decide) (Nat.zero_le _) h⟩
  intro cc2 s3 ec4 es5 h
  rw [← ec4, ← es5, ex_X5_reachedBy_4] at hq
  have q9 := hq _ rfl
  exact q9 h
theorem du_X5_reachedBy {P Q : Int32 → Prop} {p0 : Int32} {pl_near : Nat → Int32} {tr_standings : Int32} (h : wp_X5_reachedBy P p0 pl_near tr_standings) (hq : P (F_X5_reachedBy p0 pl_near tr_standings) → Q (F_X5_reachedBy p0 pl_near tr_standings)) : wp_X5_reachedBy Q p0 pl_near tr_standings := dt_X5_reachedBy h (fun o eo => by rw [eo]; exact hq)
noncomputable def bd_X5_lookAs_13 (tr_fruits : Int32) (tr_standings : Int32) (tr_x : Nat → Int32) (tr_height : Nat → Int32) (tr_ripe : Nat → Int32) (tr_foot : Nat → Int32) (tr_fork : Nat → Int32) (tr_settings : Nat → Int32) (no_apron : Int32) (no_basket : Int32) (no_ground : Int32) (x2 : Int32) (x3 : Int32) (pl_wanted : Int32) (c : Int32) (s : (Nat → Int32)) : (Nat → Int32) := (upd s c.toNatClampNeg (F_X3_within c x3 tr_fruits tr_x tr_height tr_foot tr_fork))
noncomputable def ex_X5_lookAs_13 {R : Type} (po : Int32 → (Nat → Int32) → R) (tr_fruits : Int32) (tr_standings : Int32) (tr_x : Nat → Int32) (tr_height : Nat → Int32) (tr_ripe : Nat → Int32) (tr_foot : Nat → Int32) (tr_fork : Nat → Int32) (tr_settings : Nat → Int32) (no_apron : Int32) (no_basket : Int32) (no_ground : Int32) (x2 : Int32) (x3 : Int32) (pl_wanted : Int32) (c : Int32) (s : (Nat → Int32)) : R := po (((F_X0_hanging tr_fruits no_apron no_basket no_ground) &&& (F_X3_ripeBy x2 tr_fruits tr_ripe)) &&& (F_X5_reachedBy (F_X3_allStandings tr_standings) s tr_standings)) s
set_option maxHeartbeats 200000 in
set_option maxRecDepth 10000 in
theorem dl_X5_lookAs_13 {P Q : Int32 → (Nat → Int32) → Prop} {tr_fruits : Int32} {tr_standings : Int32} {tr_x : Nat → Int32} {tr_height : Nat → Int32} {tr_ripe : Nat → Int32} {tr_foot : Nat → Int32} {tr_fork : Nat → Int32} {tr_settings : Nat → Int32} {no_apron : Int32} {no_basket : Int32} {no_ground : Int32} {x2 : Int32} {x3 : Int32} {pl_wanted : Int32} {a : (Nat → Int32)} {i : Nat} (hi0 : i < 2147483648) (hE : ∀ (c : Int32) (s : (Nat → Int32)), c = nI (i + (Int32.toInt tr_standings - ((i : Nat) : Int)).toNat) → s = itr (bd_X5_lookAs_13 tr_fruits tr_standings tr_x tr_height tr_ripe tr_foot tr_fork tr_settings no_apron no_basket no_ground x2 x3 pl_wanted) a i (Int32.toInt tr_standings - ((i : Nat) : Int)).toNat → (wp_X0_hanging (fun r_2 => wp_X3_ripeBy (fun r_3 => ∀ v_4 : Int32, v_4 = r_2 &&& r_3 → wp_X3_allStandings (fun r_5 => wp_X5_reachedBy (fun r_6 => ∀ v_7 : Int32, v_7 = v_4 &&& r_6 → P v_7 s) r_5 s tr_standings) tr_standings) x2 tr_fruits tr_ripe) tr_fruits no_apron no_basket no_ground) → (wp_X0_hanging (fun r_2 => wp_X3_ripeBy (fun r_3 => ∀ v_4 : Int32, v_4 = r_2 &&& r_3 → wp_X3_allStandings (fun r_5 => wp_X5_reachedBy (fun r_6 => ∀ v_7 : Int32, v_7 = v_4 &&& r_6 → Q v_7 s) r_5 s tr_standings) tr_standings) x2 tr_fruits tr_ripe) tr_fruits no_apron no_basket no_ground)) : ∀ (n k : Nat) (c : Int32), c = nI (i + k) → k ≤ (Int32.toInt tr_standings - ((i : Nat) : Int)).toNat → wb_X5_lookAs_13 P tr_fruits tr_standings tr_x tr_height tr_ripe tr_foot tr_fork tr_settings no_apron no_basket no_ground n x2 x3 c pl_wanted (itr (bd_X5_lookAs_13 tr_fruits tr_standings tr_x tr_height tr_ripe tr_foot tr_fork tr_settings no_apron no_basket no_ground x2 x3 pl_wanted) a i k) → wb_X5_lookAs_13 Q tr_fruits tr_standings tr_x tr_height tr_ripe tr_foot tr_fork tr_settings no_apron no_basket no_ground n x2 x3 c pl_wanted (itr (bd_X5_lookAs_13 tr_fruits tr_standings tr_x tr_height tr_ripe tr_foot tr_fork tr_settings no_apron no_basket no_ground x2 x3 pl_wanted) a i k) := by
  intro n
  induction n with
  | zero => intro k c hc hk h; exact False.elim h
  | succ n ih =>
    intro k c hc hk h
    have hr := tp_r tr_standings
    have hi : Int32.toInt c = ((i + k : Nat) : Int) := by rw [hc]; exact nI_toInt (by omega)
    refine And.intro (fun t0 => ?_) (fun t0 => ?_)
    · have h := And.left h t0
      have t1 := (fa_le _ _).mp t0
      have hk2 : k = (Int32.toInt tr_standings - ((i : Nat) : Int)).toNat := by omega
      subst hk2
      exact hE _ _ hc rfl h
    · have h := And.right h t0
      have t1 := mt (fa_le _ _).mpr t0
      have hs : ∀ o : (Nat → Int32), o = itr (bd_X5_lookAs_13 tr_fruits tr_standings tr_x tr_height tr_ripe tr_foot tr_fork tr_settings no_apron no_basket no_ground x2 x3 pl_wanted) a i (k + 1) → wb_X5_lookAs_13 P tr_fruits tr_standings tr_x tr_height tr_ripe tr_foot tr_fork tr_settings no_apron no_basket no_ground n x2 x3 (c + 1) pl_wanted o → wb_X5_lookAs_13 Q tr_fruits tr_standings tr_x tr_height tr_ripe tr_foot tr_fork tr_settings no_apron no_basket no_ground n x2 x3 (c + 1) pl_wanted o := by
        intro o eo h9
        have q := ih (k + 1) (c + 1) (by rw [hc]; exact nI_1 _) (by omega)
        rw [← eo] at q
        exact q h9
      rw [itr_s, ← hc, bd_X5_lookAs_13] at hs
      refine du_X3_within h ?_
      intro h
      refine And.intro (And.left h) ?_
      have h := And.right h
      refine ae ?_
      have h := h _ rfl
      have q9 := hs _ rfl
      exact q9 h
noncomputable def F_X5_lookAs (p0 : Int32) (p1 : Int32) (pl_wanted : Int32) (pl_near : Nat → Int32) (tr_fruits : Int32) (tr_standings : Int32) (tr_x : Nat → Int32) (tr_height : Nat → Int32) (tr_ripe : Nat → Int32) (tr_foot : Nat → Int32) (tr_fork : Nat → Int32) (tr_settings : Nat → Int32) (no_apron : Int32) (no_basket : Int32) (no_ground : Int32) : Int32 × (Nat → Int32) := ex_X5_lookAs_13 (fun o0 o1 => (o0, o1)) tr_fruits tr_standings tr_x tr_height tr_ripe tr_foot tr_fork tr_settings no_apron no_basket no_ground p1 (F_X3_reach p0 0 tr_settings) pl_wanted (nI (0 + (Int32.toInt tr_standings - ((0 : Nat) : Int)).toNat)) (itr (bd_X5_lookAs_13 tr_fruits tr_standings tr_x tr_height tr_ripe tr_foot tr_fork tr_settings no_apron no_basket no_ground p1 (F_X3_reach p0 0 tr_settings) pl_wanted) pl_near 0 (Int32.toInt tr_standings - ((0 : Nat) : Int)).toNat)
set_option maxHeartbeats 200000 in
set_option maxRecDepth 10000 in
theorem dt_X5_lookAs {P Q : Int32 → (Nat → Int32) → Prop} {p0 : Int32} {p1 : Int32} {pl_wanted : Int32} {pl_near : Nat → Int32} {tr_fruits : Int32} {tr_standings : Int32} {tr_x : Nat → Int32} {tr_height : Nat → Int32} {tr_ripe : Nat → Int32} {tr_foot : Nat → Int32} {tr_fork : Nat → Int32} {tr_settings : Nat → Int32} {no_apron : Int32} {no_basket : Int32} {no_ground : Int32} (h : wp_X5_lookAs P p0 p1 pl_wanted pl_near tr_fruits tr_standings tr_x tr_height tr_ripe tr_foot tr_fork tr_settings no_apron no_basket no_ground) (hq : ∀ o : Int32 × (Nat → Int32), o = F_X5_lookAs p0 p1 pl_wanted pl_near tr_fruits tr_standings tr_x tr_height tr_ripe tr_foot tr_fork tr_settings no_apron no_basket no_ground → P o.1 o.2 → Q o.1 o.2) : wp_X5_lookAs Q p0 p1 pl_wanted pl_near tr_fruits tr_standings tr_x tr_height tr_ripe tr_foot tr_fork tr_settings no_apron no_basket no_ground := by
  rw [F_X5_lookAs] at hq
  refine du_X3_reach h ?_
  intro h
  obtain ⟨n1, h⟩ := h
  refine ⟨n1, dl_X5_lookAs_13 (a := pl_near) (i := 0) (by decide) ?_ n1 0 0 (by decide) (Nat.zero_le _) h⟩
  intro cc2 s3 ec4 es5 h
  rw [← ec4, ← es5, ex_X5_lookAs_13] at hq
  refine du_X0_hanging h ?_
  intro h
  refine du_X3_ripeBy h ?_
  intro h
  refine ae ?_
  have h := h _ rfl
  refine du_X3_allStandings h ?_
  intro h
  refine du_X5_reachedBy h ?_
  intro h
  refine ae ?_
  have h := h _ rfl
  have q9 := hq _ rfl
  dsimp only at q9
  exact q9 h
theorem du_X5_lookAs {P Q : Int32 → (Nat → Int32) → Prop} {p0 : Int32} {p1 : Int32} {pl_wanted : Int32} {pl_near : Nat → Int32} {tr_fruits : Int32} {tr_standings : Int32} {tr_x : Nat → Int32} {tr_height : Nat → Int32} {tr_ripe : Nat → Int32} {tr_foot : Nat → Int32} {tr_fork : Nat → Int32} {tr_settings : Nat → Int32} {no_apron : Int32} {no_basket : Int32} {no_ground : Int32} (h : wp_X5_lookAs P p0 p1 pl_wanted pl_near tr_fruits tr_standings tr_x tr_height tr_ripe tr_foot tr_fork tr_settings no_apron no_basket no_ground) (hq : P (F_X5_lookAs p0 p1 pl_wanted pl_near tr_fruits tr_standings tr_x tr_height tr_ripe tr_foot tr_fork tr_settings no_apron no_basket no_ground).1 (F_X5_lookAs p0 p1 pl_wanted pl_near tr_fruits tr_standings tr_x tr_height tr_ripe tr_foot tr_fork tr_settings no_apron no_basket no_ground).2 → Q (F_X5_lookAs p0 p1 pl_wanted pl_near tr_fruits tr_standings tr_x tr_height tr_ripe tr_foot tr_fork tr_settings no_apron no_basket no_ground).1 (F_X5_lookAs p0 p1 pl_wanted pl_near tr_fruits tr_standings tr_x tr_height tr_ripe tr_foot tr_fork tr_settings no_apron no_basket no_ground).2) : wp_X5_lookAs Q p0 p1 pl_wanted pl_near tr_fruits tr_standings tr_x tr_height tr_ripe tr_foot tr_fork tr_settings no_apron no_basket no_ground := dt_X5_lookAs h (fun o eo => by rw [eo]; exact hq)
noncomputable def F_X5_look (pl_wanted : Int32) (pl_near : Nat → Int32) (tr_fruits : Int32) (tr_standings : Int32) (tr_x : Nat → Int32) (tr_height : Nat → Int32) (tr_ripe : Nat → Int32) (tr_foot : Nat → Int32) (tr_fork : Nat → Int32) (tr_settings : Nat → Int32) (no_apron : Int32) (no_basket : Int32) (no_ground : Int32) (no_helper : Int32) (no_today : Int32) : Int32 × (Nat → Int32) := ((F_X5_lookAs no_helper no_today pl_wanted pl_near tr_fruits tr_standings tr_x tr_height tr_ripe tr_foot tr_fork tr_settings no_apron no_basket no_ground).1, (F_X5_lookAs no_helper no_today pl_wanted pl_near tr_fruits tr_standings tr_x tr_height tr_ripe tr_foot tr_fork tr_settings no_apron no_basket no_ground).2)
set_option maxHeartbeats 200000 in
set_option maxRecDepth 10000 in
theorem dt_X5_look {P Q : Int32 → (Nat → Int32) → Prop} {pl_wanted : Int32} {pl_near : Nat → Int32} {tr_fruits : Int32} {tr_standings : Int32} {tr_x : Nat → Int32} {tr_height : Nat → Int32} {tr_ripe : Nat → Int32} {tr_foot : Nat → Int32} {tr_fork : Nat → Int32} {tr_settings : Nat → Int32} {no_apron : Int32} {no_basket : Int32} {no_ground : Int32} {no_helper : Int32} {no_today : Int32} (h : wp_X5_look P pl_wanted pl_near tr_fruits tr_standings tr_x tr_height tr_ripe tr_foot tr_fork tr_settings no_apron no_basket no_ground no_helper no_today) (hq : ∀ o : Int32 × (Nat → Int32), o = F_X5_look pl_wanted pl_near tr_fruits tr_standings tr_x tr_height tr_ripe tr_foot tr_fork tr_settings no_apron no_basket no_ground no_helper no_today → P o.1 o.2 → Q o.1 o.2) : wp_X5_look Q pl_wanted pl_near tr_fruits tr_standings tr_x tr_height tr_ripe tr_foot tr_fork tr_settings no_apron no_basket no_ground no_helper no_today := by
  rw [F_X5_look] at hq
  refine du_X5_lookAs h ?_
  intro h
  have q9 := hq _ rfl
  dsimp only at q9
  exact q9 h
theorem du_X5_look {P Q : Int32 → (Nat → Int32) → Prop} {pl_wanted : Int32} {pl_near : Nat → Int32} {tr_fruits : Int32} {tr_standings : Int32} {tr_x : Nat → Int32} {tr_height : Nat → Int32} {tr_ripe : Nat → Int32} {tr_foot : Nat → Int32} {tr_fork : Nat → Int32} {tr_settings : Nat → Int32} {no_apron : Int32} {no_basket : Int32} {no_ground : Int32} {no_helper : Int32} {no_today : Int32} (h : wp_X5_look P pl_wanted pl_near tr_fruits tr_standings tr_x tr_height tr_ripe tr_foot tr_fork tr_settings no_apron no_basket no_ground no_helper no_today) (hq : P (F_X5_look pl_wanted pl_near tr_fruits tr_standings tr_x tr_height tr_ripe tr_foot tr_fork tr_settings no_apron no_basket no_ground no_helper no_today).1 (F_X5_look pl_wanted pl_near tr_fruits tr_standings tr_x tr_height tr_ripe tr_foot tr_fork tr_settings no_apron no_basket no_ground no_helper no_today).2 → Q (F_X5_look pl_wanted pl_near tr_fruits tr_standings tr_x tr_height tr_ripe tr_foot tr_fork tr_settings no_apron no_basket no_ground no_helper no_today).1 (F_X5_look pl_wanted pl_near tr_fruits tr_standings tr_x tr_height tr_ripe tr_foot tr_fork tr_settings no_apron no_basket no_ground no_helper no_today).2) : wp_X5_look Q pl_wanted pl_near tr_fruits tr_standings tr_x tr_height tr_ripe tr_foot tr_fork tr_settings no_apron no_basket no_ground no_helper no_today := dt_X5_look h (fun o eo => by rw [eo]; exact hq)
noncomputable def F_X5_wantedFrom (p0 : Int32) (pl_wanted : Int32) (pl_near : Nat → Int32) : Int32 := (pl_wanted &&& (pl_near p0.toNatClampNeg))
set_option maxHeartbeats 200000 in
set_option maxRecDepth 10000 in
theorem dt_X5_wantedFrom {P Q : Int32 → Prop} {p0 : Int32} {pl_wanted : Int32} {pl_near : Nat → Int32} (h : wp_X5_wantedFrom P p0 pl_wanted pl_near) (hq : ∀ o : Int32, o = F_X5_wantedFrom p0 pl_wanted pl_near → P o → Q o) : wp_X5_wantedFrom Q p0 pl_wanted pl_near := by
  rw [F_X5_wantedFrom] at hq
  refine And.intro (And.left h) ?_
  have h := And.right h
  have q9 := hq _ rfl
  exact q9 h
theorem du_X5_wantedFrom {P Q : Int32 → Prop} {p0 : Int32} {pl_wanted : Int32} {pl_near : Nat → Int32} (h : wp_X5_wantedFrom P p0 pl_wanted pl_near) (hq : P (F_X5_wantedFrom p0 pl_wanted pl_near) → Q (F_X5_wantedFrom p0 pl_wanted pl_near)) : wp_X5_wantedFrom Q p0 pl_wanted pl_near := dt_X5_wantedFrom h (fun o eo => by rw [eo]; exact hq)
noncomputable def F_X9_both (p0 : Int32) (p1 : Int32) (pl_wanted : Int32) (pl_near : Nat → Int32) (tr_fruits : Int32) (tr_standings : Int32) (tr_x : Nat → Int32) (tr_height : Nat → Int32) (tr_ripe : Nat → Int32) (tr_foot : Nat → Int32) (tr_fork : Nat → Int32) (tr_settings : Nat → Int32) (no_apron : Int32) (no_basket : Int32) (no_ground : Int32) (no_helper : Int32) (no_today : Int32) (ro_size : Int32) (ro_numbers : Nat → Int32) : Int32 × Int32 × (Nat → Int32) × Int32 × (Nat → Int32) := if (F_X3_hasStanding p0 tr_standings) = 0 then ((-1), pl_wanted, pl_near, ro_size, ro_numbers) else (if (F_X3_hasStanding p1 tr_standings) = 0 then ((-1), pl_wanted, pl_near, ro_size, ro_numbers) else (if p0 = p1 then ((-1), pl_wanted, pl_near, ro_size, ro_numbers) else (((F_X5_wantedFrom p0 (F_X5_look pl_wanted pl_near tr_fruits tr_standings tr_x tr_height tr_ripe tr_foot tr_fork tr_settings no_apron no_basket no_ground no_helper no_today).1 (F_X5_look pl_wanted pl_near tr_fruits tr_standings tr_x tr_height tr_ripe tr_foot tr_fork tr_settings no_apron no_basket no_ground no_helper no_today).2) &&& (F_X5_wantedFrom p1 (F_X5_look pl_wanted pl_near tr_fruits tr_standings tr_x tr_height tr_ripe tr_foot tr_fork tr_settings no_apron no_basket no_ground no_helper no_today).1 (F_X5_look pl_wanted pl_near tr_fruits tr_standings tr_x tr_height tr_ripe tr_foot tr_fork tr_settings no_apron no_basket no_ground no_helper no_today).2)), (F_X5_look pl_wanted pl_near tr_fruits tr_standings tr_x tr_height tr_ripe tr_foot tr_fork tr_settings no_apron no_basket no_ground no_helper no_today).1, (F_X5_look pl_wanted pl_near tr_fruits tr_standings tr_x tr_height tr_ripe tr_foot tr_fork tr_settings no_apron no_basket no_ground no_helper no_today).2, (F_X9_tell_ ((F_X5_wantedFrom p0 (F_X5_look pl_wanted pl_near tr_fruits tr_standings tr_x tr_height tr_ripe tr_foot tr_fork tr_settings no_apron no_basket no_ground no_helper no_today).1 (F_X5_look pl_wanted pl_near tr_fruits tr_standings tr_x tr_height tr_ripe tr_foot tr_fork tr_settings no_apron no_basket no_ground no_helper no_today).2) &&& ((F_X5_wantedFrom p1 (F_X5_look pl_wanted pl_near tr_fruits tr_standings tr_x tr_height tr_ripe tr_foot tr_fork tr_settings no_apron no_basket no_ground no_helper no_today).1 (F_X5_look pl_wanted pl_near tr_fruits tr_standings tr_x tr_height tr_ripe tr_foot tr_fork tr_settings no_apron no_basket no_ground no_helper no_today).2) ^^^ (-1))) ((F_X5_wantedFrom p1 (F_X5_look pl_wanted pl_near tr_fruits tr_standings tr_x tr_height tr_ripe tr_foot tr_fork tr_settings no_apron no_basket no_ground no_helper no_today).1 (F_X5_look pl_wanted pl_near tr_fruits tr_standings tr_x tr_height tr_ripe tr_foot tr_fork tr_settings no_apron no_basket no_ground no_helper no_today).2) &&& ((F_X5_wantedFrom p0 (F_X5_look pl_wanted pl_near tr_fruits tr_standings tr_x tr_height tr_ripe tr_foot tr_fork tr_settings no_apron no_basket no_ground no_helper no_today).1 (F_X5_look pl_wanted pl_near tr_fruits tr_standings tr_x tr_height tr_ripe tr_foot tr_fork tr_settings no_apron no_basket no_ground no_helper no_today).2) ^^^ (-1))) ro_size ro_numbers).1, (F_X9_tell_ ((F_X5_wantedFrom p0 (F_X5_look pl_wanted pl_near tr_fruits tr_standings tr_x tr_height tr_ripe tr_foot tr_fork tr_settings no_apron no_basket no_ground no_helper no_today).1 (F_X5_look pl_wanted pl_near tr_fruits tr_standings tr_x tr_height tr_ripe tr_foot tr_fork tr_settings no_apron no_basket no_ground no_helper no_today).2) &&& ((F_X5_wantedFrom p1 (F_X5_look pl_wanted pl_near tr_fruits tr_standings tr_x tr_height tr_ripe tr_foot tr_fork tr_settings no_apron no_basket no_ground no_helper no_today).1 (F_X5_look pl_wanted pl_near tr_fruits tr_standings tr_x tr_height tr_ripe tr_foot tr_fork tr_settings no_apron no_basket no_ground no_helper no_today).2) ^^^ (-1))) ((F_X5_wantedFrom p1 (F_X5_look pl_wanted pl_near tr_fruits tr_standings tr_x tr_height tr_ripe tr_foot tr_fork tr_settings no_apron no_basket no_ground no_helper no_today).1 (F_X5_look pl_wanted pl_near tr_fruits tr_standings tr_x tr_height tr_ripe tr_foot tr_fork tr_settings no_apron no_basket no_ground no_helper no_today).2) &&& ((F_X5_wantedFrom p0 (F_X5_look pl_wanted pl_near tr_fruits tr_standings tr_x tr_height tr_ripe tr_foot tr_fork tr_settings no_apron no_basket no_ground no_helper no_today).1 (F_X5_look pl_wanted pl_near tr_fruits tr_standings tr_x tr_height tr_ripe tr_foot tr_fork tr_settings no_apron no_basket no_ground no_helper no_today).2) ^^^ (-1))) ro_size ro_numbers).2)))
set_option maxHeartbeats 200000 in
set_option maxRecDepth 10000 in
theorem dt_X9_both {P Q : Int32 → Int32 → (Nat → Int32) → Int32 → (Nat → Int32) → Prop} {p0 : Int32} {p1 : Int32} {pl_wanted : Int32} {pl_near : Nat → Int32} {tr_fruits : Int32} {tr_standings : Int32} {tr_x : Nat → Int32} {tr_height : Nat → Int32} {tr_ripe : Nat → Int32} {tr_foot : Nat → Int32} {tr_fork : Nat → Int32} {tr_settings : Nat → Int32} {no_apron : Int32} {no_basket : Int32} {no_ground : Int32} {no_helper : Int32} {no_today : Int32} {ro_size : Int32} {ro_numbers : Nat → Int32} (h : wp_X9_both P p0 p1 pl_wanted pl_near tr_fruits tr_standings tr_x tr_height tr_ripe tr_foot tr_fork tr_settings no_apron no_basket no_ground no_helper no_today ro_size ro_numbers) (hq : ∀ o : Int32 × Int32 × (Nat → Int32) × Int32 × (Nat → Int32), o = F_X9_both p0 p1 pl_wanted pl_near tr_fruits tr_standings tr_x tr_height tr_ripe tr_foot tr_fork tr_settings no_apron no_basket no_ground no_helper no_today ro_size ro_numbers → P o.1 o.2.1 o.2.2.1 o.2.2.2.1 o.2.2.2.2 → Q o.1 o.2.1 o.2.2.1 o.2.2.2.1 o.2.2.2.2) : wp_X9_both Q p0 p1 pl_wanted pl_near tr_fruits tr_standings tr_x tr_height tr_ripe tr_foot tr_fork tr_settings no_apron no_basket no_ground no_helper no_today ro_size ro_numbers := by
  rw [F_X9_both] at hq
  refine du_X3_hasStanding h ?_
  intro h
  refine And.intro (fun c1 => ?_) (fun c1 => ?_)
  · have h := And.left h c1
    rw [if_pos c1] at hq
    have q9 := hq _ rfl
    dsimp only at q9
    exact q9 h
  · have h := And.right h c1
    rw [if_neg c1] at hq
    refine du_X3_hasStanding h ?_
    intro h
    refine And.intro (fun c2 => ?_) (fun c2 => ?_)
    · have h := And.left h c2
      rw [if_pos c2] at hq
      have q9 := hq _ rfl
      dsimp only at q9
      exact q9 h
    · have h := And.right h c2
      rw [if_neg c2] at hq
      refine And.intro (fun c3 => ?_) (fun c3 => ?_)
      · have h := And.left h c3
        rw [if_neg c3] at hq
        refine du_X5_look h ?_
        intro h
        refine du_X5_wantedFrom h ?_
        intro h
        refine du_X5_wantedFrom h ?_
        intro h
        refine ae ?_
        have h := h _ rfl
        refine ae ?_
        have h := h _ rfl
        refine du_X9_tell_ h ?_
        intro h
        have q9 := hq _ rfl
        dsimp only at q9
        exact q9 h
      · have h := And.right h c3
        rw [if_pos c3] at hq
        have q9 := hq _ rfl
        dsimp only at q9
        exact q9 h
theorem du_X9_both {P Q : Int32 → Int32 → (Nat → Int32) → Int32 → (Nat → Int32) → Prop} {p0 : Int32} {p1 : Int32} {pl_wanted : Int32} {pl_near : Nat → Int32} {tr_fruits : Int32} {tr_standings : Int32} {tr_x : Nat → Int32} {tr_height : Nat → Int32} {tr_ripe : Nat → Int32} {tr_foot : Nat → Int32} {tr_fork : Nat → Int32} {tr_settings : Nat → Int32} {no_apron : Int32} {no_basket : Int32} {no_ground : Int32} {no_helper : Int32} {no_today : Int32} {ro_size : Int32} {ro_numbers : Nat → Int32} (h : wp_X9_both P p0 p1 pl_wanted pl_near tr_fruits tr_standings tr_x tr_height tr_ripe tr_foot tr_fork tr_settings no_apron no_basket no_ground no_helper no_today ro_size ro_numbers) (hq : P (F_X9_both p0 p1 pl_wanted pl_near tr_fruits tr_standings tr_x tr_height tr_ripe tr_foot tr_fork tr_settings no_apron no_basket no_ground no_helper no_today ro_size ro_numbers).1 (F_X9_both p0 p1 pl_wanted pl_near tr_fruits tr_standings tr_x tr_height tr_ripe tr_foot tr_fork tr_settings no_apron no_basket no_ground no_helper no_today ro_size ro_numbers).2.1 (F_X9_both p0 p1 pl_wanted pl_near tr_fruits tr_standings tr_x tr_height tr_ripe tr_foot tr_fork tr_settings no_apron no_basket no_ground no_helper no_today ro_size ro_numbers).2.2.1 (F_X9_both p0 p1 pl_wanted pl_near tr_fruits tr_standings tr_x tr_height tr_ripe tr_foot tr_fork tr_settings no_apron no_basket no_ground no_helper no_today ro_size ro_numbers).2.2.2.1 (F_X9_both p0 p1 pl_wanted pl_near tr_fruits tr_standings tr_x tr_height tr_ripe tr_foot tr_fork tr_settings no_apron no_basket no_ground no_helper no_today ro_size ro_numbers).2.2.2.2 → Q (F_X9_both p0 p1 pl_wanted pl_near tr_fruits tr_standings tr_x tr_height tr_ripe tr_foot tr_fork tr_settings no_apron no_basket no_ground no_helper no_today ro_size ro_numbers).1 (F_X9_both p0 p1 pl_wanted pl_near tr_fruits tr_standings tr_x tr_height tr_ripe tr_foot tr_fork tr_settings no_apron no_basket no_ground no_helper no_today ro_size ro_numbers).2.1 (F_X9_both p0 p1 pl_wanted pl_near tr_fruits tr_standings tr_x tr_height tr_ripe tr_foot tr_fork tr_settings no_apron no_basket no_ground no_helper no_today ro_size ro_numbers).2.2.1 (F_X9_both p0 p1 pl_wanted pl_near tr_fruits tr_standings tr_x tr_height tr_ripe tr_foot tr_fork tr_settings no_apron no_basket no_ground no_helper no_today ro_size ro_numbers).2.2.2.1 (F_X9_both p0 p1 pl_wanted pl_near tr_fruits tr_standings tr_x tr_height tr_ripe tr_foot tr_fork tr_settings no_apron no_basket no_ground no_helper no_today ro_size ro_numbers).2.2.2.2) : wp_X9_both Q p0 p1 pl_wanted pl_near tr_fruits tr_standings tr_x tr_height tr_ripe tr_foot tr_fork tr_settings no_apron no_basket no_ground no_helper no_today ro_size ro_numbers := dt_X9_both h (fun o eo => by rw [eo]; exact hq)
theorem dw_X9_both {Q : Int32 → Int32 → (Nat → Int32) → Int32 → (Nat → Int32) → Prop} {p0 : Int32} {p1 : Int32} {pl_wanted : Int32} {pl_near : Nat → Int32} {tr_fruits : Int32} {tr_standings : Int32} {tr_x : Nat → Int32} {tr_height : Nat → Int32} {tr_ripe : Nat → Int32} {tr_foot : Nat → Int32} {tr_fork : Nat → Int32} {tr_settings : Nat → Int32} {no_apron : Int32} {no_basket : Int32} {no_ground : Int32} {no_helper : Int32} {no_today : Int32} {ro_size : Int32} {ro_numbers : Nat → Int32} (h : wp_X9_both (fun o0 o1 o2 o3 o4 => (o0, o1, o2, o3, o4) = F_X9_both p0 p1 pl_wanted pl_near tr_fruits tr_standings tr_x tr_height tr_ripe tr_foot tr_fork tr_settings no_apron no_basket no_ground no_helper no_today ro_size ro_numbers → Q o0 o1 o2 o3 o4) p0 p1 pl_wanted pl_near tr_fruits tr_standings tr_x tr_height tr_ripe tr_foot tr_fork tr_settings no_apron no_basket no_ground no_helper no_today ro_size ro_numbers) : wp_X9_both Q p0 p1 pl_wanted pl_near tr_fruits tr_standings tr_x tr_height tr_ripe tr_foot tr_fork tr_settings no_apron no_basket no_ground no_helper no_today ro_size ro_numbers := dt_X9_both h (fun o eo hp => hp eo)
noncomputable def j_X5_isEarlier_31 {R : Type} (po : Int32 → R) : R := po 1
noncomputable def F_X5_isEarlier (p0 : Int32) (p1 : Int32) : Int32 := if ((F_J6_bitCount_0f7a4 p0) - (F_J6_bitCount_0f7a4 p1)) < 0 then (j_X5_isEarlier_31 (fun o0 => o0)) else (if ((F_J6_bitCount_0f7a4 p0) - (F_J6_bitCount_0f7a4 p1)) = 0 then (if ((p0 &&& (p0 ^^^ p1)) &&& (-(p0 ^^^ p1))) = 0 then 0 else (j_X5_isEarlier_31 (fun o0 => o0))) else 0)
set_option maxHeartbeats 200000 in
set_option maxRecDepth 10000 in
theorem dt_X5_isEarlier {P Q : Int32 → Prop} {p0 : Int32} {p1 : Int32} (h : wp_X5_isEarlier P p0 p1) (hq : ∀ o : Int32, o = F_X5_isEarlier p0 p1 → P o → Q o) : wp_X5_isEarlier Q p0 p1 := by
  rw [F_X5_isEarlier] at hq
  refine du_J6_bitCount_0f7a4 h ?_
  intro h
  refine du_J6_bitCount_0f7a4 h ?_
  intro h
  refine ae ?_
  have h := h _ rfl
  refine ae ?_
  have h := h _ rfl
  refine And.intro (fun c1 => ?_) (fun c1 => ?_)
  · have h := And.left h c1
    rw [if_pos c1] at hq
    rw [j_X5_isEarlier_31] at hq
    unfold ws_X5_isEarlier_31 at h ⊢
    have q9 := hq _ rfl
    exact q9 h
  · have h := And.right h c1
    rw [if_neg c1] at hq
    refine And.intro (fun c2 => ?_) (fun c2 => ?_)
    · have h := And.left h c2
      rw [if_neg c2] at hq
      have q9 := hq _ rfl
      exact q9 h
    · have h := And.right h c2
      rw [if_pos c2] at hq
      refine ae ?_
      have h := h _ rfl
      refine And.intro (fun c3 => ?_) (fun c3 => ?_)
      · have h := And.left h c3
        rw [if_pos c3] at hq
        have q9 := hq _ rfl
        exact q9 h
      · have h := And.right h c3
        rw [if_neg c3] at hq
        rw [j_X5_isEarlier_31] at hq
        unfold ws_X5_isEarlier_31 at h ⊢
        have q9 := hq _ rfl
        exact q9 h
theorem du_X5_isEarlier {P Q : Int32 → Prop} {p0 : Int32} {p1 : Int32} (h : wp_X5_isEarlier P p0 p1) (hq : P (F_X5_isEarlier p0 p1) → Q (F_X5_isEarlier p0 p1)) : wp_X5_isEarlier Q p0 p1 := dt_X5_isEarlier h (fun o eo => by rw [eo]; exact hq)
noncomputable def j_X5_smallestCover_45 {R : Type} (k5 : Int32 → Int32 → Int32 → Int32 → R) (pl_near : Nat → Int32) (tr_standings : Int32) (x1 : Int32) (x2 : Int32) (x3 : Int32) (x4 : Int32) : R := k5 x1 x2 x3 (x4 + 1)
noncomputable def bd_X5_smallestCover_5 (pl_near : Nat → Int32) (tr_standings : Int32) (x1 : Int32) (x2 : Int32) (c : Int32) (s : Int32) : Int32 := if (c &&& (x2 ^^^ (-1))) = 0 then (if (x1 &&& ((F_X5_reachedBy c pl_near tr_standings) ^^^ (-1))) = 0 then (if (F_X5_isEarlier c s) = 0 then (j_X5_smallestCover_45 (fun q0 q1 q2 q3 => q2) pl_near tr_standings x1 x2 s c) else (j_X5_smallestCover_45 (fun q0 q1 q2 q3 => q2) pl_near tr_standings x1 x2 c c)) else (j_X5_smallestCover_45 (fun q0 q1 q2 q3 => q2) pl_near tr_standings x1 x2 s c)) else (j_X5_smallestCover_45 (fun q0 q1 q2 q3 => q2) pl_near tr_standings x1 x2 s c)
noncomputable def ex_X5_smallestCover_5 {R : Type} (po : Int32 → R) (pl_near : Nat → Int32) (tr_standings : Int32) (x1 : Int32) (x2 : Int32) (c : Int32) (s : Int32) : R := po s
set_option maxHeartbeats 200000 in
set_option maxRecDepth 10000 in
theorem dl_X5_smallestCover_5 {P Q : Int32 → Prop} {pl_near : Nat → Int32} {tr_standings : Int32} {x1 : Int32} {x2 : Int32} {a : Int32} {i : Nat} (hi0 : i < 2147483648) (hE : ∀ (c : Int32) (s : Int32), c = nI (i + (Int32.toInt x2 - ((i : Nat) : Int)).toNat) → s = itr (bd_X5_smallestCover_5 pl_near tr_standings x1 x2) a i (Int32.toInt x2 - ((i : Nat) : Int)).toNat → (P s) → (Q s)) : ∀ (n k : Nat) (c : Int32), c = nI (i + k) → k ≤ (Int32.toInt x2 - ((i : Nat) : Int)).toNat → wb_X5_smallestCover_5 P pl_near tr_standings n x1 x2 (itr (bd_X5_smallestCover_5 pl_near tr_standings x1 x2) a i k) c → wb_X5_smallestCover_5 Q pl_near tr_standings n x1 x2 (itr (bd_X5_smallestCover_5 pl_near tr_standings x1 x2) a i k) c := by
  intro n
  induction n with
  | zero => intro k c hc hk h; exact False.elim h
  | succ n ih =>
    intro k c hc hk h
    have hr := tp_r x2
    have hi : Int32.toInt c = ((i + k : Nat) : Int) := by rw [hc]; exact nI_toInt (by omega)
    refine And.intro (fun t0 => ?_) (fun t0 => ?_)
    · have h := And.left h t0
      have t1 := (fa_le _ _).mp t0
      have hk2 : k = (Int32.toInt x2 - ((i : Nat) : Int)).toNat := by omega
      subst hk2
      exact hE _ _ hc rfl h
    · have h := And.right h t0
      have t1 := mt (fa_le _ _).mpr t0
      have hs : ∀ o : Int32, o = itr (bd_X5_smallestCover_5 pl_near tr_standings x1 x2) a i (k + 1) → wb_X5_smallestCover_5 P pl_near tr_standings n x1 x2 o (c + 1) → wb_X5_smallestCover_5 Q pl_near tr_standings n x1 x2 o (c + 1) := by
        intro o eo h9
        have q := ih (k + 1) (c + 1) (by rw [hc]; exact nI_1 _) (by omega)
        rw [← eo] at q
        exact q h9
      rw [itr_s, ← hc, bd_X5_smallestCover_5] at hs
      refine And.intro (fun c1 => ?_) (fun c1 => ?_)
      · have h := And.left h c1
        rw [if_neg c1] at hs
        rw [j_X5_smallestCover_45] at hs
        unfold ws_X5_smallestCover_45 at h ⊢
        refine ae ?_
        have h := h _ rfl
        have q9 := hs _ rfl
        exact q9 h
      · have h := And.right h c1
        rw [if_pos c1] at hs
        refine du_X5_reachedBy h ?_
        intro h
        refine And.intro (fun c2 => ?_) (fun c2 => ?_)
        · have h := And.left h c2
          rw [if_neg c2] at hs
          rw [j_X5_smallestCover_45] at hs
          unfold ws_X5_smallestCover_45 at h ⊢
          refine ae ?_
          have h := h _ rfl
          have q9 := hs _ rfl
          exact q9 h
        · have h := And.right h c2
          rw [if_pos c2] at hs
          refine du_X5_isEarlier h ?_
          intro h
          refine And.intro (fun c3 => ?_) (fun c3 => ?_)
          · have h := And.left h c3
            rw [if_pos c3] at hs
            rw [j_X5_smallestCover_45] at hs
            unfold ws_X5_smallestCover_45 at h ⊢
            refine ae ?_
            have h := h _ rfl
            have q9 := hs _ rfl
            exact q9 h
          · have h := And.right h c3
            rw [if_neg c3] at hs
            rw [j_X5_smallestCover_45] at hs
            unfold ws_X5_smallestCover_45 at h ⊢
            refine ae ?_
            have h := h _ rfl
            have q9 := hs _ rfl
            exact q9 h
noncomputable def F_X5_smallestCover (p0 : Int32) (p1 : Int32) (pl_near : Nat → Int32) (tr_standings : Int32) : Int32 := ex_X5_smallestCover_5 (fun o0 => o0) pl_near tr_standings p0 p1 (nI (0 + (Int32.toInt p1 - ((0 : Nat) : Int)).toNat)) (itr (bd_X5_smallestCover_5 pl_near tr_standings p0 p1) p1 0 (Int32.toInt p1 - ((0 : Nat) : Int)).toNat)
set_option maxHeartbeats 200000 in
set_option maxRecDepth 10000 in
theorem dt_X5_smallestCover {P Q : Int32 → Prop} {p0 : Int32} {p1 : Int32} {pl_near : Nat → Int32} {tr_standings : Int32} (h : wp_X5_smallestCover P p0 p1 pl_near tr_standings) (hq : ∀ o : Int32, o = F_X5_smallestCover p0 p1 pl_near tr_standings → P o → Q o) : wp_X5_smallestCover Q p0 p1 pl_near tr_standings := by
  rw [F_X5_smallestCover] at hq
  obtain ⟨n1, h⟩ := h
  refine ⟨n1, dl_X5_smallestCover_5 (a := p1) (i := 0) (by decide) ?_ n1 0 0 (by decide) (Nat.zero_le _) h⟩
  intro cc2 s3 ec4 es5 h
  rw [← ec4, ← es5, ex_X5_smallestCover_5] at hq
  have q9 := hq _ rfl
  exact q9 h
theorem du_X5_smallestCover {P Q : Int32 → Prop} {p0 : Int32} {p1 : Int32} {pl_near : Nat → Int32} {tr_standings : Int32} (h : wp_X5_smallestCover P p0 p1 pl_near tr_standings) (hq : P (F_X5_smallestCover p0 p1 pl_near tr_standings) → Q (F_X5_smallestCover p0 p1 pl_near tr_standings)) : wp_X5_smallestCover Q p0 p1 pl_near tr_standings := dt_X5_smallestCover h (fun o eo => by rw [eo]; exact hq)
noncomputable def j_X9_tellMembers_31 {R : Type} (k9 : Int32 → Int32 → Int32 → (Nat → Int32) → R) (x1 : Int32) (x2 : Int32) (ro_size : Int32) (ro_numbers : Nat → Int32) : R := k9 x1 (x2 + 1) ro_size ro_numbers
noncomputable def bd_X9_tellMembers_9 (x1 : Int32) (c : Int32) (s : Int32 × (Nat → Int32)) : Int32 × (Nat → Int32) := if ((x1 >>> (c &&& 31)) &&& 1) = 0 then (j_X9_tellMembers_31 (fun q0 q1 q2 q3 => (q2, q3)) x1 c s.1 s.2) else (j_X9_tellMembers_31 (fun q0 q1 q2 q3 => (q2, q3)) x1 c ((F_X6_add c s.1 s.2).1) ((F_X6_add c s.1 s.2).2))
noncomputable def ex_X9_tellMembers_9 {R : Type} (po : Int32 → Int32 → (Nat → Int32) → R) (x1 : Int32) (c : Int32) (s : Int32 × (Nat → Int32)) : R := po s.1 s.1 s.2
set_option maxHeartbeats 200000 in
set_option maxRecDepth 10000 in
theorem dl_X9_tellMembers_9 {P Q : Int32 → Int32 → (Nat → Int32) → Prop} {x1 : Int32} {a : Int32 × (Nat → Int32)} {i : Nat} (hi0 : i < 2147483648) (hE : ∀ (c : Int32) (s : Int32 × (Nat → Int32)), c = nI (i + (Int32.toInt 8 - ((i : Nat) : Int)).toNat) → s = itr (bd_X9_tellMembers_9 x1) a i (Int32.toInt 8 - ((i : Nat) : Int)).toNat → (P s.1 s.1 s.2) → (Q s.1 s.1 s.2)) : ∀ (n k : Nat) (c : Int32), c = nI (i + k) → k ≤ (Int32.toInt 8 - ((i : Nat) : Int)).toNat → wb_X9_tellMembers_9 P n x1 c (itr (bd_X9_tellMembers_9 x1) a i k).1 (itr (bd_X9_tellMembers_9 x1) a i k).2 → wb_X9_tellMembers_9 Q n x1 c (itr (bd_X9_tellMembers_9 x1) a i k).1 (itr (bd_X9_tellMembers_9 x1) a i k).2 := by
  intro n
  induction n with
  | zero => intro k c hc hk h; exact False.elim h
  | succ n ih =>
    intro k c hc hk h
    have hr := tp_r 8
    have hi : Int32.toInt c = ((i + k : Nat) : Int) := by rw [hc]; exact nI_toInt (by omega)
    refine And.intro (fun t0 => ?_) (fun t0 => ?_)
    · have h := And.left h t0
      have t1 := (fa_le _ _).mp t0
      have hk2 : k = (Int32.toInt 8 - ((i : Nat) : Int)).toNat := by omega
      subst hk2
      exact hE _ _ hc rfl h
    · have h := And.right h t0
      have t1 := mt (fa_le _ _).mpr t0
      have hs : ∀ o : Int32 × (Nat → Int32), o = itr (bd_X9_tellMembers_9 x1) a i (k + 1) → wb_X9_tellMembers_9 P n x1 (c + 1) o.1 o.2 → wb_X9_tellMembers_9 Q n x1 (c + 1) o.1 o.2 := by
        intro o eo h9
        have q := ih (k + 1) (c + 1) (by rw [hc]; exact nI_1 _) (by omega)
        rw [← eo] at q
        exact q h9
      rw [itr_s, ← hc, bd_X9_tellMembers_9] at hs
      refine ae ?_
      have h := h _ rfl
      refine And.intro (fun c1 => ?_) (fun c1 => ?_)
      · have h := And.left h c1
        rw [if_pos c1] at hs
        rw [j_X9_tellMembers_31] at hs
        unfold ws_X9_tellMembers_31 at h ⊢
        refine ae ?_
        have h := h _ rfl
        have q9 := hs _ rfl
        dsimp only at q9
        exact q9 h
      · have h := And.right h c1
        rw [if_neg c1] at hs
        refine du_X6_add h ?_
        intro h
        rw [j_X9_tellMembers_31] at hs
        unfold ws_X9_tellMembers_31 at h ⊢
        refine ae ?_
        have h := h _ rfl
        have q9 := hs _ rfl
        dsimp only at q9
        exact q9 h
noncomputable def F_X9_tellMembers (p0 : Int32) (ro_size : Int32) (ro_numbers : Nat → Int32) : Int32 × Int32 × (Nat → Int32) := ex_X9_tellMembers_9 (fun o0 o1 o2 => (o0, o1, o2)) p0 (nI (0 + (Int32.toInt 8 - ((0 : Nat) : Int)).toNat)) (itr (bd_X9_tellMembers_9 p0) ((F_X6_clear ro_size), ro_numbers) 0 (Int32.toInt 8 - ((0 : Nat) : Int)).toNat)
set_option maxHeartbeats 200000 in
set_option maxRecDepth 10000 in
theorem dt_X9_tellMembers {P Q : Int32 → Int32 → (Nat → Int32) → Prop} {p0 : Int32} {ro_size : Int32} {ro_numbers : Nat → Int32} (h : wp_X9_tellMembers P p0 ro_size ro_numbers) (hq : ∀ o : Int32 × Int32 × (Nat → Int32), o = F_X9_tellMembers p0 ro_size ro_numbers → P o.1 o.2.1 o.2.2 → Q o.1 o.2.1 o.2.2) : wp_X9_tellMembers Q p0 ro_size ro_numbers := by
  rw [F_X9_tellMembers] at hq
  refine du_X6_clear h ?_
  intro h
  obtain ⟨n1, h⟩ := h
  refine ⟨n1, dl_X9_tellMembers_9 (a := ((F_X6_clear ro_size), ro_numbers)) (i := 0) (by decide) ?_ n1 0 0 (by decide) (Nat.zero_le _) h⟩
  intro cc2 s3 ec4 es5 h
  rw [← ec4, ← es5, ex_X9_tellMembers_9] at hq
  have q9 := hq _ rfl
  dsimp only at q9
  exact q9 h
