theorem dw_X9_doAct {Q : Int32 → Int32 → Int32 → Int32 → Int32 → Int32 → Int32 → Int32 → Int32 → (Nat → Int32) → (Nat → Int32) → Prop} {p0 : Int32} {p1 : Int32} {tr_fruits : Int32} {tr_standings : Int32} {tr_x : Nat → Int32} {tr_height : Nat → Int32} {tr_worth : Nat → Int32} {tr_ripe : Nat → Int32} {tr_foot : Nat → Int32} {tr_fork : Nat → Int32} {tr_settings : Nat → Int32} {no_apron : Int32} {no_basket : Int32} {no_ground : Int32} {no_bruised : Int32} {no_ladder : Int32} {no_helper : Int32} {no_today : Int32} {no_clock : Int32} {ru_length : Int32} {ru_given : Nat → Int32} {ru_stack : Nat → Int32} {ru_program : Nat → Int32} (h : wp_X9_doAct (fun o0 o1 o2 o3 o4 o5 o6 o7 o8 o9 o10 => (o0, o1, o2, o3, o4, o5, o6, o7, o8, o9, o10) = F_X9_doAct p0 p1 tr_fruits tr_standings tr_x tr_height tr_worth tr_ripe tr_foot tr_fork tr_settings no_apron no_basket no_ground no_bruised no_ladder no_helper no_today no_clock ru_length ru_given ru_stack ru_program → Q o0 o1 o2 o3 o4 o5 o6 o7 o8 o9 o10) p0 p1 tr_fruits tr_standings tr_x tr_height tr_worth tr_ripe tr_foot tr_fork tr_settings no_apron no_basket no_ground no_bruised no_ladder no_helper no_today no_clock ru_length ru_given ru_stack ru_program) : wp_X9_doAct Q p0 p1 tr_fruits tr_standings tr_x tr_height tr_worth tr_ripe tr_foot tr_fork tr_settings no_apron no_basket no_ground no_bruised no_ladder no_helper no_today no_clock ru_length ru_given ru_stack ru_program := dt_X9_doAct h (fun o eo hp => hp eo)
noncomputable def j_X9_doActs_118 {R : Type} (po : Int32 → Int32 → Int32 → Int32 → Int32 → Int32 → Int32 → Int32 → Int32 → (Nat → Int32) → (Nat → Int32) → Int32 → Int32 → (Nat → Int32) → Int32 → (Nat → Int32) → R) (x_acts : Nat → Int32) (tr_fruits : Int32) (tr_standings : Int32) (tr_x : Nat → Int32) (tr_height : Nat → Int32) (tr_worth : Nat → Int32) (tr_ripe : Nat → Int32) (tr_foot : Nat → Int32) (tr_fork : Nat → Int32) (tr_settings : Nat → Int32) (ru_length : Int32) (ru_program : Nat → Int32) (x2 : Int32) (x3 : Int32) (x4 : Int32) (no_apron : Int32) (no_basket : Int32) (no_ground : Int32) (no_bruised : Int32) (no_ladder : Int32) (no_helper : Int32) (no_today : Int32) (no_clock : Int32) (ru_given : Nat → Int32) (ru_stack : Nat → Int32) (pa_undoable : Int32) (pa_free : Int32) (pa_cells : Nat → Int32) (ro_size : Int32) (ro_numbers : Nat → Int32) : R := po x2 no_apron no_basket no_ground no_bruised no_ladder no_helper no_today no_clock ru_given ru_stack pa_undoable pa_free pa_cells ((F_X9_tell_ x4 x3 ro_size ro_numbers).1) ((F_X9_tell_ x4 x3 ro_size ro_numbers).2)
noncomputable def j_X9_doActs_107 {R : Type} (po : Int32 → Int32 → Int32 → Int32 → Int32 → Int32 → Int32 → Int32 → Int32 → (Nat → Int32) → (Nat → Int32) → Int32 → Int32 → (Nat → Int32) → Int32 → (Nat → Int32) → R) (x_acts : Nat → Int32) (tr_fruits : Int32) (tr_standings : Int32) (tr_x : Nat → Int32) (tr_height : Nat → Int32) (tr_worth : Nat → Int32) (tr_ripe : Nat → Int32) (tr_foot : Nat → Int32) (tr_fork : Nat → Int32) (tr_settings : Nat → Int32) (ru_length : Int32) (ru_program : Nat → Int32) (x2 : Int32) (x3 : Int32) (x4 : Int32) (no_apron : Int32) (no_basket : Int32) (no_ground : Int32) (no_bruised : Int32) (no_ladder : Int32) (no_helper : Int32) (no_today : Int32) (no_clock : Int32) (ru_given : Nat → Int32) (ru_stack : Nat → Int32) (pa_undoable : Int32) (pa_free : Int32) (pa_cells : Nat → Int32) (ro_size : Int32) (ro_numbers : Nat → Int32) : R := if x2 ≤ 0 then (j_X9_doActs_118 po x_acts tr_fruits tr_standings tr_x tr_height tr_worth tr_ripe tr_foot tr_fork tr_settings ru_length ru_program x2 x3 x4 no_apron no_basket no_ground no_bruised no_ladder no_helper no_today no_clock ru_given ru_stack pa_undoable pa_free pa_cells ro_size ro_numbers) else (j_X9_doActs_118 po x_acts tr_fruits tr_standings tr_x tr_height tr_worth tr_ripe tr_foot tr_fork tr_settings ru_length ru_program x2 x3 x4 no_apron no_basket no_ground no_bruised no_ladder no_helper no_today no_clock ru_given ru_stack ((F_X4_hold pa_undoable pa_free).1) ((F_X4_hold pa_undoable pa_free).2) pa_cells ro_size ro_numbers)
noncomputable def j_X9_doActs_101 {R : Type} (k21 : Int32 → Int32 → Int32 → Int32 → Int32 → Int32 → Int32 → Int32 → Int32 → Int32 → Int32 → Int32 → Int32 → (Nat → Int32) → (Nat → Int32) → Int32 → Int32 → (Nat → Int32) → Int32 → (Nat → Int32) → R) (x_acts : Nat → Int32) (tr_fruits : Int32) (tr_standings : Int32) (tr_x : Nat → Int32) (tr_height : Nat → Int32) (tr_worth : Nat → Int32) (tr_ripe : Nat → Int32) (tr_foot : Nat → Int32) (tr_fork : Nat → Int32) (tr_settings : Nat → Int32) (ru_length : Int32) (ru_program : Nat → Int32) (x1 : Int32) (x2 : Int32) (x3 : Int32) (x4 : Int32) (x5 : Int32) (no_apron : Int32) (no_basket : Int32) (no_ground : Int32) (no_bruised : Int32) (no_ladder : Int32) (no_helper : Int32) (no_today : Int32) (no_clock : Int32) (ru_given : Nat → Int32) (ru_stack : Nat → Int32) (pa_undoable : Int32) (pa_free : Int32) (pa_cells : Nat → Int32) (ro_size : Int32) (ro_numbers : Nat → Int32) : R := k21 x1 x2 x3 x4 (x5 + 1) no_apron no_basket no_ground no_bruised no_ladder no_helper no_today no_clock ru_given ru_stack pa_undoable pa_free pa_cells ro_size ro_numbers
noncomputable def j_X9_doActs_99 {R : Type} (k21 : Int32 → Int32 → Int32 → Int32 → Int32 → Int32 → Int32 → Int32 → Int32 → Int32 → Int32 → Int32 → Int32 → (Nat → Int32) → (Nat → Int32) → Int32 → Int32 → (Nat → Int32) → Int32 → (Nat → Int32) → R) (x_acts : Nat → Int32) (tr_fruits : Int32) (tr_standings : Int32) (tr_x : Nat → Int32) (tr_height : Nat → Int32) (tr_worth : Nat → Int32) (tr_ripe : Nat → Int32) (tr_foot : Nat → Int32) (tr_fork : Nat → Int32) (tr_settings : Nat → Int32) (ru_length : Int32) (ru_program : Nat → Int32) (x1 : Int32) (x2 : Int32) (x4 : Int32) (x5 : Int32) (k0 : Int32) (k1 : Int32) (no_apron : Int32) (no_basket : Int32) (no_ground : Int32) (no_bruised : Int32) (no_ladder : Int32) (no_helper : Int32) (no_today : Int32) (no_clock : Int32) (ru_given : Nat → Int32) (ru_stack : Nat → Int32) (pa_undoable : Int32) (pa_free : Int32) (pa_cells : Nat → Int32) (ro_size : Int32) (ro_numbers : Nat → Int32) : R := j_X9_doActs_101 k21 x_acts tr_fruits tr_standings tr_x tr_height tr_worth tr_ripe tr_foot tr_fork tr_settings ru_length ru_program x1 x2 (k0 + k1) x4 x5 no_apron no_basket no_ground no_bruised no_ladder no_helper no_today no_clock ru_given ru_stack pa_undoable pa_free pa_cells ro_size ro_numbers
noncomputable def j_X9_doActs_94 {R : Type} (k21 : Int32 → Int32 → Int32 → Int32 → Int32 → Int32 → Int32 → Int32 → Int32 → Int32 → Int32 → Int32 → Int32 → (Nat → Int32) → (Nat → Int32) → Int32 → Int32 → (Nat → Int32) → Int32 → (Nat → Int32) → R) (x_acts : Nat → Int32) (tr_fruits : Int32) (tr_standings : Int32) (tr_x : Nat → Int32) (tr_height : Nat → Int32) (tr_worth : Nat → Int32) (tr_ripe : Nat → Int32) (tr_foot : Nat → Int32) (tr_fork : Nat → Int32) (tr_settings : Nat → Int32) (ru_length : Int32) (ru_program : Nat → Int32) (x1 : Int32) (x2 : Int32) (x4 : Int32) (x5 : Int32) (k0 : Int32) (no_apron : Int32) (no_basket : Int32) (no_ground : Int32) (no_bruised : Int32) (no_ladder : Int32) (no_helper : Int32) (no_today : Int32) (no_clock : Int32) (ru_given : Nat → Int32) (ru_stack : Nat → Int32) (pa_undoable : Int32) (pa_free : Int32) (pa_cells : Nat → Int32) (ro_size : Int32) (ro_numbers : Nat → Int32) : R := j_X9_doActs_99 k21 x_acts tr_fruits tr_standings tr_x tr_height tr_worth tr_ripe tr_foot tr_fork tr_settings ru_length ru_program x1 x2 x4 x5 k0 1 no_apron no_basket no_ground no_bruised no_ladder no_helper no_today no_clock ru_given ru_stack pa_undoable pa_free pa_cells ro_size ro_numbers
noncomputable def fs_X9_doActs_21 {R : Type} (po : Int32 → Int32 → Int32 → Int32 → Int32 → Int32 → Int32 → Int32 → Int32 → (Nat → Int32) → (Nat → Int32) → Int32 → Int32 → (Nat → Int32) → Int32 → (Nat → Int32) → R) (x_acts : Nat → Int32) (tr_fruits : Int32) (tr_standings : Int32) (tr_x : Nat → Int32) (tr_height : Nat → Int32) (tr_worth : Nat → Int32) (tr_ripe : Nat → Int32) (tr_foot : Nat → Int32) (tr_fork : Nat → Int32) (tr_settings : Nat → Int32) (ru_length : Int32) (ru_program : Nat → Int32) (nx : Int32 → Int32 → Int32 → Int32 → Int32 → Int32 → Int32 → Int32 → Int32 → Int32 → Int32 → Int32 → Int32 → (Nat → Int32) → (Nat → Int32) → Int32 → Int32 → (Nat → Int32) → Int32 → (Nat → Int32) → R) (x1 : Int32) (x2 : Int32) (x3 : Int32) (x4 : Int32) (x5 : Int32) (no_apron : Int32) (no_basket : Int32) (no_ground : Int32) (no_bruised : Int32) (no_ladder : Int32) (no_helper : Int32) (no_today : Int32) (no_clock : Int32) (ru_given : Nat → Int32) (ru_stack : Nat → Int32) (pa_undoable : Int32) (pa_free : Int32) (pa_cells : Nat → Int32) (ro_size : Int32) (ro_numbers : Nat → Int32) : R := if x1 ≤ x5 then (j_X9_doActs_107 po x_acts tr_fruits tr_standings tr_x tr_height tr_worth tr_ripe tr_foot tr_fork tr_settings ru_length ru_program x2 x3 x4 no_apron no_basket no_ground no_bruised no_ladder no_helper no_today no_clock ru_given ru_stack pa_undoable pa_free pa_cells ro_size ro_numbers) else (if 30 ≤ x5 then (j_X9_doActs_107 po x_acts tr_fruits tr_standings tr_x tr_height tr_worth tr_ripe tr_foot tr_fork tr_settings ru_length ru_program x2 x3 x4 no_apron no_basket no_ground no_bruised no_ladder no_helper no_today no_clock ru_given ru_stack pa_undoable pa_free pa_cells ro_size ro_numbers) else (if x4 = 0 then (if 0 ≤ (F_X9_doAct ((x_acts x5.toNatClampNeg) / 100) ((x_acts x5.toNatClampNeg) - (x_acts x5.toNatClampNeg) / 100 * 100) tr_fruits tr_standings tr_x tr_height tr_worth tr_ripe tr_foot tr_fork tr_settings no_apron no_basket no_ground no_bruised no_ladder no_helper no_today no_clock ru_length ru_given ru_stack ru_program).1 then (if ((x_acts x5.toNatClampNeg) / 100) = 112 then (j_X9_doActs_94 nx x_acts tr_fruits tr_standings tr_x tr_height tr_worth tr_ripe tr_foot tr_fork tr_settings ru_length ru_program x1 (x2 + 1) x4 x5 x3 ((F_X9_doAct ((x_acts x5.toNatClampNeg) / 100) ((x_acts x5.toNatClampNeg) - (x_acts x5.toNatClampNeg) / 100 * 100) tr_fruits tr_standings tr_x tr_height tr_worth tr_ripe tr_foot tr_fork tr_settings no_apron no_basket no_ground no_bruised no_ladder no_helper no_today no_clock ru_length ru_given ru_stack ru_program).2.1) ((F_X9_doAct ((x_acts x5.toNatClampNeg) / 100) ((x_acts x5.toNatClampNeg) - (x_acts x5.toNatClampNeg) / 100 * 100) tr_fruits tr_standings tr_x tr_height tr_worth tr_ripe tr_foot tr_fork tr_settings no_apron no_basket no_ground no_bruised no_ladder no_helper no_today no_clock ru_length ru_given ru_stack ru_program).2.2.1) ((F_X9_doAct ((x_acts x5.toNatClampNeg) / 100) ((x_acts x5.toNatClampNeg) - (x_acts x5.toNatClampNeg) / 100 * 100) tr_fruits tr_standings tr_x tr_height tr_worth tr_ripe tr_foot tr_fork tr_settings no_apron no_basket no_ground no_bruised no_ladder no_helper no_today no_clock ru_length ru_given ru_stack ru_program).2.2.2.1) ((F_X9_doAct ((x_acts x5.toNatClampNeg) / 100) ((x_acts x5.toNatClampNeg) - (x_acts x5.toNatClampNeg) / 100 * 100) tr_fruits tr_standings tr_x tr_height tr_worth tr_ripe tr_foot tr_fork tr_settings no_apron no_basket no_ground no_bruised no_ladder no_helper no_today no_clock ru_length ru_given ru_stack ru_program).2.2.2.2.1) ((F_X9_doAct ((x_acts x5.toNatClampNeg) / 100) ((x_acts x5.toNatClampNeg) - (x_acts x5.toNatClampNeg) / 100 * 100) tr_fruits tr_standings tr_x tr_height tr_worth tr_ripe tr_foot tr_fork tr_settings no_apron no_basket no_ground no_bruised no_ladder no_helper no_today no_clock ru_length ru_given ru_stack ru_program).2.2.2.2.2.1) ((F_X9_doAct ((x_acts x5.toNatClampNeg) / 100) ((x_acts x5.toNatClampNeg) - (x_acts x5.toNatClampNeg) / 100 * 100) tr_fruits tr_standings tr_x tr_height tr_worth tr_ripe tr_foot tr_fork tr_settings no_apron no_basket no_ground no_bruised no_ladder no_helper no_today no_clock ru_length ru_given ru_stack ru_program).2.2.2.2.2.2.1) ((F_X9_doAct ((x_acts x5.toNatClampNeg) / 100) ((x_acts x5.toNatClampNeg) - (x_acts x5.toNatClampNeg) / 100 * 100) tr_fruits tr_standings tr_x tr_height tr_worth tr_ripe tr_foot tr_fork tr_settings no_apron no_basket no_ground no_bruised no_ladder no_helper no_today no_clock ru_length ru_given ru_stack ru_program).2.2.2.2.2.2.2.1) ((F_X9_doAct ((x_acts x5.toNatClampNeg) / 100) ((x_acts x5.toNatClampNeg) - (x_acts x5.toNatClampNeg) / 100 * 100) tr_fruits tr_standings tr_x tr_height tr_worth tr_ripe tr_foot tr_fork tr_settings no_apron no_basket no_ground no_bruised no_ladder no_helper no_today no_clock ru_length ru_given ru_stack ru_program).2.2.2.2.2.2.2.2.1) ((F_X9_doAct ((x_acts x5.toNatClampNeg) / 100) ((x_acts x5.toNatClampNeg) - (x_acts x5.toNatClampNeg) / 100 * 100) tr_fruits tr_standings tr_x tr_height tr_worth tr_ripe tr_foot tr_fork tr_settings no_apron no_basket no_ground no_bruised no_ladder no_helper no_today no_clock ru_length ru_given ru_stack ru_program).2.2.2.2.2.2.2.2.2.1) ((F_X9_doAct ((x_acts x5.toNatClampNeg) / 100) ((x_acts x5.toNatClampNeg) - (x_acts x5.toNatClampNeg) / 100 * 100) tr_fruits tr_standings tr_x tr_height tr_worth tr_ripe tr_foot tr_fork tr_settings no_apron no_basket no_ground no_bruised no_ladder no_helper no_today no_clock ru_length ru_given ru_stack ru_program).2.2.2.2.2.2.2.2.2.2) pa_undoable pa_free pa_cells ro_size ro_numbers) else (if ((x_acts x5.toNatClampNeg) / 100) = 104 then (j_X9_doActs_94 nx x_acts tr_fruits tr_standings tr_x tr_height tr_worth tr_ripe tr_foot tr_fork tr_settings ru_length ru_program x1 (x2 + 1) x4 x5 x3 ((F_X9_doAct ((x_acts x5.toNatClampNeg) / 100) ((x_acts x5.toNatClampNeg) - (x_acts x5.toNatClampNeg) / 100 * 100) tr_fruits tr_standings tr_x tr_height tr_worth tr_ripe tr_foot tr_fork tr_settings no_apron no_basket no_ground no_bruised no_ladder no_helper no_today no_clock ru_length ru_given ru_stack ru_program).2.1) ((F_X9_doAct ((x_acts x5.toNatClampNeg) / 100) ((x_acts x5.toNatClampNeg) - (x_acts x5.toNatClampNeg) / 100 * 100) tr_fruits tr_standings tr_x tr_height tr_worth tr_ripe tr_foot tr_fork tr_settings no_apron no_basket no_ground no_bruised no_ladder no_helper no_today no_clock ru_length ru_given ru_stack ru_program).2.2.1) ((F_X9_doAct ((x_acts x5.toNatClampNeg) / 100) ((x_acts x5.toNatClampNeg) - (x_acts x5.toNatClampNeg) / 100 * 100) tr_fruits tr_standings tr_x tr_height tr_worth tr_ripe tr_foot tr_fork tr_settings no_apron no_basket no_ground no_bruised no_ladder no_helper no_today no_clock ru_length ru_given ru_stack ru_program).2.2.2.1) ((F_X9_doAct ((x_acts x5.toNatClampNeg) / 100) ((x_acts x5.toNatClampNeg) - (x_acts x5.toNatClampNeg) / 100 * 100) tr_fruits tr_standings tr_x tr_height tr_worth tr_ripe tr_foot tr_fork tr_settings no_apron no_basket no_ground no_bruised no_ladder no_helper no_today no_clock ru_length ru_given ru_stack ru_program).2.2.2.2.1) ((F_X9_doAct ((x_acts x5.toNatClampNeg) / 100) ((x_acts x5.toNatClampNeg) - (x_acts x5.toNatClampNeg) / 100 * 100) tr_fruits tr_standings tr_x tr_height tr_worth tr_ripe tr_foot tr_fork tr_settings no_apron no_basket no_ground no_bruised no_ladder no_helper no_today no_clock ru_length ru_given ru_stack ru_program).2.2.2.2.2.1) ((F_X9_doAct ((x_acts x5.toNatClampNeg) / 100) ((x_acts x5.toNatClampNeg) - (x_acts x5.toNatClampNeg) / 100 * 100) tr_fruits tr_standings tr_x tr_height tr_worth tr_ripe tr_foot tr_fork tr_settings no_apron no_basket no_ground no_bruised no_ladder no_helper no_today no_clock ru_length ru_given ru_stack ru_program).2.2.2.2.2.2.1) ((F_X9_doAct ((x_acts x5.toNatClampNeg) / 100) ((x_acts x5.toNatClampNeg) - (x_acts x5.toNatClampNeg) / 100 * 100) tr_fruits tr_standings tr_x tr_height tr_worth tr_ripe tr_foot tr_fork tr_settings no_apron no_basket no_ground no_bruised no_ladder no_helper no_today no_clock ru_length ru_given ru_stack ru_program).2.2.2.2.2.2.2.1) ((F_X9_doAct ((x_acts x5.toNatClampNeg) / 100) ((x_acts x5.toNatClampNeg) - (x_acts x5.toNatClampNeg) / 100 * 100) tr_fruits tr_standings tr_x tr_height tr_worth tr_ripe tr_foot tr_fork tr_settings no_apron no_basket no_ground no_bruised no_ladder no_helper no_today no_clock ru_length ru_given ru_stack ru_program).2.2.2.2.2.2.2.2.1) ((F_X9_doAct ((x_acts x5.toNatClampNeg) / 100) ((x_acts x5.toNatClampNeg) - (x_acts x5.toNatClampNeg) / 100 * 100) tr_fruits tr_standings tr_x tr_height tr_worth tr_ripe tr_foot tr_fork tr_settings no_apron no_basket no_ground no_bruised no_ladder no_helper no_today no_clock ru_length ru_given ru_stack ru_program).2.2.2.2.2.2.2.2.2.1) ((F_X9_doAct ((x_acts x5.toNatClampNeg) / 100) ((x_acts x5.toNatClampNeg) - (x_acts x5.toNatClampNeg) / 100 * 100) tr_fruits tr_standings tr_x tr_height tr_worth tr_ripe tr_foot tr_fork tr_settings no_apron no_basket no_ground no_bruised no_ladder no_helper no_today no_clock ru_length ru_given ru_stack ru_program).2.2.2.2.2.2.2.2.2.2) pa_undoable pa_free pa_cells ro_size ro_numbers) else (j_X9_doActs_99 nx x_acts tr_fruits tr_standings tr_x tr_height tr_worth tr_ripe tr_foot tr_fork tr_settings ru_length ru_program x1 (x2 + 1) x4 x5 x3 0 ((F_X9_doAct ((x_acts x5.toNatClampNeg) / 100) ((x_acts x5.toNatClampNeg) - (x_acts x5.toNatClampNeg) / 100 * 100) tr_fruits tr_standings tr_x tr_height tr_worth tr_ripe tr_foot tr_fork tr_settings no_apron no_basket no_ground no_bruised no_ladder no_helper no_today no_clock ru_length ru_given ru_stack ru_program).2.1) ((F_X9_doAct ((x_acts x5.toNatClampNeg) / 100) ((x_acts x5.toNatClampNeg) - (x_acts x5.toNatClampNeg) / 100 * 100) tr_fruits tr_standings tr_x tr_height tr_worth tr_ripe tr_foot tr_fork tr_settings no_apron no_basket no_ground no_bruised no_ladder no_helper no_today no_clock ru_length ru_given ru_stack ru_program).2.2.1) ((F_X9_doAct ((x_acts x5.toNatClampNeg) / 100) ((x_acts x5.toNatClampNeg) - (x_acts x5.toNatClampNeg) / 100 * 100) tr_fruits tr_standings tr_x tr_height tr_worth tr_ripe tr_foot tr_fork tr_settings no_apron no_basket no_ground no_bruised no_ladder no_helper no_today no_clock ru_length ru_given ru_stack ru_program).2.2.2.1) ((F_X9_doAct ((x_acts x5.toNatClampNeg) / 100) ((x_acts x5.toNatClampNeg) - (x_acts x5.toNatClampNeg) / 100 * 100) tr_fruits tr_standings tr_x tr_height tr_worth tr_ripe tr_foot tr_fork tr_settings no_apron no_basket no_ground no_bruised no_ladder no_helper no_today no_clock ru_length ru_given ru_stack ru_program).2.2.2.2.1) ((F_X9_doAct ((x_acts x5.toNatClampNeg) / 100) ((x_acts x5.toNatClampNeg) - (x_acts x5.toNatClampNeg) / 100 * 100) tr_fruits tr_standings tr_x tr_height tr_worth tr_ripe tr_foot tr_fork tr_settings no_apron no_basket no_ground no_bruised no_ladder no_helper no_today no_clock ru_length ru_given ru_stack ru_program).2.2.2.2.2.1) ((F_X9_doAct ((x_acts x5.toNatClampNeg) / 100) ((x_acts x5.toNatClampNeg) - (x_acts x5.toNatClampNeg) / 100 * 100) tr_fruits tr_standings tr_x tr_height tr_worth tr_ripe tr_foot tr_fork tr_settings no_apron no_basket no_ground no_bruised no_ladder no_helper no_today no_clock ru_length ru_given ru_stack ru_program).2.2.2.2.2.2.1) ((F_X9_doAct ((x_acts x5.toNatClampNeg) / 100) ((x_acts x5.toNatClampNeg) - (x_acts x5.toNatClampNeg) / 100 * 100) tr_fruits tr_standings tr_x tr_height tr_worth tr_ripe tr_foot tr_fork tr_settings no_apron no_basket no_ground no_bruised no_ladder no_helper no_today no_clock ru_length ru_given ru_stack ru_program).2.2.2.2.2.2.2.1) ((F_X9_doAct ((x_acts x5.toNatClampNeg) / 100) ((x_acts x5.toNatClampNeg) - (x_acts x5.toNatClampNeg) / 100 * 100) tr_fruits tr_standings tr_x tr_height tr_worth tr_ripe tr_foot tr_fork tr_settings no_apron no_basket no_ground no_bruised no_ladder no_helper no_today no_clock ru_length ru_given ru_stack ru_program).2.2.2.2.2.2.2.2.1) ((F_X9_doAct ((x_acts x5.toNatClampNeg) / 100) ((x_acts x5.toNatClampNeg) - (x_acts x5.toNatClampNeg) / 100 * 100) tr_fruits tr_standings tr_x tr_height tr_worth tr_ripe tr_foot tr_fork tr_settings no_apron no_basket no_ground no_bruised no_ladder no_helper no_today no_clock ru_length ru_given ru_stack ru_program).2.2.2.2.2.2.2.2.2.1) ((F_X9_doAct ((x_acts x5.toNatClampNeg) / 100) ((x_acts x5.toNatClampNeg) - (x_acts x5.toNatClampNeg) / 100 * 100) tr_fruits tr_standings tr_x tr_height tr_worth tr_ripe tr_foot tr_fork tr_settings no_apron no_basket no_ground no_bruised no_ladder no_helper no_today no_clock ru_length ru_given ru_stack ru_program).2.2.2.2.2.2.2.2.2.2) pa_undoable pa_free pa_cells ro_size ro_numbers))) else (j_X9_doActs_101 nx x_acts tr_fruits tr_standings tr_x tr_height tr_worth tr_ripe tr_foot tr_fork tr_settings ru_length ru_program x1 x2 x3 1 x5 ((F_X9_doAct ((x_acts x5.toNatClampNeg) / 100) ((x_acts x5.toNatClampNeg) - (x_acts x5.toNatClampNeg) / 100 * 100) tr_fruits tr_standings tr_x tr_height tr_worth tr_ripe tr_foot tr_fork tr_settings no_apron no_basket no_ground no_bruised no_ladder no_helper no_today no_clock ru_length ru_given ru_stack ru_program).2.1) ((F_X9_doAct ((x_acts x5.toNatClampNeg) / 100) ((x_acts x5.toNatClampNeg) - (x_acts x5.toNatClampNeg) / 100 * 100) tr_fruits tr_standings tr_x tr_height tr_worth tr_ripe tr_foot tr_fork tr_settings no_apron no_basket no_ground no_bruised no_ladder no_helper no_today no_clock ru_length ru_given ru_stack ru_program).2.2.1) ((F_X9_doAct ((x_acts x5.toNatClampNeg) / 100) ((x_acts x5.toNatClampNeg) - (x_acts x5.toNatClampNeg) / 100 * 100) tr_fruits tr_standings tr_x tr_height tr_worth tr_ripe tr_foot tr_fork tr_settings no_apron no_basket no_ground no_bruised no_ladder no_helper no_today no_clock ru_length ru_given ru_stack ru_program).2.2.2.1) ((F_X9_doAct ((x_acts x5.toNatClampNeg) / 100) ((x_acts x5.toNatClampNeg) - (x_acts x5.toNatClampNeg) / 100 * 100) tr_fruits tr_standings tr_x tr_height tr_worth tr_ripe tr_foot tr_fork tr_settings no_apron no_basket no_ground no_bruised no_ladder no_helper no_today no_clock ru_length ru_given ru_stack ru_program).2.2.2.2.1) ((F_X9_doAct ((x_acts x5.toNatClampNeg) / 100) ((x_acts x5.toNatClampNeg) - (x_acts x5.toNatClampNeg) / 100 * 100) tr_fruits tr_standings tr_x tr_height tr_worth tr_ripe tr_foot tr_fork tr_settings no_apron no_basket no_ground no_bruised no_ladder no_helper no_today no_clock ru_length ru_given ru_stack ru_program).2.2.2.2.2.1) ((F_X9_doAct ((x_acts x5.toNatClampNeg) / 100) ((x_acts x5.toNatClampNeg) - (x_acts x5.toNatClampNeg) / 100 * 100) tr_fruits tr_standings tr_x tr_height tr_worth tr_ripe tr_foot tr_fork tr_settings no_apron no_basket no_ground no_bruised no_ladder no_helper no_today no_clock ru_length ru_given ru_stack ru_program).2.2.2.2.2.2.1) ((F_X9_doAct ((x_acts x5.toNatClampNeg) / 100) ((x_acts x5.toNatClampNeg) - (x_acts x5.toNatClampNeg) / 100 * 100) tr_fruits tr_standings tr_x tr_height tr_worth tr_ripe tr_foot tr_fork tr_settings no_apron no_basket no_ground no_bruised no_ladder no_helper no_today no_clock ru_length ru_given ru_stack ru_program).2.2.2.2.2.2.2.1) ((F_X9_doAct ((x_acts x5.toNatClampNeg) / 100) ((x_acts x5.toNatClampNeg) - (x_acts x5.toNatClampNeg) / 100 * 100) tr_fruits tr_standings tr_x tr_height tr_worth tr_ripe tr_foot tr_fork tr_settings no_apron no_basket no_ground no_bruised no_ladder no_helper no_today no_clock ru_length ru_given ru_stack ru_program).2.2.2.2.2.2.2.2.1) ((F_X9_doAct ((x_acts x5.toNatClampNeg) / 100) ((x_acts x5.toNatClampNeg) - (x_acts x5.toNatClampNeg) / 100 * 100) tr_fruits tr_standings tr_x tr_height tr_worth tr_ripe tr_foot tr_fork tr_settings no_apron no_basket no_ground no_bruised no_ladder no_helper no_today no_clock ru_length ru_given ru_stack ru_program).2.2.2.2.2.2.2.2.2.1) ((F_X9_doAct ((x_acts x5.toNatClampNeg) / 100) ((x_acts x5.toNatClampNeg) - (x_acts x5.toNatClampNeg) / 100 * 100) tr_fruits tr_standings tr_x tr_height tr_worth tr_ripe tr_foot tr_fork tr_settings no_apron no_basket no_ground no_bruised no_ladder no_helper no_today no_clock ru_length ru_given ru_stack ru_program).2.2.2.2.2.2.2.2.2.2) pa_undoable pa_free pa_cells ro_size ro_numbers)) else (j_X9_doActs_107 po x_acts tr_fruits tr_standings tr_x tr_height tr_worth tr_ripe tr_foot tr_fork tr_settings ru_length ru_program x2 x3 x4 no_apron no_basket no_ground no_bruised no_ladder no_helper no_today no_clock ru_given ru_stack pa_undoable pa_free pa_cells ro_size ro_numbers)))
set_option maxHeartbeats 200000 in
set_option maxRecDepth 10000 in
theorem dl_X9_doActs_21 {P Q : Int32 → Int32 → Int32 → Int32 → Int32 → Int32 → Int32 → Int32 → Int32 → (Nat → Int32) → (Nat → Int32) → Int32 → Int32 → (Nat → Int32) → Int32 → (Nat → Int32) → Prop} {x_acts : Nat → Int32} {tr_fruits : Int32} {tr_standings : Int32} {tr_x : Nat → Int32} {tr_height : Nat → Int32} {tr_worth : Nat → Int32} {tr_ripe : Nat → Int32} {tr_foot : Nat → Int32} {tr_fork : Nat → Int32} {tr_settings : Nat → Int32} {ru_length : Int32} {ru_program : Nat → Int32} {R : Type} {po : Int32 → Int32 → Int32 → Int32 → Int32 → Int32 → Int32 → Int32 → Int32 → (Nat → Int32) → (Nat → Int32) → Int32 → Int32 → (Nat → Int32) → Int32 → (Nat → Int32) → R} {d : Int32 → Int32 → Int32 → Int32 → Int32 → Int32 → Int32 → Int32 → Int32 → Int32 → Int32 → Int32 → Int32 → (Nat → Int32) → (Nat → Int32) → Int32 → Int32 → (Nat → Int32) → Int32 → (Nat → Int32) → R} : ∀ (n m : Nat) (x1 : Int32) (x2 : Int32) (x3 : Int32) (x4 : Int32) (x5 : Int32) (no_apron : Int32) (no_basket : Int32) (no_ground : Int32) (no_bruised : Int32) (no_ladder : Int32) (no_helper : Int32) (no_today : Int32) (no_clock : Int32) (ru_given : Nat → Int32) (ru_stack : Nat → Int32) (pa_undoable : Int32) (pa_free : Int32) (pa_cells : Nat → Int32) (ro_size : Int32) (ro_numbers : Nat → Int32), 0 ≤ Int32.toInt x5 ∧ Int32.toInt x5 ≤ 30 → 30 - Int32.toInt x5 < (m : Int) → wb_X9_doActs_21 P x_acts tr_fruits tr_standings tr_x tr_height tr_worth tr_ripe tr_foot tr_fork tr_settings ru_length ru_program n x1 x2 x3 x4 x5 no_apron no_basket no_ground no_bruised no_ladder no_helper no_today no_clock ru_given ru_stack pa_undoable pa_free pa_cells ro_size ro_numbers → (∀ (b0 : Int32) (b1 : Int32) (b2 : Int32) (b3 : Int32) (b4 : Int32) (b5 : Int32) (b6 : Int32) (b7 : Int32) (b8 : Int32) (b9 : Nat → Int32) (b10 : Nat → Int32) (b11 : Int32) (b12 : Int32) (b13 : Nat → Int32) (b14 : Int32) (b15 : Nat → Int32), po b0 b1 b2 b3 b4 b5 b6 b7 b8 b9 b10 b11 b12 b13 b14 b15 = flp (fs_X9_doActs_21 po x_acts tr_fruits tr_standings tr_x tr_height tr_worth tr_ripe tr_foot tr_fork tr_settings ru_length ru_program) d m x1 x2 x3 x4 x5 no_apron no_basket no_ground no_bruised no_ladder no_helper no_today no_clock ru_given ru_stack pa_undoable pa_free pa_cells ro_size ro_numbers → P b0 b1 b2 b3 b4 b5 b6 b7 b8 b9 b10 b11 b12 b13 b14 b15 → Q b0 b1 b2 b3 b4 b5 b6 b7 b8 b9 b10 b11 b12 b13 b14 b15) → wb_X9_doActs_21 Q x_acts tr_fruits tr_standings tr_x tr_height tr_worth tr_ripe tr_foot tr_fork tr_settings ru_length ru_program n x1 x2 x3 x4 x5 no_apron no_basket no_ground no_bruised no_ladder no_helper no_today no_clock ru_given ru_stack pa_undoable pa_free pa_cells ro_size ro_numbers := by
  have l1 : Int32.toInt (1 : Int32) = 1 := by decide
  have l30 : Int32.toInt (30 : Int32) = 30 := by decide
  intro n
  induction n with
  | zero => intro m x1 x2 x3 x4 x5 no_apron no_basket no_ground no_bruised no_ladder no_helper no_today no_clock ru_given ru_stack pa_undoable pa_free pa_cells ro_size ro_numbers hv hm h hq; exact False.elim h
  | succ n ih =>
    intro m x1 x2 x3 x4 x5 no_apron no_basket no_ground no_bruised no_ladder no_helper no_today no_clock ru_given ru_stack pa_undoable pa_free pa_cells ro_size ro_numbers hv hm h hq
    cases m with
    | zero => exfalso; omega
    | succ m =>
      rw [flp_s, fs_X9_doActs_21] at hq
      have h : ws_X9_doActs_21 P (wb_X9_doActs_21 P x_acts tr_fruits tr_standings tr_x tr_height tr_worth tr_ripe tr_foot tr_fork tr_settings ru_length ru_program n) x_acts tr_fruits tr_standings tr_x tr_height tr_worth tr_ripe tr_foot tr_fork tr_settings ru_length ru_program x1 x2 x3 x4 x5 no_apron no_basket no_ground no_bruised no_ladder no_helper no_today no_clock ru_given ru_stack pa_undoable pa_free pa_cells ro_size ro_numbers := h
      show ws_X9_doActs_21 Q (wb_X9_doActs_21 Q x_acts tr_fruits tr_standings tr_x tr_height tr_worth tr_ripe tr_foot tr_fork tr_settings ru_length ru_program n) x_acts tr_fruits tr_standings tr_x tr_height tr_worth tr_ripe tr_foot tr_fork tr_settings ru_length ru_program x1 x2 x3 x4 x5 no_apron no_basket no_ground no_bruised no_ladder no_helper no_today no_clock ru_given ru_stack pa_undoable pa_free pa_cells ro_size ro_numbers
      unfold ws_X9_doActs_21 at h ⊢
      refine And.intro (fun c1 => ?_) (fun c1 => ?_)
      · have h := And.left h c1
        rw [if_pos c1] at hq
        have dc1 := (fa_le _ _).mp c1
        rw [j_X9_doActs_107] at hq
        unfold ws_X9_doActs_107 at h ⊢
        refine And.intro (fun c2 => ?_) (fun c2 => ?_)
        · have h := And.left h c2
          rw [if_pos c2] at hq
          have dc2 := (fa_le _ _).mp c2
          rw [j_X9_doActs_118] at hq
          unfold ws_X9_doActs_118 at h ⊢
          refine du_X9_tell_ h ?_
          intro h
          exact hq _ _ _ _ _ _ _ _ _ _ _ _ _ _ _ _ rfl h
        · have h := And.right h c2
          rw [if_neg c2] at hq
          have dc2 := mt (fa_le _ _).mpr c2
          refine du_X4_hold h ?_
          intro h
          rw [j_X9_doActs_118] at hq
          unfold ws_X9_doActs_118 at h ⊢
          refine du_X9_tell_ h ?_
          intro h
          exact hq _ _ _ _ _ _ _ _ _ _ _ _ _ _ _ _ rfl h
      · have h := And.right h c1
        rw [if_neg c1] at hq
        have dc1 := mt (fa_le _ _).mpr c1
        refine And.intro (fun c3 => ?_) (fun c3 => ?_)
        · have h := And.left h c3
          rw [if_pos c3] at hq
          have dc3 := (fa_le _ _).mp c3
          rw [j_X9_doActs_107] at hq
          unfold ws_X9_doActs_107 at h ⊢
          refine And.intro (fun c4 => ?_) (fun c4 => ?_)
          · have h := And.left h c4
            rw [if_pos c4] at hq
            have dc4 := (fa_le _ _).mp c4
            rw [j_X9_doActs_118] at hq
            unfold ws_X9_doActs_118 at h ⊢
            refine du_X9_tell_ h ?_
            intro h
            exact hq _ _ _ _ _ _ _ _ _ _ _ _ _ _ _ _ rfl h
          · have h := And.right h c4
            rw [if_neg c4] at hq
            have dc4 := mt (fa_le _ _).mpr c4
            refine du_X4_hold h ?_
            intro h
            rw [j_X9_doActs_118] at hq
            unfold ws_X9_doActs_118 at h ⊢
            refine du_X9_tell_ h ?_
            intro h
            exact hq _ _ _ _ _ _ _ _ _ _ _ _ _ _ _ _ rfl h
        · have h := And.right h c3
          rw [if_neg c3] at hq
          have dc3 := mt (fa_le _ _).mpr c3
          refine And.intro (fun c5 => ?_) (fun c5 => ?_)
          · have h := And.left h c5
            rw [if_neg c5] at hq
            have dc5 := mt (fa_eq _ _).mpr c5
            rw [j_X9_doActs_107] at hq
            unfold ws_X9_doActs_107 at h ⊢
            refine And.intro (fun c6 => ?_) (fun c6 => ?_)
            · have h := And.left h c6
              rw [if_pos c6] at hq
              have dc6 := (fa_le _ _).mp c6
              rw [j_X9_doActs_118] at hq
              unfold ws_X9_doActs_118 at h ⊢
              refine du_X9_tell_ h ?_
              intro h
              exact hq _ _ _ _ _ _ _ _ _ _ _ _ _ _ _ _ rfl h
            · have h := And.right h c6
              rw [if_neg c6] at hq
              have dc6 := mt (fa_le _ _).mpr c6
              refine du_X4_hold h ?_
              intro h
              rw [j_X9_doActs_118] at hq
              unfold ws_X9_doActs_118 at h ⊢
              refine du_X9_tell_ h ?_
              intro h
              exact hq _ _ _ _ _ _ _ _ _ _ _ _ _ _ _ _ rfl h
          · have h := And.right h c5
            rw [if_pos c5] at hq
            have dc5 := (fa_eq _ _).mp c5
            refine And.intro (And.left h) ?_
            have h := And.right h
            refine ae ?_
            have h := h _ rfl
            refine ae ?_
            have h := h _ rfl
            refine And.intro (And.left h) ?_
            have h := And.right h
            refine ae ?_
            have h := h _ rfl
            refine ae ?_
            have h := h _ rfl
            refine du_X9_doAct h ?_
            intro h
            refine And.intro (fun c7 => ?_) (fun c7 => ?_)
            · have h := And.left h c7
              rw [if_pos c7] at hq
              have dc7 := (fa_le _ _).mp c7
              refine ae ?_
              have h := h _ rfl
              refine And.intro (fun c8 => ?_) (fun c8 => ?_)
              · have h := And.left h c8
                rw [if_pos c8] at hq
                have dc8 := (fa_eq _ _).mp c8
                rw [j_X9_doActs_94] at hq
                unfold ws_X9_doActs_94 at h ⊢
                rw [j_X9_doActs_99] at hq
                unfold ws_X9_doActs_99 at h ⊢
                refine ae ?_
                have h := h _ rfl
                rw [j_X9_doActs_101] at hq
                unfold ws_X9_doActs_101 at h ⊢
                refine ae ?_
                have h := h _ rfl
                have f9 := ta_add x5 1 (by omega)
                exact ih m _ _ _ _ _ _ _ _ _ _ _ _ _ _ _ _ _ _ _ _ (by omega) (by omega) h hq
              · have h := And.right h c8
                rw [if_neg c8] at hq
                have dc8 := mt (fa_eq _ _).mpr c8
                refine And.intro (fun c9 => ?_) (fun c9 => ?_)
                · have h := And.left h c9
                  rw [if_neg c9] at hq
                  have dc9 := mt (fa_eq _ _).mpr c9
                  rw [j_X9_doActs_99] at hq
                  unfold ws_X9_doActs_99 at h ⊢
                  refine ae ?_
                  have h := h _ rfl
                  rw [j_X9_doActs_101] at hq
                  unfold ws_X9_doActs_101 at h ⊢
                  refine ae ?_
                  have h := h _ rfl
                  have f9 := ta_add x5 1 (by omega)
                  exact ih m _ _ _ _ _ _ _ _ _ _ _ _ _ _ _ _ _ _ _ _ (by omega) (by omega) h hq
                · have h := And.right h c9
                  rw [if_pos c9] at hq
                  have dc9 := (fa_eq _ _).mp c9
                  rw [j_X9_doActs_94] at hq
                  unfold ws_X9_doActs_94 at h ⊢
                  rw [j_X9_doActs_99] at hq
                  unfold ws_X9_doActs_99 at h ⊢
                  refine ae ?_
                  have h := h _ rfl
                  rw [j_X9_doActs_101] at hq
                  unfold ws_X9_doActs_101 at h ⊢
                  refine ae ?_
                  have h := h _ rfl
                  have f9 := ta_add x5 1 (by omega)
                  exact ih m _ _ _ _ _ _ _ _ _ _ _ _ _ _ _ _ _ _ _ _ (by omega) (by omega) h hq
            · have h := And.right h c7
              rw [if_neg c7] at hq
              have dc7 := mt (fa_le _ _).mpr c7
              rw [j_X9_doActs_101] at hq
              unfold ws_X9_doActs_101 at h ⊢
              refine ae ?_
              have h := h _ rfl
              have f9 := ta_add x5 1 (by omega)
              exact ih m _ _ _ _ _ _ _ _ _ _ _ _ _ _ _ _ _ _ _ _ (by omega) (by omega) h hq
noncomputable def F_X9_doActs (p0 : Int32) (x_acts : Nat → Int32) (tr_fruits : Int32) (tr_standings : Int32) (tr_x : Nat → Int32) (tr_height : Nat → Int32) (tr_worth : Nat → Int32) (tr_ripe : Nat → Int32) (tr_foot : Nat → Int32) (tr_fork : Nat → Int32) (tr_settings : Nat → Int32) (no_apron : Int32) (no_basket : Int32) (no_ground : Int32) (no_bruised : Int32) (no_ladder : Int32) (no_helper : Int32) (no_today : Int32) (no_clock : Int32) (ru_length : Int32) (ru_given : Nat → Int32) (ru_stack : Nat → Int32) (ru_program : Nat → Int32) (pa_undoable : Int32) (pa_free : Int32) (pa_cells : Nat → Int32) (ro_size : Int32) (ro_numbers : Nat → Int32) : Int32 × Int32 × Int32 × Int32 × Int32 × Int32 × Int32 × Int32 × Int32 × (Nat → Int32) × (Nat → Int32) × Int32 × Int32 × (Nat → Int32) × Int32 × (Nat → Int32) := flp (fs_X9_doActs_21 (fun o0 o1 o2 o3 o4 o5 o6 o7 o8 o9 o10 o11 o12 o13 o14 o15 => (o0, o1, o2, o3, o4, o5, o6, o7, o8, o9, o10, o11, o12, o13, o14, o15)) x_acts tr_fruits tr_standings tr_x tr_height tr_worth tr_ripe tr_foot tr_fork tr_settings ru_length ru_program) (fun _ _ _ _ _ _ _ _ _ _ _ _ _ _ _ _ _ _ _ _ => (0, 0, 0, 0, 0, 0, 0, 0, 0, (fun _ => 0), (fun _ => 0), 0, 0, (fun _ => 0), 0, (fun _ => 0))) 31 p0 0 0 0 0 no_apron no_basket no_ground no_bruised no_ladder no_helper no_today no_clock ru_given ru_stack pa_undoable pa_free (F_X4_note no_apron no_basket no_ground no_bruised no_ladder no_helper no_today no_clock pa_free pa_cells) ro_size ro_numbers
set_option maxHeartbeats 200000 in
set_option maxRecDepth 10000 in
theorem dt_X9_doActs {P Q : Int32 → Int32 → Int32 → Int32 → Int32 → Int32 → Int32 → Int32 → Int32 → (Nat → Int32) → (Nat → Int32) → Int32 → Int32 → (Nat → Int32) → Int32 → (Nat → Int32) → Prop} {p0 : Int32} {x_acts : Nat → Int32} {tr_fruits : Int32} {tr_standings : Int32} {tr_x : Nat → Int32} {tr_height : Nat → Int32} {tr_worth : Nat → Int32} {tr_ripe : Nat → Int32} {tr_foot : Nat → Int32} {tr_fork : Nat → Int32} {tr_settings : Nat → Int32} {no_apron : Int32} {no_basket : Int32} {no_ground : Int32} {no_bruised : Int32} {no_ladder : Int32} {no_helper : Int32} {no_today : Int32} {no_clock : Int32} {ru_length : Int32} {ru_given : Nat → Int32} {ru_stack : Nat → Int32} {ru_program : Nat → Int32} {pa_undoable : Int32} {pa_free : Int32} {pa_cells : Nat → Int32} {ro_size : Int32} {ro_numbers : Nat → Int32} (h : wp_X9_doActs P p0 x_acts tr_fruits tr_standings tr_x tr_height tr_worth tr_ripe tr_foot tr_fork tr_settings no_apron no_basket no_ground no_bruised no_ladder no_helper no_today no_clock ru_length ru_given ru_stack ru_program pa_undoable pa_free pa_cells ro_size ro_numbers) (hq : ∀ o : Int32 × Int32 × Int32 × Int32 × Int32 × Int32 × Int32 × Int32 × Int32 × (Nat → Int32) × (Nat → Int32) × Int32 × Int32 × (Nat → Int32) × Int32 × (Nat → Int32), o = F_X9_doActs p0 x_acts tr_fruits tr_standings tr_x tr_height tr_worth tr_ripe tr_foot tr_fork tr_settings no_apron no_basket no_ground no_bruised no_ladder no_helper no_today no_clock ru_length ru_given ru_stack ru_program pa_undoable pa_free pa_cells ro_size ro_numbers → P o.1 o.2.1 o.2.2.1 o.2.2.2.1 o.2.2.2.2.1 o.2.2.2.2.2.1 o.2.2.2.2.2.2.1 o.2.2.2.2.2.2.2.1 o.2.2.2.2.2.2.2.2.1 o.2.2.2.2.2.2.2.2.2.1 o.2.2.2.2.2.2.2.2.2.2.1 o.2.2.2.2.2.2.2.2.2.2.2.1 o.2.2.2.2.2.2.2.2.2.2.2.2.1 o.2.2.2.2.2.2.2.2.2.2.2.2.2.1 o.2.2.2.2.2.2.2.2.2.2.2.2.2.2.1 o.2.2.2.2.2.2.2.2.2.2.2.2.2.2.2 → Q o.1 o.2.1 o.2.2.1 o.2.2.2.1 o.2.2.2.2.1 o.2.2.2.2.2.1 o.2.2.2.2.2.2.1 o.2.2.2.2.2.2.2.1 o.2.2.2.2.2.2.2.2.1 o.2.2.2.2.2.2.2.2.2.1 o.2.2.2.2.2.2.2.2.2.2.1 o.2.2.2.2.2.2.2.2.2.2.2.1 o.2.2.2.2.2.2.2.2.2.2.2.2.1 o.2.2.2.2.2.2.2.2.2.2.2.2.2.1 o.2.2.2.2.2.2.2.2.2.2.2.2.2.2.1 o.2.2.2.2.2.2.2.2.2.2.2.2.2.2.2) : wp_X9_doActs Q p0 x_acts tr_fruits tr_standings tr_x tr_height tr_worth tr_ripe tr_foot tr_fork tr_settings no_apron no_basket no_ground no_bruised no_ladder no_helper no_today no_clock ru_length ru_given ru_stack ru_program pa_undoable pa_free pa_cells ro_size ro_numbers := by
  rw [F_X9_doActs] at hq
  refine du_X4_note h ?_
  intro h
  obtain ⟨n1, h⟩ := h
  exact ⟨n1, dl_X9_doActs_21 n1 31 _ _ _ _ _ _ _ _ _ _ _ _ _ _ _ _ _ _ _ _ (by decide) (by decide) h (fun b0 b1 b2 b3 b4 b5 b6 b7 b8 b9 b10 b11 b12 b13 b14 b15 e9 h9 => hq (b0, b1, b2, b3, b4, b5, b6, b7, b8, b9, b10, b11, b12, b13, b14, b15) e9 h9)⟩
theorem du_X9_doActs {P Q : Int32 → Int32 → Int32 → Int32 → Int32 → Int32 → Int32 → Int32 → Int32 → (Nat → Int32) → (Nat → Int32) → Int32 → Int32 → (Nat → Int32) → Int32 → (Nat → Int32) → Prop} {p0 : Int32} {x_acts : Nat → Int32} {tr_fruits : Int32} {tr_standings : Int32} {tr_x : Nat → Int32} {tr_height : Nat → Int32} {tr_worth : Nat → Int32} {tr_ripe : Nat → Int32} {tr_foot : Nat → Int32} {tr_fork : Nat → Int32} {tr_settings : Nat → Int32} {no_apron : Int32} {no_basket : Int32} {no_ground : Int32} {no_bruised : Int32} {no_ladder : Int32} {no_helper : Int32} {no_today : Int32} {no_clock : Int32} {ru_length : Int32} {ru_given : Nat → Int32} {ru_stack : Nat → Int32} {ru_program : Nat → Int32} {pa_undoable : Int32} {pa_free : Int32} {pa_cells : Nat → Int32} {ro_size : Int32} {ro_numbers : Nat → Int32} (h : wp_X9_doActs P p0 x_acts tr_fruits tr_standings tr_x tr_height tr_worth tr_ripe tr_foot tr_fork tr_settings no_apron no_basket no_ground no_bruised no_ladder no_helper no_today no_clock ru_length ru_given ru_stack ru_program pa_undoable pa_free pa_cells ro_size ro_numbers) (hq : P (F_X9_doActs p0 x_acts tr_fruits tr_standings tr_x tr_height tr_worth tr_ripe tr_foot tr_fork tr_settings no_apron no_basket no_ground no_bruised no_ladder no_helper no_today no_clock ru_length ru_given ru_stack ru_program pa_undoable pa_free pa_cells ro_size ro_numbers).1 (F_X9_doActs p0 x_acts tr_fruits tr_standings tr_x tr_height tr_worth tr_ripe tr_foot tr_fork tr_settings no_apron no_basket no_ground no_bruised no_ladder no_helper no_today no_clock ru_length ru_given ru_stack ru_program pa_undoable pa_free pa_cells ro_size ro_numbers).2.1 (F_X9_doActs p0 x_acts tr_fruits tr_standings tr_x tr_height tr_worth tr_ripe tr_foot tr_fork tr_settings no_apron no_basket no_ground no_bruised no_ladder no_helper no_today no_clock ru_length ru_given ru_stack ru_program pa_undoable pa_free pa_cells ro_size ro_numbers).2.2.1 (F_X9_doActs p0 x_acts tr_fruits tr_standings tr_x tr_height tr_worth tr_ripe tr_foot tr_fork tr_settings no_apron no_basket no_ground no_bruised no_ladder no_helper no_today no_clock ru_length ru_given ru_stack ru_program pa_undoable pa_free pa_cells ro_size ro_numbers).2.2.2.1 (F_X9_doActs p0 x_acts tr_fruits tr_standings tr_x tr_height tr_worth tr_ripe tr_foot tr_fork tr_settings no_apron no_basket no_ground no_bruised no_ladder no_helper no_today no_clock ru_length ru_given ru_stack ru_program pa_undoable pa_free pa_cells ro_size ro_numbers).2.2.2.2.1 (F_X9_doActs p0 x_acts tr_fruits tr_standings tr_x tr_height tr_worth tr_ripe tr_foot tr_fork tr_settings no_apron no_basket no_ground no_bruised no_ladder no_helper no_today no_clock ru_length ru_given ru_stack ru_program pa_undoable pa_free pa_cells ro_size ro_numbers).2.2.2.2.2.1 (F_X9_doActs p0 x_acts tr_fruits tr_standings tr_x tr_height tr_worth tr_ripe tr_foot tr_fork tr_settings no_apron no_basket no_ground no_bruised no_ladder no_helper no_today no_clock ru_length ru_given ru_stack ru_program pa_undoable pa_free pa_cells ro_size ro_numbers).2.2.2.2.2.2.1 (F_X9_doActs p0 x_acts tr_fruits tr_standings tr_x tr_height tr_worth tr_ripe tr_foot tr_fork tr_settings no_apron no_basket no_ground no_bruised no_ladder no_helper no_today no_clock ru_length ru_given ru_stack ru_program pa_undoable pa_free pa_cells ro_size ro_numbers).2.2.2.2.2.2.2.1 (F_X9_doActs p0 x_acts tr_fruits tr_standings tr_x tr_height tr_worth tr_ripe tr_foot tr_fork tr_settings no_apron no_basket no_ground no_bruised no_ladder no_helper no_today no_clock ru_length ru_given ru_stack ru_program pa_undoable pa_free pa_cells ro_size ro_numbers).2.2.2.2.2.2.2.2.1 (F_X9_doActs p0 x_acts tr_fruits tr_standings tr_x tr_height tr_worth tr_ripe tr_foot tr_fork tr_settings no_apron no_basket no_ground no_bruised no_ladder no_helper no_today no_clock ru_length ru_given ru_stack ru_program pa_undoable pa_free pa_cells ro_size ro_numbers).2.2.2.2.2.2.2.2.2.1 (F_X9_doActs p0 x_acts tr_fruits tr_standings tr_x tr_height tr_worth tr_ripe tr_foot tr_fork tr_settings no_apron no_basket no_ground no_bruised no_ladder no_helper no_today no_clock ru_length ru_given ru_stack ru_program pa_undoable pa_free pa_cells ro_size ro_numbers).2.2.2.2.2.2.2.2.2.2.1 (F_X9_doActs p0 x_acts tr_fruits tr_standings tr_x tr_height tr_worth tr_ripe tr_foot tr_fork tr_settings no_apron no_basket no_ground no_bruised no_ladder no_helper no_today no_clock ru_length ru_given ru_stack ru_program pa_undoable pa_free pa_cells ro_size ro_numbers).2.2.2.2.2.2.2.2.2.2.2.1 (F_X9_doActs p0 x_acts tr_fruits tr_standings tr_x tr_height tr_worth tr_ripe tr_foot tr_fork tr_settings no_apron no_basket no_ground no_bruised no_ladder no_helper no_today no_clock ru_length ru_given ru_stack ru_program pa_undoable pa_free pa_cells ro_size ro_numbers).2.2.2.2.2.2.2.2.2.2.2.2.1 (F_X9_doActs p0 x_acts tr_fruits tr_standings tr_x tr_height tr_worth tr_ripe tr_foot tr_fork tr_settings no_apron no_basket no_ground no_bruised no_ladder no_helper no_today no_clock ru_length ru_given ru_stack ru_program pa_undoable pa_free pa_cells ro_size ro_numbers).2.2.2.2.2.2.2.2.2.2.2.2.2.1 (F_X9_doActs p0 x_acts tr_fruits tr_standings tr_x tr_height tr_worth tr_ripe tr_foot tr_fork tr_settings no_apron no_basket no_ground no_bruised no_ladder no_helper no_today no_clock ru_length ru_given ru_stack ru_program pa_undoable pa_free pa_cells ro_size ro_numbers).2.2.2.2.2.2.2.2.2.2.2.2.2.2.1 (F_X9_doActs p0 x_acts tr_fruits tr_standings tr_x tr_height tr_worth tr_ripe tr_foot tr_fork tr_settings no_apron no_basket no_ground no_bruised no_ladder no_helper no_today no_clock ru_length ru_given ru_stack ru_program pa_undoable pa_free pa_cells ro_size ro_numbers).2.2.2.2.2.2.2.2.2.2.2.2.2.2.2 → Q (F_X9_doActs p0 x_acts tr_fruits tr_standings tr_x tr_height tr_worth tr_ripe tr_foot tr_fork tr_settings no_apron no_basket no_ground no_bruised no_ladder no_helper no_today no_clock ru_length ru_given ru_stack ru_program pa_undoable pa_free pa_cells ro_size ro_numbers).1 (F_X9_doActs p0 x_acts tr_fruits tr_standings tr_x tr_height tr_worth tr_ripe tr_foot tr_fork tr_settings no_apron no_basket no_ground no_bruised no_ladder no_helper no_today no_clock ru_length ru_given ru_stack ru_program pa_undoable pa_free pa_cells ro_size ro_numbers).2.1 (F_X9_doActs p0 x_acts tr_fruits tr_standings tr_x tr_height tr_worth tr_ripe tr_foot tr_fork tr_settings no_apron no_basket no_ground no_bruised no_ladder no_helper no_today no_clock ru_length ru_given ru_stack ru_program pa_undoable pa_free pa_cells ro_size ro_numbers).2.2.1 (F_X9_doActs p0 x_acts tr_fruits tr_standings tr_x tr_height tr_worth tr_ripe tr_foot tr_fork tr_settings no_apron no_basket no_ground no_bruised no_ladder no_helper no_today no_clock ru_length ru_given ru_stack ru_program pa_undoable pa_free pa_cells ro_size ro_numbers).2.2.2.1 (F_X9_doActs p0 x_acts tr_fruits tr_standings tr_x tr_height tr_worth tr_ripe tr_foot tr_fork tr_settings no_apron no_basket no_ground no_bruised no_ladder no_helper no_today no_clock ru_length ru_given ru_stack ru_program pa_undoable pa_free pa_cells ro_size ro_numbers).2.2.2.2.1 (F_X9_doActs p0 x_acts tr_fruits tr_standings tr_x tr_height tr_worth tr_ripe tr_foot tr_fork tr_settings no_apron no_basket no_ground no_bruised no_ladder no_helper no_today no_clock ru_length ru_given ru_stack ru_program pa_undoable pa_free pa_cells ro_size ro_numbers).2.2.2.2.2.1 (F_X9_doActs p0 x_acts tr_fruits tr_standings tr_x tr_height tr_worth tr_ripe tr_foot tr_fork tr_settings no_apron no_basket no_ground no_bruised no_ladder no_helper no_today no_clock ru_length ru_given ru_stack ru_program pa_undoable pa_free pa_cells ro_size ro_numbers).2.2.2.2.2.2.1 (F_X9_doActs p0 x_acts tr_fruits tr_standings tr_x tr_height tr_worth tr_ripe tr_foot tr_fork tr_settings no_apron no_basket no_ground no_bruised no_ladder no_helper no_today no_clock ru_length ru_given ru_stack ru_program pa_undoable pa_free pa_cells ro_size ro_numbers).2.2.2.2.2.2.2.1 (F_X9_doActs p0 x_acts tr_fruits tr_standings tr_x tr_height tr_worth tr_ripe tr_foot tr_fork tr_settings no_apron no_basket no_ground no_bruised no_ladder no_helper no_today no_clock ru_length ru_given ru_stack ru_program pa_undoable pa_free pa_cells ro_size ro_numbers).2.2.2.2.2.2.2.2.1 (F_X9_doActs p0 x_acts tr_fruits tr_standings tr_x tr_height tr_worth tr_ripe tr_foot tr_fork tr_settings no_apron no_basket no_ground no_bruised no_ladder no_helper no_today no_clock ru_length ru_given ru_stack ru_program pa_undoable pa_free pa_cells ro_size ro_numbers).2.2.2.2.2.2.2.2.2.1 (F_X9_doActs p0 x_acts tr_fruits tr_standings tr_x tr_height tr_worth tr_ripe tr_foot tr_fork tr_settings no_apron no_basket no_ground no_bruised no_ladder no_helper no_today no_clock ru_length ru_given ru_stack ru_program pa_undoable pa_free pa_cells ro_size ro_numbers).2.2.2.2.2.2.2.2.2.2.1 (F_X9_doActs p0 x_acts tr_fruits tr_standings tr_x tr_height tr_worth tr_ripe tr_foot tr_fork tr_settings no_apron no_basket no_ground no_bruised no_ladder no_helper no_today no_clock ru_length ru_given ru_stack ru_program pa_undoable pa_free pa_cells ro_size ro_numbers).2.2.2.2.2.2.2.2.2.2.2.1 (F_X9_doActs p0 x_acts tr_fruits tr_standings tr_x tr_height tr_worth tr_ripe tr_foot tr_fork tr_settings no_apron no_basket no_ground no_bruised no_ladder no_helper no_today no_clock ru_length ru_given ru_stack ru_program pa_undoable pa_free pa_cells ro_size ro_numbers).2.2.2.2.2.2.2.2.2.2.2.2.1 (F_X9_doActs p0 x_acts tr_fruits tr_standings tr_x tr_height tr_worth tr_ripe tr_foot tr_fork tr_settings no_apron no_basket no_ground no_bruised no_ladder no_helper no_today no_clock ru_length ru_given ru_stack ru_program pa_undoable pa_free pa_cells ro_size ro_numbers).2.2.2.2.2.2.2.2.2.2.2.2.2.1 (F_X9_doActs p0 x_acts tr_fruits tr_standings tr_x tr_height tr_worth tr_ripe tr_foot tr_fork tr_settings no_apron no_basket no_ground no_bruised no_ladder no_helper no_today no_clock ru_length ru_given ru_stack ru_program pa_undoable pa_free pa_cells ro_size ro_numbers).2.2.2.2.2.2.2.2.2.2.2.2.2.2.1 (F_X9_doActs p0 x_acts tr_fruits tr_standings tr_x tr_height tr_worth tr_ripe tr_foot tr_fork tr_settings no_apron no_basket no_ground no_bruised no_ladder no_helper no_today no_clock ru_length ru_given ru_stack ru_program pa_undoable pa_free pa_cells ro_size ro_numbers).2.2.2.2.2.2.2.2.2.2.2.2.2.2.2) : wp_X9_doActs Q p0 x_acts tr_fruits tr_standings tr_x tr_height tr_worth tr_ripe tr_foot tr_fork tr_settings no_apron no_basket no_ground no_bruised no_ladder no_helper no_today no_clock ru_length ru_given ru_stack ru_program pa_undoable pa_free pa_cells ro_size ro_numbers := dt_X9_doActs h (fun o eo => by rw [eo]; exact hq)
theorem dw_X9_doActs {Q : Int32 → Int32 → Int32 → Int32 → Int32 → Int32 → Int32 → Int32 → Int32 → (Nat → Int32) → (Nat → Int32) → Int32 → Int32 → (Nat → Int32) → Int32 → (Nat → Int32) → Prop} {p0 : Int32} {x_acts : Nat → Int32} {tr_fruits : Int32} {tr_standings : Int32} {tr_x : Nat → Int32} {tr_height : Nat → Int32} {tr_worth : Nat → Int32} {tr_ripe : Nat → Int32} {tr_foot : Nat → Int32} {tr_fork : Nat → Int32} {tr_settings : Nat → Int32} {no_apron : Int32} {no_basket : Int32} {no_ground : Int32} {no_bruised : Int32} {no_ladder : Int32} {no_helper : Int32} {no_today : Int32} {no_clock : Int32} {ru_length : Int32} {ru_given : Nat → Int32} {ru_stack : Nat → Int32} {ru_program : Nat → Int32} {pa_undoable : Int32} {pa_free : Int32} {pa_cells : Nat → Int32} {ro_size : Int32} {ro_numbers : Nat → Int32} (h : wp_X9_doActs (fun o0 o1 o2 o3 o4 o5 o6 o7 o8 o9 o10 o11 o12 o13 o14 o15 => (o0, o1, o2, o3, o4, o5, o6, o7, o8, o9, o10, o11, o12, o13, o14, o15) = F_X9_doActs p0 x_acts tr_fruits tr_standings tr_x tr_height tr_worth tr_ripe tr_foot tr_fork tr_settings no_apron no_basket no_ground no_bruised no_ladder no_helper no_today no_clock ru_length ru_given ru_stack ru_program pa_undoable pa_free pa_cells ro_size ro_numbers → Q o0 o1 o2 o3 o4 o5 o6 o7 o8 o9 o10 o11 o12 o13 o14 o15) p0 x_acts tr_fruits tr_standings tr_x tr_height tr_worth tr_ripe tr_foot tr_fork tr_settings no_apron no_basket no_ground no_bruised no_ladder no_helper no_today no_clock ru_length ru_given ru_stack ru_program pa_undoable pa_free pa_cells ro_size ro_numbers) : wp_X9_doActs Q p0 x_acts tr_fruits tr_standings tr_x tr_height tr_worth tr_ripe tr_foot tr_fork tr_settings no_apron no_basket no_ground no_bruised no_ladder no_helper no_today no_clock ru_length ru_given ru_stack ru_program pa_undoable pa_free pa_cells ro_size ro_numbers := dt_X9_doActs h (fun o eo hp => hp eo)
noncomputable def j_X9_readAct_143 {R : Type} (po : Int32 → Int32 → R) (tx_stop : Int32) (tx_signs : Nat → Int32) (x1 : Int32) (x2 : Int32) (tx_place : Int32) : R := if x2 = 0 then (po (x1 * 100) (F_X8_skip tx_place tx_stop)) else (if (F_X8_readNumber x2 (F_X8_skip tx_place tx_stop) tx_stop tx_signs).1 = (-1) then (po (-1) ((F_X8_readNumber x2 (F_X8_skip tx_place tx_stop) tx_stop tx_signs).2)) else (po ((x1 * 100) + (F_X8_readNumber x2 (F_X8_skip tx_place tx_stop) tx_stop tx_signs).1) ((F_X8_readNumber x2 (F_X8_skip tx_place tx_stop) tx_stop tx_signs).2)))
noncomputable def j_X9_readAct_138 {R : Type} (po : Int32 → Int32 → R) (tx_stop : Int32) (tx_signs : Nat → Int32) (x1 : Int32) (x2 : Int32) (tx_place : Int32) : R := j_X9_readAct_143 po tx_stop tx_signs x1 x2 tx_place
noncomputable def j_X9_readAct_133 {R : Type} (po : Int32 → Int32 → R) (tx_stop : Int32) (tx_signs : Nat → Int32) (x1 : Int32) (tx_place : Int32) : R := j_X9_readAct_143 po tx_stop tx_signs x1 2 tx_place
noncomputable def F_X9_readAct (tx_place : Int32) (tx_stop : Int32) (tx_signs : Nat → Int32) : Int32 × Int32 := if (F_X8_here tx_place tx_stop tx_signs) = 97 then (j_X9_readAct_138 (fun o0 o1 => (o0, o1)) tx_stop tx_signs (F_X8_here tx_place tx_stop tx_signs) 0 tx_place) else (if (F_X8_here tx_place tx_stop tx_signs) = 100 then (j_X9_readAct_138 (fun o0 o1 => (o0, o1)) tx_stop tx_signs (F_X8_here tx_place tx_stop tx_signs) 0 tx_place) else (if (F_X8_here tx_place tx_stop tx_signs) = 104 then (j_X9_readAct_133 (fun o0 o1 => (o0, o1)) tx_stop tx_signs (F_X8_here tx_place tx_stop tx_signs) tx_place) else (if (F_X8_here tx_place tx_stop tx_signs) = 107 then (j_X9_readAct_138 (fun o0 o1 => (o0, o1)) tx_stop tx_signs (F_X8_here tx_place tx_stop tx_signs) 0 tx_place) else (if (F_X8_here tx_place tx_stop tx_signs) = 109 then (j_X9_readAct_143 (fun o0 o1 => (o0, o1)) tx_stop tx_signs (F_X8_here tx_place tx_stop tx_signs) 1 tx_place) else (if (F_X8_here tx_place tx_stop tx_signs) = 111 then (j_X9_readAct_138 (fun o0 o1 => (o0, o1)) tx_stop tx_signs (F_X8_here tx_place tx_stop tx_signs) 0 tx_place) else (if (F_X8_here tx_place tx_stop tx_signs) = 112 then (j_X9_readAct_133 (fun o0 o1 => (o0, o1)) tx_stop tx_signs (F_X8_here tx_place tx_stop tx_signs) tx_place) else (if (F_X8_here tx_place tx_stop tx_signs) = 122 then (j_X9_readAct_138 (fun o0 o1 => (o0, o1)) tx_stop tx_signs (F_X8_here tx_place tx_stop tx_signs) 0 tx_place) else ((-1), tx_place))))))))
set_option maxHeartbeats 200000 in
set_option maxRecDepth 10000 in
theorem dt_X9_readAct {P Q : Int32 → Int32 → Prop} {tx_place : Int32} {tx_stop : Int32} {tx_signs : Nat → Int32} (h : wp_X9_readAct P tx_place tx_stop tx_signs) (hq : ∀ o : Int32 × Int32, o = F_X9_readAct tx_place tx_stop tx_signs → P o.1 o.2 → Q o.1 o.2) : wp_X9_readAct Q tx_place tx_stop tx_signs := by
  rw [F_X9_readAct] at hq
  refine du_X8_here h ?_
  intro h
  refine (And.intro (fun c1 => ?_) (And.intro (fun c2 => ?_) (And.intro (fun c3 => ?_) (And.intro (fun c4 => ?_) (And.intro (fun c5 => ?_) (And.intro (fun c6 => ?_) (And.intro (fun c7 => ?_) (And.intro (fun c8 => ?_) (fun c1 c2 c3 c4 c5 c6 c7 c8 => ?_)))))))))
  · have h := And.left h c1
    rw [if_pos c1] at hq
    rw [j_X9_readAct_138] at hq
    unfold ws_X9_readAct_138 at h ⊢
    rw [j_X9_readAct_143] at hq
    unfold ws_X9_readAct_143 at h ⊢
    refine du_X8_skip h ?_
    intro h
    refine And.intro (fun c9 => ?_) (fun c9 => ?_)
    · have h := And.left h c9
      rw [if_neg c9] at hq
      refine du_X8_readNumber (by decide) h ?_
      intro h
      refine And.intro (fun c10 => ?_) (fun c10 => ?_)
      · have h := And.left h c10
        rw [if_neg c10] at hq
        refine ae ?_
        have h := h _ rfl
        have q9 := hq _ rfl
        dsimp only at q9
        exact q9 h
      · have h := And.right h c10
        rw [if_pos c10] at hq
        have q9 := hq _ rfl
        dsimp only at q9
        exact q9 h
    · have h := And.right h c9
      rw [if_pos c9] at hq
      have q9 := hq _ rfl
      dsimp only at q9
      exact q9 h
  · have h := And.left (And.right h) c2
    rw [if_neg (fun e9 => absurd (e9.symm.trans c2) (by decide)), if_pos c2] at hq
    rw [j_X9_readAct_138] at hq
    unfold ws_X9_readAct_138 at h ⊢
    rw [j_X9_readAct_143] at hq
    unfold ws_X9_readAct_143 at h ⊢
    refine du_X8_skip h ?_
    intro h
    refine And.intro (fun c11 => ?_) (fun c11 => ?_)
    · have h := And.left h c11
      rw [if_neg c11] at hq
      refine du_X8_readNumber (by decide) h ?_
      intro h
      refine And.intro (fun c12 => ?_) (fun c12 => ?_)
      · have h := And.left h c12
        rw [if_neg c12] at hq
        refine ae ?_
        have h := h _ rfl
        have q9 := hq _ rfl
        dsimp only at q9
        exact q9 h
      · have h := And.right h c12
        rw [if_pos c12] at hq
        have q9 := hq _ rfl
        dsimp only at q9
        exact q9 h
    · have h := And.right h c11
      rw [if_pos c11] at hq
      have q9 := hq _ rfl
      dsimp only at q9
      exact q9 h
  · have h := And.left (And.right (And.right h)) c3
    rw [if_neg (fun e9 => absurd (e9.symm.trans c3) (by decide)), if_neg (fun e9 => absurd (e9.symm.trans c3) (by decide)), if_pos c3] at hq
    rw [j_X9_readAct_133] at hq
    unfold ws_X9_readAct_133 at h ⊢
    rw [j_X9_readAct_143] at hq
    unfold ws_X9_readAct_143 at h ⊢
    refine du_X8_skip h ?_
    intro h
    refine And.intro (fun c13 => ?_) (fun c13 => ?_)
    · have h := And.left h c13
      rw [if_neg c13] at hq
      refine du_X8_readNumber (by decide) h ?_
      intro h
      refine And.intro (fun c14 => ?_) (fun c14 => ?_)
      · have h := And.left h c14
        rw [if_neg c14] at hq
        refine ae ?_
        have h := h _ rfl
        have q9 := hq _ rfl
        dsimp only at q9
        exact q9 h
      · have h := And.right h c14
        rw [if_pos c14] at hq
        have q9 := hq _ rfl
        dsimp only at q9
        exact q9 h
    · have h := And.right h c13
      rw [if_pos c13] at hq
      have q9 := hq _ rfl
      dsimp only at q9
      exact q9 h
  · have h := And.left (And.right (And.right (And.right h))) c4
    rw [if_neg (fun e9 => absurd (e9.symm.trans c4) (by decide)), if_neg (fun e9 => absurd (e9.symm.trans c4) (by decide)), if_neg (fun e9 => absurd (e9.symm.trans c4) (by decide)), if_pos c4] at hq
    rw [j_X9_readAct_138] at hq
    unfold ws_X9_readAct_138 at h ⊢
    rw [j_X9_readAct_143] at hq
    unfold ws_X9_readAct_143 at h ⊢
    refine du_X8_skip h ?_
    intro h
    refine And.intro (fun c15 => ?_) (fun c15 => ?_)
    · have h := And.left h c15
      rw [if_neg c15] at hq
      refine du_X8_readNumber (by decide) h ?_
      intro h
      refine And.intro (fun c16 => ?_) (fun c16 => ?_)
      · have h := And.left h c16
        rw [if_neg c16] at hq
        refine ae ?_
        have h := h _ rfl
        have q9 := hq _ rfl
        dsimp only at q9
        exact q9 h
      · have h := And.right h c16
        rw [if_pos c16] at hq
        have q9 := hq _ rfl
        dsimp only at q9
        exact q9 h
    · have h := And.right h c15
      rw [if_pos c15] at hq
      have q9 := hq _ rfl
      dsimp only at q9
      exact q9 h
  · have h := And.left (And.right (And.right (And.right (And.right h)))) c5
    rw [if_neg (fun e9 => absurd (e9.symm.trans c5) (by decide)), if_neg (fun e9 => absurd (e9.symm.trans c5) (by decide)), if_neg (fun e9 => absurd (e9.symm.trans c5) (by decide)), if_neg (fun e9 => absurd (e9.symm.trans c5) (by decide)), if_pos c5] at hq
    rw [j_X9_readAct_143] at hq
    unfold ws_X9_readAct_143 at h ⊢
    refine du_X8_skip h ?_
    intro h
    refine And.intro (fun c17 => ?_) (fun c17 => ?_)
    · have h := And.left h c17
      rw [if_neg c17] at hq
      refine du_X8_readNumber (by decide) h ?_
      intro h
      refine And.intro (fun c18 => ?_) (fun c18 => ?_)
      · have h := And.left h c18
        rw [if_neg c18] at hq
        refine ae ?_
        have h := h _ rfl
        have q9 := hq _ rfl
        dsimp only at q9
        exact q9 h
      · have h := And.right h c18
        rw [if_pos c18] at hq
        have q9 := hq _ rfl
        dsimp only at q9
        exact q9 h
    · have h := And.right h c17
      rw [if_pos c17] at hq
      have q9 := hq _ rfl
      dsimp only at q9
      exact q9 h
  · have h := And.left (And.right (And.right (And.right (And.right (And.right h))))) c6
    rw [if_neg (fun e9 => absurd (e9.symm.trans c6) (by decide)), if_neg (fun e9 => absurd (e9.symm.trans c6) (by decide)), if_neg (fun e9 => absurd (e9.symm.trans c6) (by decide)), if_neg (fun e9 => absurd (e9.symm.trans c6) (by decide)), if_neg (fun e9 => absurd (e9.symm.trans c6) (by decide)), if_pos c6] at hq
    rw [j_X9_readAct_138] at hq
    unfold ws_X9_readAct_138 at h ⊢
    rw [j_X9_readAct_143] at hq
    unfold ws_X9_readAct_143 at h ⊢
    refine du_X8_skip h ?_
    intro h
    refine And.intro (fun c19 => ?_) (fun c19 => ?_)
    · have h := And.left h c19
      rw [if_neg c19] at hq
      refine du_X8_readNumber (by decide) h ?_
      intro h
      refine And.intro (fun c20 => ?_) (fun c20 => ?_)
      · have h := And.left h c20
        rw [if_neg c20] at hq
        refine ae ?_
        have h := h _ rfl
        have q9 := hq _ rfl
        dsimp only at q9
        exact q9 h
      · have h := And.right h c20
        rw [if_pos c20] at hq
        have q9 := hq _ rfl
        dsimp only at q9
        exact q9 h
    · have h := And.right h c19
      rw [if_pos c19] at hq
      have q9 := hq _ rfl
      dsimp only at q9
      exact q9 h
  · have h := And.left (And.right (And.right (And.right (And.right (And.right (And.right h)))))) c7
    rw [if_neg (fun e9 => absurd (e9.symm.trans c7) (by decide)), if_neg (fun e9 => absurd (e9.symm.trans c7) (by decide)), if_neg (fun e9 => absurd (e9.symm.trans c7) (by decide)), if_neg (fun e9 => absurd (e9.symm.trans c7) (by decide)), if_neg (fun e9 => absurd (e9.symm.trans c7) (by decide)), if_neg (fun e9 => absurd (e9.symm.trans c7) (by decide)), if_pos c7] at hq
    rw [j_X9_readAct_133] at hq
    unfold ws_X9_readAct_133 at h ⊢
    rw [j_X9_readAct_143] at hq
    unfold ws_X9_readAct_143 at h ⊢
    refine du_X8_skip h ?_
    intro h
    refine And.intro (fun c21 => ?_) (fun c21 => ?_)
    · have h := And.left h c21
      rw [if_neg c21] at hq
      refine du_X8_readNumber (by decide) h ?_
      intro h
      refine And.intro (fun c22 => ?_) (fun c22 => ?_)
      · have h := And.left h c22
        rw [if_neg c22] at hq
        refine ae ?_
        have h := h _ rfl
        have q9 := hq _ rfl
        dsimp only at q9
        exact q9 h
      · have h := And.right h c22
        rw [if_pos c22] at hq
        have q9 := hq _ rfl
        dsimp only at q9
        exact q9 h
    · have h := And.right h c21
      rw [if_pos c21] at hq
      have q9 := hq _ rfl
      dsimp only at q9
      exact q9 h
  · have h := And.left (And.right (And.right (And.right (And.right (And.right (And.right (And.right h))))))) c8
    rw [if_neg (fun e9 => absurd (e9.symm.trans c8) (by decide)), if_neg (fun e9 => absurd (e9.symm.trans c8) (by decide)), if_neg (fun e9 => absurd (e9.symm.trans c8) (by decide)), if_neg (fun e9 => absurd (e9.symm.trans c8) (by decide)), if_neg (fun e9 => absurd (e9.symm.trans c8) (by decide)), if_neg (fun e9 => absurd (e9.symm.trans c8) (by decide)), if_neg (fun e9 => absurd (e9.symm.trans c8) (by decide)), if_pos c8] at hq
    rw [j_X9_readAct_138] at hq
    unfold ws_X9_readAct_138 at h ⊢
    rw [j_X9_readAct_143] at hq
    unfold ws_X9_readAct_143 at h ⊢
    refine du_X8_skip h ?_
    intro h
    refine And.intro (fun c23 => ?_) (fun c23 => ?_)
    · have h := And.left h c23
      rw [if_neg c23] at hq
      refine du_X8_readNumber (by decide) h ?_
      intro h
      refine And.intro (fun c24 => ?_) (fun c24 => ?_)
      · have h := And.left h c24
        rw [if_neg c24] at hq
        refine ae ?_
        have h := h _ rfl
        have q9 := hq _ rfl
        dsimp only at q9
        exact q9 h
      · have h := And.right h c24
        rw [if_pos c24] at hq
        have q9 := hq _ rfl
        dsimp only at q9
        exact q9 h
    · have h := And.right h c23
      rw [if_pos c23] at hq
      have q9 := hq _ rfl
      dsimp only at q9
      exact q9 h
  · have h := And.right (And.right (And.right (And.right (And.right (And.right (And.right (And.right h))))))) c1 c2 c3 c4 c5 c6 c7 c8
    rw [if_neg c1, if_neg c2, if_neg c3, if_neg c4, if_neg c5, if_neg c6, if_neg c7, if_neg c8] at hq
    have q9 := hq _ rfl
    dsimp only at q9
    exact q9 h
theorem du_X9_readAct {P Q : Int32 → Int32 → Prop} {tx_place : Int32} {tx_stop : Int32} {tx_signs : Nat → Int32} (h : wp_X9_readAct P tx_place tx_stop tx_signs) (hq : P (F_X9_readAct tx_place tx_stop tx_signs).1 (F_X9_readAct tx_place tx_stop tx_signs).2 → Q (F_X9_readAct tx_place tx_stop tx_signs).1 (F_X9_readAct tx_place tx_stop tx_signs).2) : wp_X9_readAct Q tx_place tx_stop tx_signs := dt_X9_readAct h (fun o eo => by rw [eo]; exact hq)
theorem dw_X9_readAct {Q : Int32 → Int32 → Prop} {tx_place : Int32} {tx_stop : Int32} {tx_signs : Nat → Int32} (h : wp_X9_readAct (fun o0 o1 => (o0, o1) = F_X9_readAct tx_place tx_stop tx_signs → Q o0 o1) tx_place tx_stop tx_signs) : wp_X9_readAct Q tx_place tx_stop tx_signs := dt_X9_readAct h (fun o eo hp => hp eo)
noncomputable def fs_X9_readActs_2 {R : Type} (po : Int32 → (Nat → Int32) → Int32 → R) (tx_stop : Int32) (tx_signs : Nat → Int32) (nx : Int32 → (Nat → Int32) → Int32 → R) (x1 : Int32) (x_acts : Nat → Int32) (tx_place : Int32) : R := if 30 ≤ x1 then (po (-1) x_acts tx_place) else (if (F_X9_readAct tx_place tx_stop tx_signs).1 = (-1) then (po (-1) x_acts ((F_X9_readAct tx_place tx_stop tx_signs).2)) else (if (F_X8_take 59 (F_X9_readAct tx_place tx_stop tx_signs).2 tx_stop tx_signs).1 = 0 then (po (x1 + 1) (upd x_acts x1.toNatClampNeg (F_X9_readAct tx_place tx_stop tx_signs).1) ((F_X8_take 59 (F_X9_readAct tx_place tx_stop tx_signs).2 tx_stop tx_signs).2)) else (nx (x1 + 1) (upd x_acts x1.toNatClampNeg (F_X9_readAct tx_place tx_stop tx_signs).1) ((F_X8_take 59 (F_X9_readAct tx_place tx_stop tx_signs).2 tx_stop tx_signs).2))))
set_option maxHeartbeats 200000 in
set_option maxRecDepth 10000 in
theorem dl_X9_readActs_2 {P Q : Int32 → (Nat → Int32) → Int32 → Prop} {tx_stop : Int32} {tx_signs : Nat → Int32} {R : Type} {po : Int32 → (Nat → Int32) → Int32 → R} {d : Int32 → (Nat → Int32) → Int32 → R} : ∀ (n m : Nat) (x1 : Int32) (x_acts : Nat → Int32) (tx_place : Int32), 0 ≤ Int32.toInt x1 ∧ Int32.toInt x1 ≤ 30 → 30 - Int32.toInt x1 < (m : Int) → wb_X9_readActs_2 P tx_stop tx_signs n x1 x_acts tx_place → (∀ (b0 : Int32) (b1 : Nat → Int32) (b2 : Int32), po b0 b1 b2 = flp (fs_X9_readActs_2 po tx_stop tx_signs) d m x1 x_acts tx_place → P b0 b1 b2 → Q b0 b1 b2) → wb_X9_readActs_2 Q tx_stop tx_signs n x1 x_acts tx_place := by
  have l1 : Int32.toInt (1 : Int32) = 1 := by decide
  have l30 : Int32.toInt (30 : Int32) = 30 := by decide
  intro n
  induction n with
  | zero => intro m x1 x_acts tx_place hv hm h hq; exact False.elim h
  | succ n ih =>
    intro m x1 x_acts tx_place hv hm h hq
    cases m with
    | zero => exfalso; omega
    | succ m =>
      rw [flp_s, fs_X9_readActs_2] at hq
      have h : ws_X9_readActs_2 P (wb_X9_readActs_2 P tx_stop tx_signs n) tx_stop tx_signs x1 x_acts tx_place := h
      show ws_X9_readActs_2 Q (wb_X9_readActs_2 Q tx_stop tx_signs n) tx_stop tx_signs x1 x_acts tx_place
      unfold ws_X9_readActs_2 at h ⊢
      refine And.intro (fun c1 => ?_) (fun c1 => ?_)
      · have h := And.left h c1
        rw [if_pos c1] at hq
        have dc1 := (fa_le _ _).mp c1
        exact hq _ _ _ rfl h
      · have h := And.right h c1
        rw [if_neg c1] at hq
        have dc1 := mt (fa_le _ _).mpr c1
        refine du_X9_readAct h ?_
        intro h
        refine And.intro (fun c2 => ?_) (fun c2 => ?_)
        · have h := And.left h c2
          rw [if_neg c2] at hq
          have dc2 := mt (fa_eq _ _).mpr c2
          refine And.intro (And.left h) ?_
          have h := And.right h
          refine du_X8_take h ?_
          intro h
          refine And.intro (fun c3 => ?_) (fun c3 => ?_)
          · have h := And.left h c3
            rw [if_neg c3] at hq
            have dc3 := mt (fa_eq _ _).mpr c3
            refine ae ?_
            have h := h _ rfl
            have f9 := ta_add x1 1 (by omega)
            exact ih m _ _ _ (by omega) (by omega) h hq
          · have h := And.right h c3
            rw [if_pos c3] at hq
            have dc3 := (fa_eq _ _).mp c3
            exact hq _ _ _ rfl h
        · have h := And.right h c2
          rw [if_pos c2] at hq
          have dc2 := (fa_eq _ _).mp c2
          exact hq _ _ _ rfl h
noncomputable def F_X9_readActs (x_acts : Nat → Int32) (tx_place : Int32) (tx_stop : Int32) (tx_signs : Nat → Int32) : Int32 × (Nat → Int32) × Int32 := flp (fs_X9_readActs_2 (fun o0 o1 o2 => (o0, o1, o2)) tx_stop tx_signs) (fun _ _ _ => (0, (fun _ => 0), 0)) 31 0 x_acts tx_place
set_option maxHeartbeats 200000 in
set_option maxRecDepth 10000 in
theorem dt_X9_readActs {P Q : Int32 → (Nat → Int32) → Int32 → Prop} {x_acts : Nat → Int32} {tx_place : Int32} {tx_stop : Int32} {tx_signs : Nat → Int32} (h : wp_X9_readActs P x_acts tx_place tx_stop tx_signs) (hq : ∀ o : Int32 × (Nat → Int32) × Int32, o = F_X9_readActs x_acts tx_place tx_stop tx_signs → P o.1 o.2.1 o.2.2 → Q o.1 o.2.1 o.2.2) : wp_X9_readActs Q x_acts tx_place tx_stop tx_signs := by
  rw [F_X9_readActs] at hq
  obtain ⟨n1, h⟩ := h
  exact ⟨n1, dl_X9_readActs_2 n1 31 _ _ _ (by decide) (by decide) h (fun b0 b1 b2 e9 h9 => hq (b0, b1, b2) e9 h9)⟩
theorem du_X9_readActs {P Q : Int32 → (Nat → Int32) → Int32 → Prop} {x_acts : Nat → Int32} {tx_place : Int32} {tx_stop : Int32} {tx_signs : Nat → Int32} (h : wp_X9_readActs P x_acts tx_place tx_stop tx_signs) (hq : P (F_X9_readActs x_acts tx_place tx_stop tx_signs).1 (F_X9_readActs x_acts tx_place tx_stop tx_signs).2.1 (F_X9_readActs x_acts tx_place tx_stop tx_signs).2.2 → Q (F_X9_readActs x_acts tx_place tx_stop tx_signs).1 (F_X9_readActs x_acts tx_place tx_stop tx_signs).2.1 (F_X9_readActs x_acts tx_place tx_stop tx_signs).2.2) : wp_X9_readActs Q x_acts tx_place tx_stop tx_signs := dt_X9_readActs h (fun o eo => by rw [eo]; exact hq)
theorem dw_X9_readActs {Q : Int32 → (Nat → Int32) → Int32 → Prop} {x_acts : Nat → Int32} {tx_place : Int32} {tx_stop : Int32} {tx_signs : Nat → Int32} (h : wp_X9_readActs (fun o0 o1 o2 => (o0, o1, o2) = F_X9_readActs x_acts tx_place tx_stop tx_signs → Q o0 o1 o2) x_acts tx_place tx_stop tx_signs) : wp_X9_readActs Q x_acts tx_place tx_stop tx_signs := dt_X9_readActs h (fun o eo hp => hp eo)
noncomputable def j_X9_day_68 {R : Type} (po : Int32 → (Nat → Int32) → Int32 → Int32 → Int32 → Int32 → Int32 → Int32 → Int32 → Int32 → Int32 → Int32 → Int32 → (Nat → Int32) → (Nat → Int32) → Int32 → Int32 → (Nat → Int32) → Int32 → (Nat → Int32) → R) (tx_signs : Nat → Int32) (tr_fruits : Int32) (tr_standings : Int32) (tr_x : Nat → Int32) (tr_height : Nat → Int32) (tr_worth : Nat → Int32) (tr_ripe : Nat → Int32) (tr_foot : Nat → Int32) (tr_fork : Nat → Int32) (tr_settings : Nat → Int32) (ru_length : Int32) (ru_program : Nat → Int32) (k0 : Int32) (x_acts : Nat → Int32) (tx_length : Int32) (tx_place : Int32) (tx_stop : Int32) (no_apron : Int32) (no_basket : Int32) (no_ground : Int32) (no_bruised : Int32) (no_ladder : Int32) (no_helper : Int32) (no_today : Int32) (no_clock : Int32) (ru_given : Nat → Int32) (ru_stack : Nat → Int32) (pa_undoable : Int32) (pa_free : Int32) (pa_cells : Nat → Int32) (ro_size : Int32) (ro_numbers : Nat → Int32) : R := po k0 x_acts (F_X8_clear tx_length) tx_place tx_stop no_apron no_basket no_ground no_bruised no_ladder no_helper no_today no_clock ru_given ru_stack pa_undoable pa_free pa_cells ro_size ro_numbers
noncomputable def j_X9_day_48 {R : Type} (po : Int32 → (Nat → Int32) → Int32 → Int32 → Int32 → Int32 → Int32 → Int32 → Int32 → Int32 → Int32 → Int32 → Int32 → (Nat → Int32) → (Nat → Int32) → Int32 → Int32 → (Nat → Int32) → Int32 → (Nat → Int32) → R) (tx_signs : Nat → Int32) (tr_fruits : Int32) (tr_standings : Int32) (tr_x : Nat → Int32) (tr_height : Nat → Int32) (tr_worth : Nat → Int32) (tr_ripe : Nat → Int32) (tr_foot : Nat → Int32) (tr_fork : Nat → Int32) (tr_settings : Nat → Int32) (ru_length : Int32) (ru_program : Nat → Int32) (x1 : Int32) (k0 : Int32) (x_acts : Nat → Int32) (tx_length : Int32) (tx_place : Int32) (tx_stop : Int32) (no_apron : Int32) (no_basket : Int32) (no_ground : Int32) (no_bruised : Int32) (no_ladder : Int32) (no_helper : Int32) (no_today : Int32) (no_clock : Int32) (ru_given : Nat → Int32) (ru_stack : Nat → Int32) (pa_undoable : Int32) (pa_free : Int32) (pa_cells : Nat → Int32) (ro_size : Int32) (ro_numbers : Nat → Int32) : R := if k0 = 0 then (j_X9_day_68 po tx_signs tr_fruits tr_standings tr_x tr_height tr_worth tr_ripe tr_foot tr_fork tr_settings ru_length ru_program (F_X8_wrong tx_place) x_acts tx_length tx_place tx_stop no_apron no_basket no_ground no_bruised no_ladder no_helper no_today no_clock ru_given ru_stack pa_undoable pa_free pa_cells ro_size ro_numbers) else (j_X9_day_68 po tx_signs tr_fruits tr_standings tr_x tr_height tr_worth tr_ripe tr_foot tr_fork tr_settings ru_length ru_program ((F_X9_doActs x1 x_acts tr_fruits tr_standings tr_x tr_height tr_worth tr_ripe tr_foot tr_fork tr_settings no_apron no_basket no_ground no_bruised no_ladder no_helper no_today no_clock ru_length ru_given ru_stack ru_program pa_undoable pa_free pa_cells ro_size ro_numbers).1) x_acts tx_length tx_place tx_stop ((F_X9_doActs x1 x_acts tr_fruits tr_standings tr_x tr_height tr_worth tr_ripe tr_foot tr_fork tr_settings no_apron no_basket no_ground no_bruised no_ladder no_helper no_today no_clock ru_length ru_given ru_stack ru_program pa_undoable pa_free pa_cells ro_size ro_numbers).2.1) ((F_X9_doActs x1 x_acts tr_fruits tr_standings tr_x tr_height tr_worth tr_ripe tr_foot tr_fork tr_settings no_apron no_basket no_ground no_bruised no_ladder no_helper no_today no_clock ru_length ru_given ru_stack ru_program pa_undoable pa_free pa_cells ro_size ro_numbers).2.2.1) ((F_X9_doActs x1 x_acts tr_fruits tr_standings tr_x tr_height tr_worth tr_ripe tr_foot tr_fork tr_settings no_apron no_basket no_ground no_bruised no_ladder no_helper no_today no_clock ru_length ru_given ru_stack ru_program pa_undoable pa_free pa_cells ro_size ro_numbers).2.2.2.1) ((F_X9_doActs x1 x_acts tr_fruits tr_standings tr_x tr_height tr_worth tr_ripe tr_foot tr_fork tr_settings no_apron no_basket no_ground no_bruised no_ladder no_helper no_today no_clock ru_length ru_given ru_stack ru_program pa_undoable pa_free pa_cells ro_size ro_numbers).2.2.2.2.1) ((F_X9_doActs x1 x_acts tr_fruits tr_standings tr_x tr_height tr_worth tr_ripe tr_foot tr_fork tr_settings no_apron no_basket no_ground no_bruised no_ladder no_helper no_today no_clock ru_length ru_given ru_stack ru_program pa_undoable pa_free pa_cells ro_size ro_numbers).2.2.2.2.2.1) ((F_X9_doActs x1 x_acts tr_fruits tr_standings tr_x tr_height tr_worth tr_ripe tr_foot tr_fork tr_settings no_apron no_basket no_ground no_bruised no_ladder no_helper no_today no_clock ru_length ru_given ru_stack ru_program pa_undoable pa_free pa_cells ro_size ro_numbers).2.2.2.2.2.2.1) ((F_X9_doActs x1 x_acts tr_fruits tr_standings tr_x tr_height tr_worth tr_ripe tr_foot tr_fork tr_settings no_apron no_basket no_ground no_bruised no_ladder no_helper no_today no_clock ru_length ru_given ru_stack ru_program pa_undoable pa_free pa_cells ro_size ro_numbers).2.2.2.2.2.2.2.1) ((F_X9_doActs x1 x_acts tr_fruits tr_standings tr_x tr_height tr_worth tr_ripe tr_foot tr_fork tr_settings no_apron no_basket no_ground no_bruised no_ladder no_helper no_today no_clock ru_length ru_given ru_stack ru_program pa_undoable pa_free pa_cells ro_size ro_numbers).2.2.2.2.2.2.2.2.1) ((F_X9_doActs x1 x_acts tr_fruits tr_standings tr_x tr_height tr_worth tr_ripe tr_foot tr_fork tr_settings no_apron no_basket no_ground no_bruised no_ladder no_helper no_today no_clock ru_length ru_given ru_stack ru_program pa_undoable pa_free pa_cells ro_size ro_numbers).2.2.2.2.2.2.2.2.2.1) ((F_X9_doActs x1 x_acts tr_fruits tr_standings tr_x tr_height tr_worth tr_ripe tr_foot tr_fork tr_settings no_apron no_basket no_ground no_bruised no_ladder no_helper no_today no_clock ru_length ru_given ru_stack ru_program pa_undoable pa_free pa_cells ro_size ro_numbers).2.2.2.2.2.2.2.2.2.2.1) ((F_X9_doActs x1 x_acts tr_fruits tr_standings tr_x tr_height tr_worth tr_ripe tr_foot tr_fork tr_settings no_apron no_basket no_ground no_bruised no_ladder no_helper no_today no_clock ru_length ru_given ru_stack ru_program pa_undoable pa_free pa_cells ro_size ro_numbers).2.2.2.2.2.2.2.2.2.2.2.1) ((F_X9_doActs x1 x_acts tr_fruits tr_standings tr_x tr_height tr_worth tr_ripe tr_foot tr_fork tr_settings no_apron no_basket no_ground no_bruised no_ladder no_helper no_today no_clock ru_length ru_given ru_stack ru_program pa_undoable pa_free pa_cells ro_size ro_numbers).2.2.2.2.2.2.2.2.2.2.2.2.1) ((F_X9_doActs x1 x_acts tr_fruits tr_standings tr_x tr_height tr_worth tr_ripe tr_foot tr_fork tr_settings no_apron no_basket no_ground no_bruised no_ladder no_helper no_today no_clock ru_length ru_given ru_stack ru_program pa_undoable pa_free pa_cells ro_size ro_numbers).2.2.2.2.2.2.2.2.2.2.2.2.2.1) ((F_X9_doActs x1 x_acts tr_fruits tr_standings tr_x tr_height tr_worth tr_ripe tr_foot tr_fork tr_settings no_apron no_basket no_ground no_bruised no_ladder no_helper no_today no_clock ru_length ru_given ru_stack ru_program pa_undoable pa_free pa_cells ro_size ro_numbers).2.2.2.2.2.2.2.2.2.2.2.2.2.2.1) ((F_X9_doActs x1 x_acts tr_fruits tr_standings tr_x tr_height tr_worth tr_ripe tr_foot tr_fork tr_settings no_apron no_basket no_ground no_bruised no_ladder no_helper no_today no_clock ru_length ru_given ru_stack ru_program pa_undoable pa_free pa_cells ro_size ro_numbers).2.2.2.2.2.2.2.2.2.2.2.2.2.2.2))
noncomputable def j_X9_day_47 {R : Type} (po : Int32 → (Nat → Int32) → Int32 → Int32 → Int32 → Int32 → Int32 → Int32 → Int32 → Int32 → Int32 → Int32 → Int32 → (Nat → Int32) → (Nat → Int32) → Int32 → Int32 → (Nat → Int32) → Int32 → (Nat → Int32) → R) (tx_signs : Nat → Int32) (tr_fruits : Int32) (tr_standings : Int32) (tr_x : Nat → Int32) (tr_height : Nat → Int32) (tr_worth : Nat → Int32) (tr_ripe : Nat → Int32) (tr_foot : Nat → Int32) (tr_fork : Nat → Int32) (tr_settings : Nat → Int32) (ru_length : Int32) (ru_program : Nat → Int32) (x1 : Int32) (x_acts : Nat → Int32) (tx_length : Int32) (tx_place : Int32) (tx_stop : Int32) (no_apron : Int32) (no_basket : Int32) (no_ground : Int32) (no_bruised : Int32) (no_ladder : Int32) (no_helper : Int32) (no_today : Int32) (no_clock : Int32) (ru_given : Nat → Int32) (ru_stack : Nat → Int32) (pa_undoable : Int32) (pa_free : Int32) (pa_cells : Nat → Int32) (ro_size : Int32) (ro_numbers : Nat → Int32) : R := j_X9_day_48 po tx_signs tr_fruits tr_standings tr_x tr_height tr_worth tr_ripe tr_foot tr_fork tr_settings ru_length ru_program x1 0 x_acts tx_length tx_place tx_stop no_apron no_basket no_ground no_bruised no_ladder no_helper no_today no_clock ru_given ru_stack pa_undoable pa_free pa_cells ro_size ro_numbers
noncomputable def j_X9_day_27 {R : Type} (po : Int32 → (Nat → Int32) → Int32 → Int32 → Int32 → Int32 → Int32 → Int32 → Int32 → Int32 → Int32 → Int32 → Int32 → (Nat → Int32) → (Nat → Int32) → Int32 → Int32 → (Nat → Int32) → Int32 → (Nat → Int32) → R) (tx_signs : Nat → Int32) (tr_fruits : Int32) (tr_standings : Int32) (tr_x : Nat → Int32) (tr_height : Nat → Int32) (tr_worth : Nat → Int32) (tr_ripe : Nat → Int32) (tr_foot : Nat → Int32) (tr_fork : Nat → Int32) (tr_settings : Nat → Int32) (ru_length : Int32) (ru_program : Nat → Int32) (k0 : Int32) (x_acts : Nat → Int32) (tx_length : Int32) (tx_place : Int32) (tx_stop : Int32) (no_apron : Int32) (no_basket : Int32) (no_ground : Int32) (no_bruised : Int32) (no_ladder : Int32) (no_helper : Int32) (no_today : Int32) (no_clock : Int32) (ru_given : Nat → Int32) (ru_stack : Nat → Int32) (pa_undoable : Int32) (pa_free : Int32) (pa_cells : Nat → Int32) (ro_size : Int32) (ro_numbers : Nat → Int32) : R := if k0 = (-1) then (j_X9_day_47 po tx_signs tr_fruits tr_standings tr_x tr_height tr_worth tr_ripe tr_foot tr_fork tr_settings ru_length ru_program k0 x_acts tx_length tx_place tx_stop no_apron no_basket no_ground no_bruised no_ladder no_helper no_today no_clock ru_given ru_stack pa_undoable pa_free pa_cells ro_size ro_numbers) else (if (F_X8_isThrough tx_length tx_place) = 0 then (j_X9_day_47 po tx_signs tr_fruits tr_standings tr_x tr_height tr_worth tr_ripe tr_foot tr_fork tr_settings ru_length ru_program k0 x_acts tx_length tx_place tx_stop no_apron no_basket no_ground no_bruised no_ladder no_helper no_today no_clock ru_given ru_stack pa_undoable pa_free pa_cells ro_size ro_numbers) else (j_X9_day_48 po tx_signs tr_fruits tr_standings tr_x tr_height tr_worth tr_ripe tr_foot tr_fork tr_settings ru_length ru_program k0 1 x_acts tx_length tx_place tx_stop no_apron no_basket no_ground no_bruised no_ladder no_helper no_today no_clock ru_given ru_stack pa_undoable pa_free pa_cells ro_size ro_numbers))
noncomputable def F_X9_day (x_acts : Nat → Int32) (tx_length : Int32) (tx_place : Int32) (tx_stop : Int32) (tx_signs : Nat → Int32) (tr_fruits : Int32) (tr_standings : Int32) (tr_x : Nat → Int32) (tr_height : Nat → Int32) (tr_worth : Nat → Int32) (tr_ripe : Nat → Int32) (tr_foot : Nat → Int32) (tr_fork : Nat → Int32) (tr_settings : Nat → Int32) (no_apron : Int32) (no_basket : Int32) (no_ground : Int32) (no_bruised : Int32) (no_ladder : Int32) (no_helper : Int32) (no_today : Int32) (no_clock : Int32) (ru_length : Int32) (ru_given : Nat → Int32) (ru_stack : Nat → Int32) (ru_program : Nat → Int32) (pa_undoable : Int32) (pa_free : Int32) (pa_cells : Nat → Int32) (ro_size : Int32) (ro_numbers : Nat → Int32) : Int32 × (Nat → Int32) × Int32 × Int32 × Int32 × Int32 × Int32 × Int32 × Int32 × Int32 × Int32 × Int32 × Int32 × (Nat → Int32) × (Nat → Int32) × Int32 × Int32 × (Nat → Int32) × Int32 × (Nat → Int32) := if tx_length = 0 then (j_X9_day_27 (fun o0 o1 o2 o3 o4 o5 o6 o7 o8 o9 o10 o11 o12 o13 o14 o15 o16 o17 o18 o19 => (o0, o1, o2, o3, o4, o5, o6, o7, o8, o9, o10, o11, o12, o13, o14, o15, o16, o17, o18, o19)) tx_signs tr_fruits tr_standings tr_x tr_height tr_worth tr_ripe tr_foot tr_fork tr_settings ru_length ru_program 0 x_acts tx_length ((F_X8_open 60 tx_length tx_place tx_stop).1) ((F_X8_open 60 tx_length tx_place tx_stop).2) no_apron no_basket no_ground no_bruised no_ladder no_helper no_today no_clock ru_given ru_stack pa_undoable pa_free pa_cells ro_size ro_numbers) else (j_X9_day_27 (fun o0 o1 o2 o3 o4 o5 o6 o7 o8 o9 o10 o11 o12 o13 o14 o15 o16 o17 o18 o19 => (o0, o1, o2, o3, o4, o5, o6, o7, o8, o9, o10, o11, o12, o13, o14, o15, o16, o17, o18, o19)) tx_signs tr_fruits tr_standings tr_x tr_height tr_worth tr_ripe tr_foot tr_fork tr_settings ru_length ru_program ((F_X9_readActs x_acts (F_X8_open 60 tx_length tx_place tx_stop).1 (F_X8_open 60 tx_length tx_place tx_stop).2 tx_signs).1) ((F_X9_readActs x_acts (F_X8_open 60 tx_length tx_place tx_stop).1 (F_X8_open 60 tx_length tx_place tx_stop).2 tx_signs).2.1) tx_length ((F_X9_readActs x_acts (F_X8_open 60 tx_length tx_place tx_stop).1 (F_X8_open 60 tx_length tx_place tx_stop).2 tx_signs).2.2) ((F_X8_open 60 tx_length tx_place tx_stop).2) no_apron no_basket no_ground no_bruised no_ladder no_helper no_today no_clock ru_given ru_stack pa_undoable pa_free pa_cells ro_size ro_numbers)
set_option maxHeartbeats 200000 in
set_option maxRecDepth 10000 in
theorem dt_X9_day {P Q : Int32 → (Nat → Int32) → Int32 → Int32 → Int32 → Int32 → Int32 → Int32 → Int32 → Int32 → Int32 → Int32 → Int32 → (Nat → Int32) → (Nat → Int32) → Int32 → Int32 → (Nat → Int32) → Int32 → (Nat → Int32) → Prop} {x_acts : Nat → Int32} {tx_length : Int32} {tx_place : Int32} {tx_stop : Int32} {tx_signs : Nat → Int32} {tr_fruits : Int32} {tr_standings : Int32} {tr_x : Nat → Int32} {tr_height : Nat → Int32} {tr_worth : Nat → Int32} {tr_ripe : Nat → Int32} {tr_foot : Nat → Int32} {tr_fork : Nat → Int32} {tr_settings : Nat → Int32} {no_apron : Int32} {no_basket : Int32} {no_ground : Int32} {no_bruised : Int32} {no_ladder : Int32} {no_helper : Int32} {no_today : Int32} {no_clock : Int32} {ru_length : Int32} {ru_given : Nat → Int32} {ru_stack : Nat → Int32} {ru_program : Nat → Int32} {pa_undoable : Int32} {pa_free : Int32} {pa_cells : Nat → Int32} {ro_size : Int32} {ro_numbers : Nat → Int32} (h : wp_X9_day P x_acts tx_length tx_place tx_stop tx_signs tr_fruits tr_standings tr_x tr_height tr_worth tr_ripe tr_foot tr_fork tr_settings no_apron no_basket no_ground no_bruised no_ladder no_helper no_today no_clock ru_length ru_given ru_stack ru_program pa_undoable pa_free pa_cells ro_size ro_numbers) (hq : ∀ o : Int32 × (Nat → Int32) × Int32 × Int32 × Int32 × Int32 × Int32 × Int32 × Int32 × Int32 × Int32 × Int32 × Int32 × (Nat → Int32) × (Nat → Int32) × Int32 × Int32 × (Nat → Int32) × Int32 × (Nat → Int32), o = F_X9_day x_acts tx_length tx_place tx_stop tx_signs tr_fruits tr_standings tr_x tr_height tr_worth tr_ripe tr_foot tr_fork tr_settings no_apron no_basket no_ground no_bruised no_ladder no_helper no_today no_clock ru_length ru_given ru_stack ru_program pa_undoable pa_free pa_cells ro_size ro_numbers → P o.1 o.2.1 o.2.2.1 o.2.2.2.1 o.2.2.2.2.1 o.2.2.2.2.2.1 o.2.2.2.2.2.2.1 o.2.2.2.2.2.2.2.1 o.2.2.2.2.2.2.2.2.1 o.2.2.2.2.2.2.2.2.2.1 o.2.2.2.2.2.2.2.2.2.2.1 o.2.2.2.2.2.2.2.2.2.2.2.1 o.2.2.2.2.2.2.2.2.2.2.2.2.1 o.2.2.2.2.2.2.2.2.2.2.2.2.2.1 o.2.2.2.2.2.2.2.2.2.2.2.2.2.2.1 o.2.2.2.2.2.2.2.2.2.2.2.2.2.2.2.1 o.2.2.2.2.2.2.2.2.2.2.2.2.2.2.2.2.1 o.2.2.2.2.2.2.2.2.2.2.2.2.2.2.2.2.2.1 o.2.2.2.2.2.2.2.2.2.2.2.2.2.2.2.2.2.2.1 o.2.2.2.2.2.2.2.2.2.2.2.2.2.2.2.2.2.2.2 → Q o.1 o.2.1 o.2.2.1 o.2.2.2.1 o.2.2.2.2.1 o.2.2.2.2.2.1 o.2.2.2.2.2.2.1 o.2.2.2.2.2.2.2.1 o.2.2.2.2.2.2.2.2.1 o.2.2.2.2.2.2.2.2.2.1 o.2.2.2.2.2.2.2.2.2.2.1 o.2.2.2.2.2.2.2.2.2.2.2.1 o.2.2.2.2.2.2.2.2.2.2.2.2.1 o.2.2.2.2.2.2.2.2.2.2.2.2.2.1 o.2.2.2.2.2.2.2.2.2.2.2.2.2.2.1 o.2.2.2.2.2.2.2.2.2.2.2.2.2.2.2.1 o.2.2.2.2.2.2.2.2.2.2.2.2.2.2.2.2.1 o.2.2.2.2.2.2.2.2.2.2.2.2.2.2.2.2.2.1 o.2.2.2.2.2.2.2.2.2.2.2.2.2.2.2.2.2.2.1 o.2.2.2.2.2.2.2.2.2.2.2.2.2.2.2.2.2.2.2) : wp_X9_day Q x_acts tx_length tx_place tx_stop tx_signs tr_fruits tr_standings tr_x tr_height tr_worth tr_ripe tr_foot tr_fork tr_settings no_apron no_basket no_ground no_bruised no_ladder no_helper no_today no_clock ru_length ru_given ru_stack ru_program pa_undoable pa_free pa_cells ro_size ro_numbers := by
  rw [F_X9_day] at hq
  refine du_X8_open h ?_
  intro h
  refine And.intro (fun c1 => ?_) (fun c1 => ?_)
  · have h := And.left h c1
    rw [if_neg c1] at hq
    refine du_X9_readActs h ?_
    intro h
    rw [j_X9_day_27] at hq
    unfold ws_X9_day_27 at h ⊢
    refine And.intro (fun c2 => ?_) (fun c2 => ?_)
    · have h := And.left h c2
      rw [if_pos c2] at hq
      rw [j_X9_day_47] at hq
      unfold ws_X9_day_47 at h ⊢
      rw [j_X9_day_48] at hq
      unfold ws_X9_day_48 at h ⊢
      refine And.intro (fun c3 => ?_) (fun c3 => ?_)
      · have h := And.left h c3
        rw [if_pos c3] at hq
        refine du_X8_wrong h ?_
        intro h
        rw [j_X9_day_68] at hq
        unfold ws_X9_day_68 at h ⊢
        refine du_X8_clear h ?_
        intro h
        have q9 := hq _ rfl
        dsimp only at q9
        exact q9 h
      · have h := And.right h c3
        rw [if_neg c3] at hq
        refine du_X9_doActs h ?_
        intro h
        rw [j_X9_day_68] at hq
        unfold ws_X9_day_68 at h ⊢
        refine du_X8_clear h ?_
        intro h
        have q9 := hq _ rfl
        dsimp only at q9
        exact q9 h
    · have h := And.right h c2
      rw [if_neg c2] at hq
      refine du_X8_isThrough h ?_
      intro h
      refine And.intro (fun c4 => ?_) (fun c4 => ?_)
      · have h := And.left h c4
        rw [if_pos c4] at hq
        rw [j_X9_day_47] at hq
        unfold ws_X9_day_47 at h ⊢
        rw [j_X9_day_48] at hq
        unfold ws_X9_day_48 at h ⊢
        refine And.intro (fun c5 => ?_) (fun c5 => ?_)
        · have h := And.left h c5
          rw [if_pos c5] at hq
          refine du_X8_wrong h ?_
          intro h
          rw [j_X9_day_68] at hq
          unfold ws_X9_day_68 at h ⊢
          refine du_X8_clear h ?_
          intro h
          have q9 := hq _ rfl
          dsimp only at q9
          exact q9 h
        · have h := And.right h c5
          rw [if_neg c5] at hq
          refine du_X9_doActs h ?_
          intro h
          rw [j_X9_day_68] at hq
          unfold ws_X9_day_68 at h ⊢
          refine du_X8_clear h ?_
          intro h
          have q9 := hq _ rfl
          dsimp only at q9
          exact q9 h
      · have h := And.right h c4
        rw [if_neg c4] at hq
        rw [j_X9_day_48] at hq
        unfold ws_X9_day_48 at h ⊢
        refine And.intro (fun c6 => ?_) (fun c6 => ?_)
        · have h := And.left h c6
          rw [if_pos c6] at hq
          refine du_X8_wrong h ?_
          intro h
          rw [j_X9_day_68] at hq
          unfold ws_X9_day_68 at h ⊢
          refine du_X8_clear h ?_
          intro h
          have q9 := hq _ rfl
          dsimp only at q9
          exact q9 h
        · have h := And.right h c6
          rw [if_neg c6] at hq
          refine du_X9_doActs h ?_
          intro h
          rw [j_X9_day_68] at hq
          unfold ws_X9_day_68 at h ⊢
          refine du_X8_clear h ?_
          intro h
          have q9 := hq _ rfl
          dsimp only at q9
          exact q9 h
  · have h := And.right h c1
    rw [if_pos c1] at hq
    rw [j_X9_day_27] at hq
    unfold ws_X9_day_27 at h ⊢
    refine And.intro (fun c7 => ?_) (fun c7 => ?_)
    · have h := And.left h c7
      rw [if_pos c7] at hq
      rw [j_X9_day_47] at hq
      unfold ws_X9_day_47 at h ⊢
      rw [j_X9_day_48] at hq
      unfold ws_X9_day_48 at h ⊢
      refine And.intro (fun c8 => ?_) (fun c8 => ?_)
      · have h := And.left h c8
        rw [if_pos c8] at hq
        refine du_X8_wrong h ?_
        intro h
        rw [j_X9_day_68] at hq
        unfold ws_X9_day_68 at h ⊢
        refine du_X8_clear h ?_
        intro h
        have q9 := hq _ rfl
        dsimp only at q9
        exact q9 h
      · have h := And.right h c8
        rw [if_neg c8] at hq
        refine du_X9_doActs h ?_
        intro h
        rw [j_X9_day_68] at hq
        unfold ws_X9_day_68 at h ⊢
        refine du_X8_clear h ?_
        intro h
        have q9 := hq _ rfl
        dsimp only at q9
        exact q9 h
    · have h := And.right h c7
      rw [if_neg c7] at hq
      refine du_X8_isThrough h ?_
      intro h
      refine And.intro (fun c9 => ?_) (fun c9 => ?_)
      · have h := And.left h c9
        rw [if_pos c9] at hq
        rw [j_X9_day_47] at hq
        unfold ws_X9_day_47 at h ⊢
        rw [j_X9_day_48] at hq
        unfold ws_X9_day_48 at h ⊢
        refine And.intro (fun c10 => ?_) (fun c10 => ?_)
        · have h := And.left h c10
          rw [if_pos c10] at hq
          refine du_X8_wrong h ?_
          intro h
          rw [j_X9_day_68] at hq
          unfold ws_X9_day_68 at h ⊢
          refine du_X8_clear h ?_
          intro h
          have q9 := hq _ rfl
          dsimp only at q9
          exact q9 h
        · have h := And.right h c10
          rw [if_neg c10] at hq
          refine du_X9_doActs h ?_
          intro h
          rw [j_X9_day_68] at hq
          unfold ws_X9_day_68 at h ⊢
          refine du_X8_clear h ?_
          intro h
          have q9 := hq _ rfl
          dsimp only at q9
          exact q9 h
      · have h := And.right h c9
        rw [if_neg c9] at hq
        rw [j_X9_day_48] at hq
        unfold ws_X9_day_48 at h ⊢
        refine And.intro (fun c11 => ?_) (fun c11 => ?_)
        · have h := And.left h c11
          rw [if_pos c11] at hq
          refine du_X8_wrong h ?_
          intro h
          rw [j_X9_day_68] at hq
          unfold ws_X9_day_68 at h ⊢
          refine du_X8_clear h ?_
          intro h
          have q9 := hq _ rfl
          dsimp only at q9
          exact q9 h
        · have h := And.right h c11
          rw [if_neg c11] at hq
          refine du_X9_doActs h ?_
          intro h
          rw [j_X9_day_68] at hq
          unfold ws_X9_day_68 at h ⊢
          refine du_X8_clear h ?_
          intro h
          have q9 := hq _ rfl
          dsimp only at q9
          exact q9 h
theorem du_X9_day {P Q : Int32 → (Nat → Int32) → Int32 → Int32 → Int32 → Int32 → Int32 → Int32 → Int32 → Int32 → Int32 → Int32 → Int32 → (Nat → Int32) → (Nat → Int32) → Int32 → Int32 → (Nat → Int32) → Int32 → (Nat → Int32) → Prop} {x_acts : Nat → Int32} {tx_length : Int32} {tx_place : Int32} {tx_stop : Int32} {tx_signs : Nat → Int32} {tr_fruits : Int32} {tr_standings : Int32} {tr_x : Nat → Int32} {tr_height : Nat → Int32} {tr_worth : Nat → Int32} {tr_ripe : Nat → Int32} {tr_foot : Nat → Int32} {tr_fork : Nat → Int32} {tr_settings : Nat → Int32} {no_apron : Int32} {no_basket : Int32} {no_ground : Int32} {no_bruised : Int32} {no_ladder : Int32} {no_helper : Int32} {no_today : Int32} {no_clock : Int32} {ru_length : Int32} {ru_given : Nat → Int32} {ru_stack : Nat → Int32} {ru_program : Nat → Int32} {pa_undoable : Int32} {pa_free : Int32} {pa_cells : Nat → Int32} {ro_size : Int32} {ro_numbers : Nat → Int32} (h : wp_X9_day P x_acts tx_length tx_place tx_stop tx_signs tr_fruits tr_standings tr_x tr_height tr_worth tr_ripe tr_foot tr_fork tr_settings no_apron no_basket no_ground no_bruised no_ladder no_helper no_today no_clock ru_length ru_given ru_stack ru_program pa_undoable pa_free pa_cells ro_size ro_numbers) (hq : P (F_X9_day x_acts tx_length tx_place tx_stop tx_signs tr_fruits tr_standings tr_x tr_height tr_worth tr_ripe tr_foot tr_fork tr_settings no_apron no_basket no_ground no_bruised no_ladder no_helper no_today no_clock ru_length ru_given ru_stack ru_program pa_undoable pa_free pa_cells ro_size ro_numbers).1 (F_X9_day x_acts tx_length tx_place tx_stop tx_signs tr_fruits tr_standings tr_x tr_height tr_worth tr_ripe tr_foot tr_fork tr_settings no_apron no_basket no_ground no_bruised no_ladder no_helper no_today no_clock ru_length ru_given ru_stack ru_program pa_undoable pa_free pa_cells ro_size ro_numbers).2.1 (F_X9_day x_acts tx_length tx_place tx_stop tx_signs tr_fruits tr_standings tr_x tr_height tr_worth tr_ripe tr_foot tr_fork tr_settings no_apron no_basket no_ground no_bruised no_ladder no_helper no_today no_clock ru_length ru_given ru_stack ru_program pa_undoable pa_free pa_cells ro_size ro_numbers).2.2.1 (F_X9_day x_acts tx_length tx_place tx_stop tx_signs tr_fruits tr_standings tr_x tr_height tr_worth tr_ripe tr_foot tr_fork tr_settings no_apron no_basket no_ground no_bruised no_ladder no_helper no_today no_clock ru_length ru_given ru_stack ru_program pa_undoable pa_free pa_cells ro_size ro_numbers).2.2.2.1 (F_X9_day x_acts tx_length tx_place tx_stop tx_signs tr_fruits tr_standings tr_x tr_height tr_worth tr_ripe tr_foot tr_fork tr_settings no_apron no_basket no_ground no_bruised no_ladder no_helper no_today no_clock ru_length ru_given ru_stack ru_program pa_undoable pa_free pa_cells ro_size ro_numbers).2.2.2.2.1 (F_X9_day x_acts tx_length tx_place tx_stop tx_signs tr_fruits tr_standings tr_x tr_height tr_worth tr_ripe tr_foot tr_fork tr_settings no_apron no_basket no_ground no_bruised no_ladder no_helper no_today no_clock ru_length ru_given ru_stack ru_program pa_undoable pa_free pa_cells ro_size ro_numbers).2.2.2.2.2.1 (F_X9_day x_acts tx_length tx_place tx_stop tx_signs tr_fruits tr_standings tr_x tr_height tr_worth tr_ripe tr_foot tr_fork tr_settings no_apron no_basket no_ground no_bruised no_ladder no_helper no_today no_clock ru_length ru_given ru_stack ru_program pa_undoable pa_free pa_cells ro_size ro_numbers).2.2.2.2.2.2.1 (F_X9_day x_acts tx_length tx_place tx_stop tx_signs tr_fruits tr_standings tr_x tr_height tr_worth tr_ripe tr_foot tr_fork tr_settings no_apron no_basket no_ground no_bruised no_ladder no_helper no_today no_clock ru_length ru_given ru_stack ru_program pa_undoable pa_free pa_cells ro_size ro_numbers).2.2.2.2.2.2.2.1 (F_X9_day x_acts tx_length tx_place tx_stop tx_signs tr_fruits tr_standings tr_x tr_height tr_worth tr_ripe tr_foot tr_fork tr_settings no_apron no_basket no_ground no_bruised no_ladder no_helper no_today no_clock ru_length ru_given ru_stack ru_program pa_undoable pa_free pa_cells ro_size ro_numbers).2.2.2.2.2.2.2.2.1 (F_X9_day x_acts tx_length tx_place tx_stop tx_signs tr_fruits tr_standings tr_x tr_height tr_worth tr_ripe tr_foot tr_fork tr_settings no_apron no_basket no_ground no_bruised no_ladder no_helper no_today no_clock ru_length ru_given ru_stack ru_program pa_undoable pa_free pa_cells ro_size ro_numbers).2.2.2.2.2.2.2.2.2.1 (F_X9_day x_acts tx_length tx_place tx_stop tx_signs tr_fruits tr_standings tr_x tr_height tr_worth tr_ripe tr_foot tr_fork tr_settings no_apron no_basket no_ground no_bruised no_ladder no_helper no_today no_clock ru_length ru_given ru_stack ru_program pa_undoable pa_free pa_cells ro_size ro_numbers).2.2.2.2.2.2.2.2.2.2.1 (F_X9_day x_acts tx_length tx_place tx_stop tx_signs tr_fruits tr_standings tr_x tr_height tr_worth tr_ripe tr_foot tr_fork tr_settings no_apron no_basket no_ground no_bruised no_ladder no_helper no_today no_clock ru_length ru_given ru_stack ru_program pa_undoable pa_free pa_cells ro_size ro_numbers).2.2.2.2.2.2.2.2.2.2.2.1 (F_X9_day x_acts tx_length tx_place tx_stop tx_signs tr_fruits tr_standings tr_x tr_height tr_worth tr_ripe tr_foot tr_fork tr_settings no_apron no_basket no_ground no_bruised no_ladder no_helper no_today no_clock ru_length ru_given ru_stack ru_program pa_undoable pa_free pa_cells ro_size ro_numbers).2.2.2.2.2.2.2.2.2.2.2.2.1 (F_X9_day x_acts tx_length tx_place tx_stop tx_signs tr_fruits tr_standings tr_x tr_height tr_worth tr_ripe tr_foot tr_fork tr_settings no_apron no_basket no_ground no_bruised no_ladder no_helper no_today no_clock ru_length ru_given ru_stack ru_program pa_undoable pa_free pa_cells ro_size ro_numbers).2.2.2.2.2.2.2.2.2.2.2.2.2.1 (F_X9_day x_acts tx_length tx_place tx_stop tx_signs tr_fruits tr_standings tr_x tr_height tr_worth tr_ripe tr_foot tr_fork tr_settings no_apron no_basket no_ground no_bruised no_ladder no_helper no_today no_clock ru_length ru_given ru_stack ru_program pa_undoable pa_free pa_cells ro_size ro_numbers).2.2.2.2.2.2.2.2.2.2.2.2.2.2.1 (F_X9_day x_acts tx_length tx_place tx_stop tx_signs tr_fruits tr_standings tr_x tr_height tr_worth tr_ripe tr_foot tr_fork tr_settings no_apron no_basket no_ground no_bruised no_ladder no_helper no_today no_clock ru_length ru_given ru_stack ru_program pa_undoable pa_free pa_cells ro_size ro_numbers).2.2.2.2.2.2.2.2.2.2.2.2.2.2.2.1 (F_X9_day x_acts tx_length tx_place tx_stop tx_signs tr_fruits tr_standings tr_x tr_height tr_worth tr_ripe tr_foot tr_fork tr_settings no_apron no_basket no_ground no_bruised no_ladder no_helper no_today no_clock ru_length ru_given ru_stack ru_program pa_undoable pa_free pa_cells ro_size ro_numbers).2.2.2.2.2.2.2.2.2.2.2.2.2.2.2.2.1 (F_X9_day x_acts tx_length tx_place tx_stop tx_signs tr_fruits tr_standings tr_x tr_height tr_worth tr_ripe tr_foot tr_fork tr_settings no_apron no_basket no_ground no_bruised no_ladder no_helper no_today no_clock ru_length ru_given ru_stack ru_program pa_undoable pa_free pa_cells ro_size ro_numbers).2.2.2.2.2.2.2.2.2.2.2.2.2.2.2.2.2.1 (F_X9_day x_acts tx_length tx_place tx_stop tx_signs tr_fruits tr_standings tr_x tr_height tr_worth tr_ripe tr_foot tr_fork tr_settings no_apron no_basket no_ground no_bruised no_ladder no_helper no_today no_clock ru_length ru_given ru_stack ru_program pa_undoable pa_free pa_cells ro_size ro_numbers).2.2.2.2.2.2.2.2.2.2.2.2.2.2.2.2.2.2.1 (F_X9_day x_acts tx_length tx_place tx_stop tx_signs tr_fruits tr_standings tr_x tr_height tr_worth tr_ripe tr_foot tr_fork tr_settings no_apron no_basket no_ground no_bruised no_ladder no_helper no_today no_clock ru_length ru_given ru_stack ru_program pa_undoable pa_free pa_cells ro_size ro_numbers).2.2.2.2.2.2.2.2.2.2.2.2.2.2.2.2.2.2.2 → Q (F_X9_day x_acts tx_length tx_place tx_stop tx_signs tr_fruits tr_standings tr_x tr_height tr_worth tr_ripe tr_foot tr_fork tr_settings no_apron no_basket no_ground no_bruised no_ladder no_helper no_today no_clock ru_length ru_given ru_stack ru_program pa_undoable pa_free pa_cells ro_size ro_numbers).1 (F_X9_day x_acts tx_length tx_place tx_stop tx_signs tr_fruits tr_standings tr_x tr_height tr_worth tr_ripe tr_foot tr_fork tr_settings no_apron no_basket no_ground no_bruised no_ladder no_helper no_today no_clock ru_length ru_given ru_stack ru_program pa_undoable pa_free pa_cells ro_size ro_numbers).2.1 (F_X9_day x_acts tx_length tx_place tx_stop tx_signs tr_fruits tr_standings tr_x tr_height tr_worth tr_ripe tr_foot tr_fork tr_settings no_apron no_basket no_ground no_bruised no_ladder no_helper no_today no_clock ru_length ru_given ru_stack ru_program pa_undoable pa_free pa_cells ro_size ro_numbers).2.2.1 (F_X9_day x_acts tx_length tx_place tx_stop tx_signs tr_fruits tr_standings tr_x tr_height tr_worth tr_ripe tr_foot tr_fork tr_settings no_apron no_basket no_ground no_bruised no_ladder no_helper no_today no_clock ru_length ru_given ru_stack ru_program pa_undoable pa_free pa_cells ro_size ro_numbers).2.2.2.1 (F_X9_day x_acts tx_length tx_place tx_stop tx_signs tr_fruits tr_standings tr_x tr_height tr_worth tr_ripe tr_foot tr_fork tr_settings no_apron no_basket no_ground no_bruised no_ladder no_helper no_today no_clock ru_length ru_given ru_stack ru_program pa_undoable pa_free pa_cells ro_size ro_numbers).2.2.2.2.1 (F_X9_day x_acts tx_length tx_place tx_stop tx_signs tr_fruits tr_standings tr_x tr_height tr_worth tr_ripe tr_foot tr_fork tr_settings no_apron no_basket no_ground no_bruised no_ladder no_helper no_today no_clock ru_length ru_given ru_stack ru_program pa_undoable pa_free pa_cells ro_size ro_numbers).2.2.2.2.2.1 (F_X9_day x_acts tx_length tx_place tx_stop tx_signs tr_fruits tr_standings tr_x tr_height tr_worth tr_ripe tr_foot tr_fork tr_settings no_apron no_basket no_ground no_bruised no_ladder no_helper no_today no_clock ru_length ru_given ru_stack ru_program pa_undoable pa_free pa_cells ro_size ro_numbers).2.2.2.2.2.2.1 (F_X9_day x_acts tx_length tx_place tx_stop tx_signs tr_fruits tr_standings tr_x tr_height tr_worth tr_ripe tr_foot tr_fork tr_settings no_apron no_basket no_ground no_bruised no_ladder no_helper no_today no_clock ru_length ru_given ru_stack ru_program pa_undoable pa_free pa_cells ro_size ro_numbers).2.2.2.2.2.2.2.1 (F_X9_day x_acts tx_length tx_place tx_stop tx_signs tr_fruits tr_standings tr_x tr_height tr_worth tr_ripe tr_foot tr_fork tr_settings no_apron no_basket no_ground no_bruised no_ladder no_helper no_today no_clock ru_length ru_given ru_stack ru_program pa_undoable pa_free pa_cells ro_size ro_numbers).2.2.2.2.2.2.2.2.1 (F_X9_day x_acts tx_length tx_place tx_stop tx_signs tr_fruits tr_standings tr_x tr_height tr_worth tr_ripe tr_foot tr_fork tr_settings no_apron no_basket no_ground no_bruised no_ladder no_helper no_today no_clock ru_length ru_given ru_stack ru_program pa_undoable pa_free pa_cells ro_size ro_numbers).2.2.2.2.2.2.2.2.2.1 (F_X9_day x_acts tx_length tx_place tx_stop tx_signs tr_fruits tr_standings tr_x tr_height tr_worth tr_ripe tr_foot tr_fork tr_settings no_apron no_basket no_ground no_bruised no_ladder no_helper no_today no_clock ru_length ru_given ru_stack ru_program pa_undoable pa_free pa_cells ro_size ro_numbers).2.2.2.2.2.2.2.2.2.2.1 (F_X9_day x_acts tx_length tx_place tx_stop tx_signs tr_fruits tr_standings tr_x tr_height tr_worth tr_ripe tr_foot tr_fork tr_settings no_apron no_basket no_ground no_bruised no_ladder no_helper no_today no_clock ru_length ru_given ru_stack ru_program pa_undoable pa_free pa_cells ro_size ro_numbers).2.2.2.2.2.2.2.2.2.2.2.1 (F_X9_day x_acts tx_length tx_place tx_stop tx_signs tr_fruits tr_standings tr_x tr_height tr_worth tr_ripe tr_foot tr_fork tr_settings no_apron no_basket no_ground no_bruised no_ladder no_helper no_today no_clock ru_length ru_given ru_stack ru_program pa_undoable pa_free pa_cells ro_size ro_numbers).2.2.2.2.2.2.2.2.2.2.2.2.1 (F_X9_day x_acts tx_length tx_place tx_stop tx_signs tr_fruits tr_standings tr_x tr_height tr_worth tr_ripe tr_foot tr_fork tr_settings no_apron no_basket no_ground no_bruised no_ladder no_helper no_today no_clock ru_length ru_given ru_stack ru_program pa_undoable pa_free pa_cells ro_size ro_numbers).2.2.2.2.2.2.2.2.2.2.2.2.2.1 (F_X9_day x_acts tx_length tx_place tx_stop tx_signs tr_fruits tr_standings tr_x tr_height tr_worth tr_ripe tr_foot tr_fork tr_settings no_apron no_basket no_ground no_bruised no_ladder no_helper no_today no_clock ru_length ru_given ru_stack ru_program pa_undoable pa_free pa_cells ro_size ro_numbers).2.2.2.2.2.2.2.2.2.2.2.2.2.2.1 (F_X9_day x_acts tx_length tx_place tx_stop tx_signs tr_fruits tr_standings tr_x tr_height tr_worth tr_ripe tr_foot tr_fork tr_settings no_apron no_basket no_ground no_bruised no_ladder no_helper no_today no_clock ru_length ru_given ru_stack ru_program pa_undoable pa_free pa_cells ro_size ro_numbers).2.2.2.2.2.2.2.2.2.2.2.2.2.2.2.1 (F_X9_day x_acts tx_length tx_place tx_stop tx_signs tr_fruits tr_standings tr_x tr_height tr_worth tr_ripe tr_foot tr_fork tr_settings no_apron no_basket no_ground no_bruised no_ladder no_helper no_today no_clock ru_length ru_given ru_stack ru_program pa_undoable pa_free pa_cells ro_size ro_numbers).2.2.2.2.2.2.2.2.2.2.2.2.2.2.2.2.1 (F_X9_day x_acts tx_length tx_place tx_stop tx_signs tr_fruits tr_standings tr_x tr_height tr_worth tr_ripe tr_foot tr_fork tr_settings no_apron no_basket no_ground no_bruised no_ladder no_helper no_today no_clock ru_length ru_given ru_stack ru_program pa_undoable pa_free pa_cells ro_size ro_numbers).2.2.2.2.2.2.2.2.2.2.2.2.2.2.2.2.2.1 (F_X9_day x_acts tx_length tx_place tx_stop tx_signs tr_fruits tr_standings tr_x tr_height tr_worth tr_ripe tr_foot tr_fork tr_settings no_apron no_basket no_ground no_bruised no_ladder no_helper no_today no_clock ru_length ru_given ru_stack ru_program pa_undoable pa_free pa_cells ro_size ro_numbers).2.2.2.2.2.2.2.2.2.2.2.2.2.2.2.2.2.2.1 (F_X9_day x_acts tx_length tx_place tx_stop tx_signs tr_fruits tr_standings tr_x tr_height tr_worth tr_ripe tr_foot tr_fork tr_settings no_apron no_basket no_ground no_bruised no_ladder no_helper no_today no_clock ru_length ru_given ru_stack ru_program pa_undoable pa_free pa_cells ro_size ro_numbers).2.2.2.2.2.2.2.2.2.2.2.2.2.2.2.2.2.2.2) : wp_X9_day Q x_acts tx_length tx_place tx_stop tx_signs tr_fruits tr_standings tr_x tr_height tr_worth tr_ripe tr_foot tr_fork tr_settings no_apron no_basket no_ground no_bruised no_ladder no_helper no_today no_clock ru_length ru_given ru_stack ru_program pa_undoable pa_free pa_cells ro_size ro_numbers := dt_X9_day h (fun o eo => by rw [eo]; exact hq)
theorem dw_X9_day {Q : Int32 → (Nat → Int32) → Int32 → Int32 → Int32 → Int32 → Int32 → Int32 → Int32 → Int32 → Int32 → Int32 → Int32 → (Nat → Int32) → (Nat → Int32) → Int32 → Int32 → (Nat → Int32) → Int32 → (Nat → Int32) → Prop} {x_acts : Nat → Int32} {tx_length : Int32} {tx_place : Int32} {tx_stop : Int32} {tx_signs : Nat → Int32} {tr_fruits : Int32} {tr_standings : Int32} {tr_x : Nat → Int32} {tr_height : Nat → Int32} {tr_worth : Nat → Int32} {tr_ripe : Nat → Int32} {tr_foot : Nat → Int32} {tr_fork : Nat → Int32} {tr_settings : Nat → Int32} {no_apron : Int32} {no_basket : Int32} {no_ground : Int32} {no_bruised : Int32} {no_ladder : Int32} {no_helper : Int32} {no_today : Int32} {no_clock : Int32} {ru_length : Int32} {ru_given : Nat → Int32} {ru_stack : Nat → Int32} {ru_program : Nat → Int32} {pa_undoable : Int32} {pa_free : Int32} {pa_cells : Nat → Int32} {ro_size : Int32} {ro_numbers : Nat → Int32} (h : wp_X9_day (fun o0 o1 o2 o3 o4 o5 o6 o7 o8 o9 o10 o11 o12 o13 o14 o15 o16 o17 o18 o19 => (o0, o1, o2, o3, o4, o5, o6, o7, o8, o9, o10, o11, o12, o13, o14, o15, o16, o17, o18, o19) = F_X9_day x_acts tx_length tx_place tx_stop tx_signs tr_fruits tr_standings tr_x tr_height tr_worth tr_ripe tr_foot tr_fork tr_settings no_apron no_basket no_ground no_bruised no_ladder no_helper no_today no_clock ru_length ru_given ru_stack ru_program pa_undoable pa_free pa_cells ro_size ro_numbers → Q o0 o1 o2 o3 o4 o5 o6 o7 o8 o9 o10 o11 o12 o13 o14 o15 o16 o17 o18 o19) x_acts tx_length tx_place tx_stop tx_signs tr_fruits tr_standings tr_x tr_height tr_worth tr_ripe tr_foot tr_fork tr_settings no_apron no_basket no_ground no_bruised no_ladder no_helper no_today no_clock ru_length ru_given ru_stack ru_program pa_undoable pa_free pa_cells ro_size ro_numbers) : wp_X9_day Q x_acts tx_length tx_place tx_stop tx_signs tr_fruits tr_standings tr_x tr_height tr_worth tr_ripe tr_foot tr_fork tr_settings no_apron no_basket no_ground no_bruised no_ladder no_helper no_today no_clock ru_length ru_given ru_stack ru_program pa_undoable pa_free pa_cells ro_size ro_numbers := dt_X9_day h (fun o eo hp => hp eo)
noncomputable def F_X2_read (p1 : Int32) (no_apron : Int32) (no_basket : Int32) (no_ground : Int32) (no_bruised : Int32) (no_ladder : Int32) (no_helper : Int32) (no_today : Int32) (no_clock : Int32) (pa_cells : Nat → Int32) : Int32 × Int32 × Int32 × Int32 × Int32 × Int32 × Int32 × Int32 := if p1 < 0 then (no_apron, no_basket, no_ground, no_bruised, no_ladder, no_helper, no_today, no_clock) else (if p1 ≤ (104 - 8) then ((pa_cells p1.toNatClampNeg), (pa_cells (p1 + 1).toNatClampNeg), (pa_cells (p1 + 2).toNatClampNeg), (pa_cells (p1 + 3).toNatClampNeg), (pa_cells (p1 + 4).toNatClampNeg), (pa_cells (p1 + 5).toNatClampNeg), (pa_cells (p1 + 6).toNatClampNeg), (pa_cells (p1 + 7).toNatClampNeg)) else (no_apron, no_basket, no_ground, no_bruised, no_ladder, no_helper, no_today, no_clock))
set_option maxHeartbeats 200000 in
set_option maxRecDepth 10000 in
theorem dt_X2_read {P Q : Int32 → Int32 → Int32 → Int32 → Int32 → Int32 → Int32 → Int32 → Prop} {p1 : Int32} {no_apron : Int32} {no_basket : Int32} {no_ground : Int32} {no_bruised : Int32} {no_ladder : Int32} {no_helper : Int32} {no_today : Int32} {no_clock : Int32} {pa_cells : Nat → Int32} (h : wp_X2_read P p1 no_apron no_basket no_ground no_bruised no_ladder no_helper no_today no_clock pa_cells) (hq : ∀ o : Int32 × Int32 × Int32 × Int32 × Int32 × Int32 × Int32 × Int32, o = F_X2_read p1 no_apron no_basket no_ground no_bruised no_ladder no_helper no_today no_clock pa_cells → P o.1 o.2.1 o.2.2.1 o.2.2.2.1 o.2.2.2.2.1 o.2.2.2.2.2.1 o.2.2.2.2.2.2.1 o.2.2.2.2.2.2.2 → Q o.1 o.2.1 o.2.2.1 o.2.2.2.1 o.2.2.2.2.1 o.2.2.2.2.2.1 o.2.2.2.2.2.2.1 o.2.2.2.2.2.2.2) : wp_X2_read Q p1 no_apron no_basket no_ground no_bruised no_ladder no_helper no_today no_clock pa_cells := by
  rw [F_X2_read] at hq
  refine And.intro (fun c1 => ?_) (fun c1 => ?_)
  · have h := And.left h c1
    rw [if_pos c1] at hq
    have q9 := hq _ rfl
    dsimp only at q9
    exact q9 h
  · have h := And.right h c1
    rw [if_neg c1] at hq
    refine And.intro (fun c2 => ?_) (fun c2 => ?_)
    · have h := And.left h c2
      rw [if_pos c2] at hq
      refine And.intro (And.left h) ?_
      have h := And.right h
      refine ae ?_
      have h := h _ rfl
      refine ae ?_
      have h := h _ rfl
      refine And.intro (And.left h) ?_
      have h := And.right h
      refine ae ?_
      have h := h _ rfl
      refine ae ?_
      have h := h _ rfl
      refine And.intro (And.left h) ?_
      have h := And.right h
      refine ae ?_
      have h := h _ rfl
      refine ae ?_
      have h := h _ rfl
      refine And.intro (And.left h) ?_
      have h := And.right h
      refine ae ?_
      have h := h _ rfl
      refine ae ?_
      have h := h _ rfl
      refine And.intro (And.left h) ?_
      have h := And.right h
      refine ae ?_
      have h := h _ rfl
      refine ae ?_
      have h := h _ rfl
      refine And.intro (And.left h) ?_
      have h := And.right h
      refine ae ?_
      have h := h _ rfl
      refine ae ?_
      have h := h _ rfl
      refine And.intro (And.left h) ?_
      have h := And.right h
      refine ae ?_
      have h := h _ rfl
      refine ae ?_
      have h := h _ rfl
      refine And.intro (And.left h) ?_
      have h := And.right h
      refine ae ?_
      have h := h _ rfl
      have q9 := hq _ rfl
      dsimp only at q9
      exact q9 h
    · have h := And.right h c2
      rw [if_neg c2] at hq
      have q9 := hq _ rfl
      dsimp only at q9
      exact q9 h
theorem du_X2_read {P Q : Int32 → Int32 → Int32 → Int32 → Int32 → Int32 → Int32 → Int32 → Prop} {p1 : Int32} {no_apron : Int32} {no_basket : Int32} {no_ground : Int32} {no_bruised : Int32} {no_ladder : Int32} {no_helper : Int32} {no_today : Int32} {no_clock : Int32} {pa_cells : Nat → Int32} (h : wp_X2_read P p1 no_apron no_basket no_ground no_bruised no_ladder no_helper no_today no_clock pa_cells) (hq : P (F_X2_read p1 no_apron no_basket no_ground no_bruised no_ladder no_helper no_today no_clock pa_cells).1 (F_X2_read p1 no_apron no_basket no_ground no_bruised no_ladder no_helper no_today no_clock pa_cells).2.1 (F_X2_read p1 no_apron no_basket no_ground no_bruised no_ladder no_helper no_today no_clock pa_cells).2.2.1 (F_X2_read p1 no_apron no_basket no_ground no_bruised no_ladder no_helper no_today no_clock pa_cells).2.2.2.1 (F_X2_read p1 no_apron no_basket no_ground no_bruised no_ladder no_helper no_today no_clock pa_cells).2.2.2.2.1 (F_X2_read p1 no_apron no_basket no_ground no_bruised no_ladder no_helper no_today no_clock pa_cells).2.2.2.2.2.1 (F_X2_read p1 no_apron no_basket no_ground no_bruised no_ladder no_helper no_today no_clock pa_cells).2.2.2.2.2.2.1 (F_X2_read p1 no_apron no_basket no_ground no_bruised no_ladder no_helper no_today no_clock pa_cells).2.2.2.2.2.2.2 → Q (F_X2_read p1 no_apron no_basket no_ground no_bruised no_ladder no_helper no_today no_clock pa_cells).1 (F_X2_read p1 no_apron no_basket no_ground no_bruised no_ladder no_helper no_today no_clock pa_cells).2.1 (F_X2_read p1 no_apron no_basket no_ground no_bruised no_ladder no_helper no_today no_clock pa_cells).2.2.1 (F_X2_read p1 no_apron no_basket no_ground no_bruised no_ladder no_helper no_today no_clock pa_cells).2.2.2.1 (F_X2_read p1 no_apron no_basket no_ground no_bruised no_ladder no_helper no_today no_clock pa_cells).2.2.2.2.1 (F_X2_read p1 no_apron no_basket no_ground no_bruised no_ladder no_helper no_today no_clock pa_cells).2.2.2.2.2.1 (F_X2_read p1 no_apron no_basket no_ground no_bruised no_ladder no_helper no_today no_clock pa_cells).2.2.2.2.2.2.1 (F_X2_read p1 no_apron no_basket no_ground no_bruised no_ladder no_helper no_today no_clock pa_cells).2.2.2.2.2.2.2) : wp_X2_read Q p1 no_apron no_basket no_ground no_bruised no_ladder no_helper no_today no_clock pa_cells := dt_X2_read h (fun o eo => by rw [eo]; exact hq)
noncomputable def F_X4_goBack (no_apron : Int32) (no_basket : Int32) (no_ground : Int32) (no_bruised : Int32) (no_ladder : Int32) (no_helper : Int32) (no_today : Int32) (no_clock : Int32) (pa_undoable : Int32) (pa_free : Int32) (pa_cells : Nat → Int32) : Int32 × Int32 × Int32 × Int32 × Int32 × Int32 × Int32 × Int32 × Int32 × Int32 := ((F_X2_read ((((pa_free + 13) - 1) - ((pa_free + 13) - 1) / 13 * 13) * 8) no_apron no_basket no_ground no_bruised no_ladder no_helper no_today no_clock pa_cells).1, (F_X2_read ((((pa_free + 13) - 1) - ((pa_free + 13) - 1) / 13 * 13) * 8) no_apron no_basket no_ground no_bruised no_ladder no_helper no_today no_clock pa_cells).2.1, (F_X2_read ((((pa_free + 13) - 1) - ((pa_free + 13) - 1) / 13 * 13) * 8) no_apron no_basket no_ground no_bruised no_ladder no_helper no_today no_clock pa_cells).2.2.1, (F_X2_read ((((pa_free + 13) - 1) - ((pa_free + 13) - 1) / 13 * 13) * 8) no_apron no_basket no_ground no_bruised no_ladder no_helper no_today no_clock pa_cells).2.2.2.1, (F_X2_read ((((pa_free + 13) - 1) - ((pa_free + 13) - 1) / 13 * 13) * 8) no_apron no_basket no_ground no_bruised no_ladder no_helper no_today no_clock pa_cells).2.2.2.2.1, (F_X2_read ((((pa_free + 13) - 1) - ((pa_free + 13) - 1) / 13 * 13) * 8) no_apron no_basket no_ground no_bruised no_ladder no_helper no_today no_clock pa_cells).2.2.2.2.2.1, (F_X2_read ((((pa_free + 13) - 1) - ((pa_free + 13) - 1) / 13 * 13) * 8) no_apron no_basket no_ground no_bruised no_ladder no_helper no_today no_clock pa_cells).2.2.2.2.2.2.1, (F_X2_read ((((pa_free + 13) - 1) - ((pa_free + 13) - 1) / 13 * 13) * 8) no_apron no_basket no_ground no_bruised no_ladder no_helper no_today no_clock pa_cells).2.2.2.2.2.2.2, (pa_undoable - 1), (((pa_free + 13) - 1) - ((pa_free + 13) - 1) / 13 * 13))
set_option maxHeartbeats 200000 in
set_option maxRecDepth 10000 in
theorem dt_X4_goBack {P Q : Int32 → Int32 → Int32 → Int32 → Int32 → Int32 → Int32 → Int32 → Int32 → Int32 → Prop} {no_apron : Int32} {no_basket : Int32} {no_ground : Int32} {no_bruised : Int32} {no_ladder : Int32} {no_helper : Int32} {no_today : Int32} {no_clock : Int32} {pa_undoable : Int32} {pa_free : Int32} {pa_cells : Nat → Int32} (h : wp_X4_goBack P no_apron no_basket no_ground no_bruised no_ladder no_helper no_today no_clock pa_undoable pa_free pa_cells) (hq : ∀ o : Int32 × Int32 × Int32 × Int32 × Int32 × Int32 × Int32 × Int32 × Int32 × Int32, o = F_X4_goBack no_apron no_basket no_ground no_bruised no_ladder no_helper no_today no_clock pa_undoable pa_free pa_cells → P o.1 o.2.1 o.2.2.1 o.2.2.2.1 o.2.2.2.2.1 o.2.2.2.2.2.1 o.2.2.2.2.2.2.1 o.2.2.2.2.2.2.2.1 o.2.2.2.2.2.2.2.2.1 o.2.2.2.2.2.2.2.2.2 → Q o.1 o.2.1 o.2.2.1 o.2.2.2.1 o.2.2.2.2.1 o.2.2.2.2.2.1 o.2.2.2.2.2.2.1 o.2.2.2.2.2.2.2.1 o.2.2.2.2.2.2.2.2.1 o.2.2.2.2.2.2.2.2.2) : wp_X4_goBack Q no_apron no_basket no_ground no_bruised no_ladder no_helper no_today no_clock pa_undoable pa_free pa_cells := by
  rw [F_X4_goBack] at hq
  refine ae ?_
  have h := h _ rfl
  refine ae ?_
  have h := h _ rfl
  refine ae ?_
  have h := h _ rfl
  refine ae ?_
  have h := h _ rfl
  refine ae ?_
  have h := h _ rfl
  refine du_X2_read h ?_
  intro h
  have q9 := hq _ rfl
  dsimp only at q9
  exact q9 h
theorem du_X4_goBack {P Q : Int32 → Int32 → Int32 → Int32 → Int32 → Int32 → Int32 → Int32 → Int32 → Int32 → Prop} {no_apron : Int32} {no_basket : Int32} {no_ground : Int32} {no_bruised : Int32} {no_ladder : Int32} {no_helper : Int32} {no_today : Int32} {no_clock : Int32} {pa_undoable : Int32} {pa_free : Int32} {pa_cells : Nat → Int32} (h : wp_X4_goBack P no_apron no_basket no_ground no_bruised no_ladder no_helper no_today no_clock pa_undoable pa_free pa_cells) (hq : P (F_X4_goBack no_apron no_basket no_ground no_bruised no_ladder no_helper no_today no_clock pa_undoable pa_free pa_cells).1 (F_X4_goBack no_apron no_basket no_ground no_bruised no_ladder no_helper no_today no_clock pa_undoable pa_free pa_cells).2.1 (F_X4_goBack no_apron no_basket no_ground no_bruised no_ladder no_helper no_today no_clock pa_undoable pa_free pa_cells).2.2.1 (F_X4_goBack no_apron no_basket no_ground no_bruised no_ladder no_helper no_today no_clock pa_undoable pa_free pa_cells).2.2.2.1 (F_X4_goBack no_apron no_basket no_ground no_bruised no_ladder no_helper no_today no_clock pa_undoable pa_free pa_cells).2.2.2.2.1 (F_X4_goBack no_apron no_basket no_ground no_bruised no_ladder no_helper no_today no_clock pa_undoable pa_free pa_cells).2.2.2.2.2.1 (F_X4_goBack no_apron no_basket no_ground no_bruised no_ladder no_helper no_today no_clock pa_undoable pa_free pa_cells).2.2.2.2.2.2.1 (F_X4_goBack no_apron no_basket no_ground no_bruised no_ladder no_helper no_today no_clock pa_undoable pa_free pa_cells).2.2.2.2.2.2.2.1 (F_X4_goBack no_apron no_basket no_ground no_bruised no_ladder no_helper no_today no_clock pa_undoable pa_free pa_cells).2.2.2.2.2.2.2.2.1 (F_X4_goBack no_apron no_basket no_ground no_bruised no_ladder no_helper no_today no_clock pa_undoable pa_free pa_cells).2.2.2.2.2.2.2.2.2 → Q (F_X4_goBack no_apron no_basket no_ground no_bruised no_ladder no_helper no_today no_clock pa_undoable pa_free pa_cells).1 (F_X4_goBack no_apron no_basket no_ground no_bruised no_ladder no_helper no_today no_clock pa_undoable pa_free pa_cells).2.1 (F_X4_goBack no_apron no_basket no_ground no_bruised no_ladder no_helper no_today no_clock pa_undoable pa_free pa_cells).2.2.1 (F_X4_goBack no_apron no_basket no_ground no_bruised no_ladder no_helper no_today no_clock pa_undoable pa_free pa_cells).2.2.2.1 (F_X4_goBack no_apron no_basket no_ground no_bruised no_ladder no_helper no_today no_clock pa_undoable pa_free pa_cells).2.2.2.2.1 (F_X4_goBack no_apron no_basket no_ground no_bruised no_ladder no_helper no_today no_clock pa_undoable pa_free pa_cells).2.2.2.2.2.1 (F_X4_goBack no_apron no_basket no_ground no_bruised no_ladder no_helper no_today no_clock pa_undoable pa_free pa_cells).2.2.2.2.2.2.1 (F_X4_goBack no_apron no_basket no_ground no_bruised no_ladder no_helper no_today no_clock pa_undoable pa_free pa_cells).2.2.2.2.2.2.2.1 (F_X4_goBack no_apron no_basket no_ground no_bruised no_ladder no_helper no_today no_clock pa_undoable pa_free pa_cells).2.2.2.2.2.2.2.2.1 (F_X4_goBack no_apron no_basket no_ground no_bruised no_ladder no_helper no_today no_clock pa_undoable pa_free pa_cells).2.2.2.2.2.2.2.2.2) : wp_X4_goBack Q no_apron no_basket no_ground no_bruised no_ladder no_helper no_today no_clock pa_undoable pa_free pa_cells := dt_X4_goBack h (fun o eo => by rw [eo]; exact hq)
noncomputable def F_X9_undo (no_apron : Int32) (no_basket : Int32) (no_ground : Int32) (no_bruised : Int32) (no_ladder : Int32) (no_helper : Int32) (no_today : Int32) (no_clock : Int32) (pa_undoable : Int32) (pa_free : Int32) (pa_cells : Nat → Int32) : Int32 × Int32 × Int32 × Int32 × Int32 × Int32 × Int32 × Int32 × Int32 × Int32 × Int32 := if pa_undoable = 0 then ((-1), no_apron, no_basket, no_ground, no_bruised, no_ladder, no_helper, no_today, no_clock, pa_undoable, pa_free) else ((F_X4_goBack no_apron no_basket no_ground no_bruised no_ladder no_helper no_today no_clock pa_undoable pa_free pa_cells).2.2.2.2.2.2.2.2.1, (F_X4_goBack no_apron no_basket no_ground no_bruised no_ladder no_helper no_today no_clock pa_undoable pa_free pa_cells).1, (F_X4_goBack no_apron no_basket no_ground no_bruised no_ladder no_helper no_today no_clock pa_undoable pa_free pa_cells).2.1, (F_X4_goBack no_apron no_basket no_ground no_bruised no_ladder no_helper no_today no_clock pa_undoable pa_free pa_cells).2.2.1, (F_X4_goBack no_apron no_basket no_ground no_bruised no_ladder no_helper no_today no_clock pa_undoable pa_free pa_cells).2.2.2.1, (F_X4_goBack no_apron no_basket no_ground no_bruised no_ladder no_helper no_today no_clock pa_undoable pa_free pa_cells).2.2.2.2.1, (F_X4_goBack no_apron no_basket no_ground no_bruised no_ladder no_helper no_today no_clock pa_undoable pa_free pa_cells).2.2.2.2.2.1, (F_X4_goBack no_apron no_basket no_ground no_bruised no_ladder no_helper no_today no_clock pa_undoable pa_free pa_cells).2.2.2.2.2.2.1, (F_X4_goBack no_apron no_basket no_ground no_bruised no_ladder no_helper no_today no_clock pa_undoable pa_free pa_cells).2.2.2.2.2.2.2.1, (F_X4_goBack no_apron no_basket no_ground no_bruised no_ladder no_helper no_today no_clock pa_undoable pa_free pa_cells).2.2.2.2.2.2.2.2.1, (F_X4_goBack no_apron no_basket no_ground no_bruised no_ladder no_helper no_today no_clock pa_undoable pa_free pa_cells).2.2.2.2.2.2.2.2.2)
set_option maxHeartbeats 200000 in
set_option maxRecDepth 10000 in
theorem dt_X9_undo {P Q : Int32 → Int32 → Int32 → Int32 → Int32 → Int32 → Int32 → Int32 → Int32 → Int32 → Int32 → Prop} {no_apron : Int32} {no_basket : Int32} {no_ground : Int32} {no_bruised : Int32} {no_ladder : Int32} {no_helper : Int32} {no_today : Int32} {no_clock : Int32} {pa_undoable : Int32} {pa_free : Int32} {pa_cells : Nat → Int32} (h : wp_X9_undo P no_apron no_basket no_ground no_bruised no_ladder no_helper no_today no_clock pa_undoable pa_free pa_cells) (hq : ∀ o : Int32 × Int32 × Int32 × Int32 × Int32 × Int32 × Int32 × Int32 × Int32 × Int32 × Int32, o = F_X9_undo no_apron no_basket no_ground no_bruised no_ladder no_helper no_today no_clock pa_undoable pa_free pa_cells → P o.1 o.2.1 o.2.2.1 o.2.2.2.1 o.2.2.2.2.1 o.2.2.2.2.2.1 o.2.2.2.2.2.2.1 o.2.2.2.2.2.2.2.1 o.2.2.2.2.2.2.2.2.1 o.2.2.2.2.2.2.2.2.2.1 o.2.2.2.2.2.2.2.2.2.2 → Q o.1 o.2.1 o.2.2.1 o.2.2.2.1 o.2.2.2.2.1 o.2.2.2.2.2.1 o.2.2.2.2.2.2.1 o.2.2.2.2.2.2.2.1 o.2.2.2.2.2.2.2.2.1 o.2.2.2.2.2.2.2.2.2.1 o.2.2.2.2.2.2.2.2.2.2) : wp_X9_undo Q no_apron no_basket no_ground no_bruised no_ladder no_helper no_today no_clock pa_undoable pa_free pa_cells := by
  rw [F_X9_undo] at hq
  refine And.intro (fun c1 => ?_) (fun c1 => ?_)
  · have h := And.left h c1
    rw [if_neg c1] at hq
    refine du_X4_goBack h ?_
    intro h
    have q9 := hq _ rfl
    dsimp only at q9
    exact q9 h
  · have h := And.right h c1
    rw [if_pos c1] at hq
    have q9 := hq _ rfl
    dsimp only at q9
    exact q9 h
theorem du_X9_undo {P Q : Int32 → Int32 → Int32 → Int32 → Int32 → Int32 → Int32 → Int32 → Int32 → Int32 → Int32 → Prop} {no_apron : Int32} {no_basket : Int32} {no_ground : Int32} {no_bruised : Int32} {no_ladder : Int32} {no_helper : Int32} {no_today : Int32} {no_clock : Int32} {pa_undoable : Int32} {pa_free : Int32} {pa_cells : Nat → Int32} (h : wp_X9_undo P no_apron no_basket no_ground no_bruised no_ladder no_helper no_today no_clock pa_undoable pa_free pa_cells) (hq : P (F_X9_undo no_apron no_basket no_ground no_bruised no_ladder no_helper no_today no_clock pa_undoable pa_free pa_cells).1 (F_X9_undo no_apron no_basket no_ground no_bruised no_ladder no_helper no_today no_clock pa_undoable pa_free pa_cells).2.1 (F_X9_undo no_apron no_basket no_ground no_bruised no_ladder no_helper no_today no_clock pa_undoable pa_free pa_cells).2.2.1 (F_X9_undo no_apron no_basket no_ground no_bruised no_ladder no_helper no_today no_clock pa_undoable pa_free pa_cells).2.2.2.1 (F_X9_undo no_apron no_basket no_ground no_bruised no_ladder no_helper no_today no_clock pa_undoable pa_free pa_cells).2.2.2.2.1 (F_X9_undo no_apron no_basket no_ground no_bruised no_ladder no_helper no_today no_clock pa_undoable pa_free pa_cells).2.2.2.2.2.1 (F_X9_undo no_apron no_basket no_ground no_bruised no_ladder no_helper no_today no_clock pa_undoable pa_free pa_cells).2.2.2.2.2.2.1 (F_X9_undo no_apron no_basket no_ground no_bruised no_ladder no_helper no_today no_clock pa_undoable pa_free pa_cells).2.2.2.2.2.2.2.1 (F_X9_undo no_apron no_basket no_ground no_bruised no_ladder no_helper no_today no_clock pa_undoable pa_free pa_cells).2.2.2.2.2.2.2.2.1 (F_X9_undo no_apron no_basket no_ground no_bruised no_ladder no_helper no_today no_clock pa_undoable pa_free pa_cells).2.2.2.2.2.2.2.2.2.1 (F_X9_undo no_apron no_basket no_ground no_bruised no_ladder no_helper no_today no_clock pa_undoable pa_free pa_cells).2.2.2.2.2.2.2.2.2.2 → Q (F_X9_undo no_apron no_basket no_ground no_bruised no_ladder no_helper no_today no_clock pa_undoable pa_free pa_cells).1 (F_X9_undo no_apron no_basket no_ground no_bruised no_ladder no_helper no_today no_clock pa_undoable pa_free pa_cells).2.1 (F_X9_undo no_apron no_basket no_ground no_bruised no_ladder no_helper no_today no_clock pa_undoable pa_free pa_cells).2.2.1 (F_X9_undo no_apron no_basket no_ground no_bruised no_ladder no_helper no_today no_clock pa_undoable pa_free pa_cells).2.2.2.1 (F_X9_undo no_apron no_basket no_ground no_bruised no_ladder no_helper no_today no_clock pa_undoable pa_free pa_cells).2.2.2.2.1 (F_X9_undo no_apron no_basket no_ground no_bruised no_ladder no_helper no_today no_clock pa_undoable pa_free pa_cells).2.2.2.2.2.1 (F_X9_undo no_apron no_basket no_ground no_bruised no_ladder no_helper no_today no_clock pa_undoable pa_free pa_cells).2.2.2.2.2.2.1 (F_X9_undo no_apron no_basket no_ground no_bruised no_ladder no_helper no_today no_clock pa_undoable pa_free pa_cells).2.2.2.2.2.2.2.1 (F_X9_undo no_apron no_basket no_ground no_bruised no_ladder no_helper no_today no_clock pa_undoable pa_free pa_cells).2.2.2.2.2.2.2.2.1 (F_X9_undo no_apron no_basket no_ground no_bruised no_ladder no_helper no_today no_clock pa_undoable pa_free pa_cells).2.2.2.2.2.2.2.2.2.1 (F_X9_undo no_apron no_basket no_ground no_bruised no_ladder no_helper no_today no_clock pa_undoable pa_free pa_cells).2.2.2.2.2.2.2.2.2.2) : wp_X9_undo Q no_apron no_basket no_ground no_bruised no_ladder no_helper no_today no_clock pa_undoable pa_free pa_cells := dt_X9_undo h (fun o eo => by rw [eo]; exact hq)
theorem dw_X9_undo {Q : Int32 → Int32 → Int32 → Int32 → Int32 → Int32 → Int32 → Int32 → Int32 → Int32 → Int32 → Prop} {no_apron : Int32} {no_basket : Int32} {no_ground : Int32} {no_bruised : Int32} {no_ladder : Int32} {no_helper : Int32} {no_today : Int32} {no_clock : Int32} {pa_undoable : Int32} {pa_free : Int32} {pa_cells : Nat → Int32} (h : wp_X9_undo (fun o0 o1 o2 o3 o4 o5 o6 o7 o8 o9 o10 => (o0, o1, o2, o3, o4, o5, o6, o7, o8, o9, o10) = F_X9_undo no_apron no_basket no_ground no_bruised no_ladder no_helper no_today no_clock pa_undoable pa_free pa_cells → Q o0 o1 o2 o3 o4 o5 o6 o7 o8 o9 o10) no_apron no_basket no_ground no_bruised no_ladder no_helper no_today no_clock pa_undoable pa_free pa_cells) : wp_X9_undo Q no_apron no_basket no_ground no_bruised no_ladder no_helper no_today no_clock pa_undoable pa_free pa_cells := dt_X9_undo h (fun o eo hp => hp eo)
noncomputable def F_X2_write_b2 (p1 : Int32) (no_apron : Int32) (no_basket : Int32) (no_ground : Int32) (no_bruised : Int32) (no_ladder : Int32) (no_helper : Int32) (no_today : Int32) (no_clock : Int32) (pa_keptCells : Nat → Int32) : (Nat → Int32) := if p1 < 0 then pa_keptCells else (if p1 ≤ (16 - 8) then (upd (upd (upd (upd (upd (upd (upd (upd pa_keptCells p1.toNatClampNeg no_apron) (p1 + 1).toNatClampNeg no_basket) (p1 + 2).toNatClampNeg no_ground) (p1 + 3).toNatClampNeg no_bruised) (p1 + 4).toNatClampNeg no_ladder) (p1 + 5).toNatClampNeg no_helper) (p1 + 6).toNatClampNeg no_today) (p1 + 7).toNatClampNeg no_clock) else pa_keptCells)
set_option maxHeartbeats 200000 in
set_option maxRecDepth 10000 in
theorem dt_X2_write_b2 {P Q : (Nat → Int32) → Prop} {p1 : Int32} {no_apron : Int32} {no_basket : Int32} {no_ground : Int32} {no_bruised : Int32} {no_ladder : Int32} {no_helper : Int32} {no_today : Int32} {no_clock : Int32} {pa_keptCells : Nat → Int32} (h : wp_X2_write_b2 P p1 no_apron no_basket no_ground no_bruised no_ladder no_helper no_today no_clock pa_keptCells) (hq : ∀ o : (Nat → Int32), o = F_X2_write_b2 p1 no_apron no_basket no_ground no_bruised no_ladder no_helper no_today no_clock pa_keptCells → P o → Q o) : wp_X2_write_b2 Q p1 no_apron no_basket no_ground no_bruised no_ladder no_helper no_today no_clock pa_keptCells := by
  rw [F_X2_write_b2] at hq
  refine And.intro (fun c1 => ?_) (fun c1 => ?_)
  · have h := And.left h c1
    rw [if_pos c1] at hq
    have q9 := hq _ rfl
    exact q9 h
  · have h := And.right h c1
    rw [if_neg c1] at hq
    refine And.intro (fun c2 => ?_) (fun c2 => ?_)
    · have h := And.left h c2
      rw [if_pos c2] at hq
      refine And.intro (And.left h) ?_
      have h := And.right h
      refine ae ?_
      have h := h _ rfl
      refine And.intro (And.left h) ?_
      have h := And.right h
      refine ae ?_
      have h := h _ rfl
      refine And.intro (And.left h) ?_
      have h := And.right h
      refine ae ?_
      have h := h _ rfl
      refine And.intro (And.left h) ?_
      have h := And.right h
      refine ae ?_
      have h := h _ rfl
      refine And.intro (And.left h) ?_
      have h := And.right h
      refine ae ?_
      have h := h _ rfl
      refine And.intro (And.left h) ?_
      have h := And.right h
      refine ae ?_
      have h := h _ rfl
      refine And.intro (And.left h) ?_
      have h := And.right h
      refine ae ?_
      have h := h _ rfl
      refine And.intro (And.left h) ?_
      have h := And.right h
      have q9 := hq _ rfl
      exact q9 h
    · have h := And.right h c2
      rw [if_neg c2] at hq
      have q9 := hq _ rfl
      exact q9 h
theorem du_X2_write_b2 {P Q : (Nat → Int32) → Prop} {p1 : Int32} {no_apron : Int32} {no_basket : Int32} {no_ground : Int32} {no_bruised : Int32} {no_ladder : Int32} {no_helper : Int32} {no_today : Int32} {no_clock : Int32} {pa_keptCells : Nat → Int32} (h : wp_X2_write_b2 P p1 no_apron no_basket no_ground no_bruised no_ladder no_helper no_today no_clock pa_keptCells) (hq : P (F_X2_write_b2 p1 no_apron no_basket no_ground no_bruised no_ladder no_helper no_today no_clock pa_keptCells) → Q (F_X2_write_b2 p1 no_apron no_basket no_ground no_bruised no_ladder no_helper no_today no_clock pa_keptCells)) : wp_X2_write_b2 Q p1 no_apron no_basket no_ground no_bruised no_ladder no_helper no_today no_clock pa_keptCells := dt_X2_write_b2 h (fun o eo => by rw [eo]; exact hq)
noncomputable def F_X4_store (p0 : Int32) (no_apron : Int32) (no_basket : Int32) (no_ground : Int32) (no_bruised : Int32) (no_ladder : Int32) (no_helper : Int32) (no_today : Int32) (no_clock : Int32) (pa_keptCells : Nat → Int32) (pa_isKept : Nat → Int32) : Int32 × (Nat → Int32) × (Nat → Int32) := if p0 < 0 then (0, pa_keptCells, pa_isKept) else (if p0 < 2 then (1, (F_X2_write_b2 (p0 * 8) no_apron no_basket no_ground no_bruised no_ladder no_helper no_today no_clock pa_keptCells), (upd pa_isKept p0.toNatClampNeg (vp_nar .boolean 1))) else (0, pa_keptCells, pa_isKept))
set_option maxHeartbeats 200000 in
set_option maxRecDepth 10000 in
theorem dt_X4_store {P Q : Int32 → (Nat → Int32) → (Nat → Int32) → Prop} {p0 : Int32} {no_apron : Int32} {no_basket : Int32} {no_ground : Int32} {no_bruised : Int32} {no_ladder : Int32} {no_helper : Int32} {no_today : Int32} {no_clock : Int32} {pa_keptCells : Nat → Int32} {pa_isKept : Nat → Int32} (h : wp_X4_store P p0 no_apron no_basket no_ground no_bruised no_ladder no_helper no_today no_clock pa_keptCells pa_isKept) (hq : ∀ o : Int32 × (Nat → Int32) × (Nat → Int32), o = F_X4_store p0 no_apron no_basket no_ground no_bruised no_ladder no_helper no_today no_clock pa_keptCells pa_isKept → P o.1 o.2.1 o.2.2 → Q o.1 o.2.1 o.2.2) : wp_X4_store Q p0 no_apron no_basket no_ground no_bruised no_ladder no_helper no_today no_clock pa_keptCells pa_isKept := by
  rw [F_X4_store] at hq
  refine And.intro (fun c1 => ?_) (fun c1 => ?_)
  · have h := And.left h c1
    rw [if_pos c1] at hq
    have q9 := hq _ rfl
    dsimp only at q9
    exact q9 h
  · have h := And.right h c1
    rw [if_neg c1] at hq
    refine And.intro (fun c2 => ?_) (fun c2 => ?_)
    · have h := And.left h c2
      rw [if_pos c2] at hq
      refine ae ?_
      have h := h _ rfl
      refine du_X2_write_b2 h ?_
      intro h
      refine And.intro (And.left h) ?_
      have h := And.right h
      have q9 := hq _ rfl
      dsimp only at q9
      exact q9 h
    · have h := And.right h c2
      rw [if_neg c2] at hq
      have q9 := hq _ rfl
      dsimp only at q9
      exact q9 h
theorem du_X4_store {P Q : Int32 → (Nat → Int32) → (Nat → Int32) → Prop} {p0 : Int32} {no_apron : Int32} {no_basket : Int32} {no_ground : Int32} {no_bruised : Int32} {no_ladder : Int32} {no_helper : Int32} {no_today : Int32} {no_clock : Int32} {pa_keptCells : Nat → Int32} {pa_isKept : Nat → Int32} (h : wp_X4_store P p0 no_apron no_basket no_ground no_bruised no_ladder no_helper no_today no_clock pa_keptCells pa_isKept) (hq : P (F_X4_store p0 no_apron no_basket no_ground no_bruised no_ladder no_helper no_today no_clock pa_keptCells pa_isKept).1 (F_X4_store p0 no_apron no_basket no_ground no_bruised no_ladder no_helper no_today no_clock pa_keptCells pa_isKept).2.1 (F_X4_store p0 no_apron no_basket no_ground no_bruised no_ladder no_helper no_today no_clock pa_keptCells pa_isKept).2.2 → Q (F_X4_store p0 no_apron no_basket no_ground no_bruised no_ladder no_helper no_today no_clock pa_keptCells pa_isKept).1 (F_X4_store p0 no_apron no_basket no_ground no_bruised no_ladder no_helper no_today no_clock pa_keptCells pa_isKept).2.1 (F_X4_store p0 no_apron no_basket no_ground no_bruised no_ladder no_helper no_today no_clock pa_keptCells pa_isKept).2.2) : wp_X4_store Q p0 no_apron no_basket no_ground no_bruised no_ladder no_helper no_today no_clock pa_keptCells pa_isKept := dt_X4_store h (fun o eo => by rw [eo]; exact hq)
noncomputable def F_X9_keep (p0 : Int32) (no_apron : Int32) (no_basket : Int32) (no_ground : Int32) (no_bruised : Int32) (no_ladder : Int32) (no_helper : Int32) (no_today : Int32) (no_clock : Int32) (pa_keptCells : Nat → Int32) (pa_isKept : Nat → Int32) : Int32 × (Nat → Int32) × (Nat → Int32) := ((F_X4_store p0 no_apron no_basket no_ground no_bruised no_ladder no_helper no_today no_clock pa_keptCells pa_isKept).1, (F_X4_store p0 no_apron no_basket no_ground no_bruised no_ladder no_helper no_today no_clock pa_keptCells pa_isKept).2.1, (F_X4_store p0 no_apron no_basket no_ground no_bruised no_ladder no_helper no_today no_clock pa_keptCells pa_isKept).2.2)
set_option maxHeartbeats 200000 in
set_option maxRecDepth 10000 in
theorem dt_X9_keep {P Q : Int32 → (Nat → Int32) → (Nat → Int32) → Prop} {p0 : Int32} {no_apron : Int32} {no_basket : Int32} {no_ground : Int32} {no_bruised : Int32} {no_ladder : Int32} {no_helper : Int32} {no_today : Int32} {no_clock : Int32} {pa_keptCells : Nat → Int32} {pa_isKept : Nat → Int32} (h : wp_X9_keep P p0 no_apron no_basket no_ground no_bruised no_ladder no_helper no_today no_clock pa_keptCells pa_isKept) (hq : ∀ o : Int32 × (Nat → Int32) × (Nat → Int32), o = F_X9_keep p0 no_apron no_basket no_ground no_bruised no_ladder no_helper no_today no_clock pa_keptCells pa_isKept → P o.1 o.2.1 o.2.2 → Q o.1 o.2.1 o.2.2) : wp_X9_keep Q p0 no_apron no_basket no_ground no_bruised no_ladder no_helper no_today no_clock pa_keptCells pa_isKept := by
  rw [F_X9_keep] at hq
  refine du_X4_store h ?_
  intro h
  refine And.intro (And.left h) ?_
  have h := And.right h
  have q9 := hq _ rfl
  dsimp only at q9
  exact q9 h
theorem du_X9_keep {P Q : Int32 → (Nat → Int32) → (Nat → Int32) → Prop} {p0 : Int32} {no_apron : Int32} {no_basket : Int32} {no_ground : Int32} {no_bruised : Int32} {no_ladder : Int32} {no_helper : Int32} {no_today : Int32} {no_clock : Int32} {pa_keptCells : Nat → Int32} {pa_isKept : Nat → Int32} (h : wp_X9_keep P p0 no_apron no_basket no_ground no_bruised no_ladder no_helper no_today no_clock pa_keptCells pa_isKept) (hq : P (F_X9_keep p0 no_apron no_basket no_ground no_bruised no_ladder no_helper no_today no_clock pa_keptCells pa_isKept).1 (F_X9_keep p0 no_apron no_basket no_ground no_bruised no_ladder no_helper no_today no_clock pa_keptCells pa_isKept).2.1 (F_X9_keep p0 no_apron no_basket no_ground no_bruised no_ladder no_helper no_today no_clock pa_keptCells pa_isKept).2.2 → Q (F_X9_keep p0 no_apron no_basket no_ground no_bruised no_ladder no_helper no_today no_clock pa_keptCells pa_isKept).1 (F_X9_keep p0 no_apron no_basket no_ground no_bruised no_ladder no_helper no_today no_clock pa_keptCells pa_isKept).2.1 (F_X9_keep p0 no_apron no_basket no_ground no_bruised no_ladder no_helper no_today no_clock pa_keptCells pa_isKept).2.2) : wp_X9_keep Q p0 no_apron no_basket no_ground no_bruised no_ladder no_helper no_today no_clock pa_keptCells pa_isKept := dt_X9_keep h (fun o eo => by rw [eo]; exact hq)
theorem dw_X9_keep {Q : Int32 → (Nat → Int32) → (Nat → Int32) → Prop} {p0 : Int32} {no_apron : Int32} {no_basket : Int32} {no_ground : Int32} {no_bruised : Int32} {no_ladder : Int32} {no_helper : Int32} {no_today : Int32} {no_clock : Int32} {pa_keptCells : Nat → Int32} {pa_isKept : Nat → Int32} (h : wp_X9_keep (fun o0 o1 o2 => (o0, o1, o2) = F_X9_keep p0 no_apron no_basket no_ground no_bruised no_ladder no_helper no_today no_clock pa_keptCells pa_isKept → Q o0 o1 o2) p0 no_apron no_basket no_ground no_bruised no_ladder no_helper no_today no_clock pa_keptCells pa_isKept) : wp_X9_keep Q p0 no_apron no_basket no_ground no_bruised no_ladder no_helper no_today no_clock pa_keptCells pa_isKept := dt_X9_keep h (fun o eo hp => hp eo)
noncomputable def F_X2_read_b2 (p1 : Int32) (no_apron : Int32) (no_basket : Int32) (no_ground : Int32) (no_bruised : Int32) (no_ladder : Int32) (no_helper : Int32) (no_today : Int32) (no_clock : Int32) (pa_keptCells : Nat → Int32) : Int32 × Int32 × Int32 × Int32 × Int32 × Int32 × Int32 × Int32 := if p1 < 0 then (no_apron, no_basket, no_ground, no_bruised, no_ladder, no_helper, no_today, no_clock) else (if p1 ≤ (16 - 8) then ((pa_keptCells p1.toNatClampNeg), (pa_keptCells (p1 + 1).toNatClampNeg), (pa_keptCells (p1 + 2).toNatClampNeg), (pa_keptCells (p1 + 3).toNatClampNeg), (pa_keptCells (p1 + 4).toNatClampNeg), (pa_keptCells (p1 + 5).toNatClampNeg), (pa_keptCells (p1 + 6).toNatClampNeg), (pa_keptCells (p1 + 7).toNatClampNeg)) else (no_apron, no_basket, no_ground, no_bruised, no_ladder, no_helper, no_today, no_clock))
set_option maxHeartbeats 200000 in
set_option maxRecDepth 10000 in
theorem dt_X2_read_b2 {P Q : Int32 → Int32 → Int32 → Int32 → Int32 → Int32 → Int32 → Int32 → Prop} {p1 : Int32} {no_apron : Int32} {no_basket : Int32} {no_ground : Int32} {no_bruised : Int32} {no_ladder : Int32} {no_helper : Int32} {no_today : Int32} {no_clock : Int32} {pa_keptCells : Nat → Int32} (h : wp_X2_read_b2 P p1 no_apron no_basket no_ground no_bruised no_ladder no_helper no_today no_clock pa_keptCells) (hq : ∀ o : Int32 × Int32 × Int32 × Int32 × Int32 × Int32 × Int32 × Int32, o = F_X2_read_b2 p1 no_apron no_basket no_ground no_bruised no_ladder no_helper no_today no_clock pa_keptCells → P o.1 o.2.1 o.2.2.1 o.2.2.2.1 o.2.2.2.2.1 o.2.2.2.2.2.1 o.2.2.2.2.2.2.1 o.2.2.2.2.2.2.2 → Q o.1 o.2.1 o.2.2.1 o.2.2.2.1 o.2.2.2.2.1 o.2.2.2.2.2.1 o.2.2.2.2.2.2.1 o.2.2.2.2.2.2.2) : wp_X2_read_b2 Q p1 no_apron no_basket no_ground no_bruised no_ladder no_helper no_today no_clock pa_keptCells := by
  rw [F_X2_read_b2] at hq
  refine And.intro (fun c1 => ?_) (fun c1 => ?_)
  · have h := And.left h c1
    rw [if_pos c1] at hq
    have q9 := hq _ rfl
    dsimp only at q9
    exact q9 h
  · have h := And.right h c1
    rw [if_neg c1] at hq
    refine And.intro (fun c2 => ?_) (fun c2 => ?_)
    · have h := And.left h c2
      rw [if_pos c2] at hq
      refine And.intro (And.left h) ?_
      have h := And.right h
      refine ae ?_
      have h := h _ rfl
      refine ae ?_
      have h := h _ rfl
      refine And.intro (And.left h) ?_
      have h := And.right h
      refine ae ?_
      have h := h _ rfl
      refine ae ?_
      have h := h _ rfl
      refine And.intro (And.left h) ?_
      have h := And.right h
      refine ae ?_
      have h := h _ rfl
      refine ae ?_
      have h := h _ rfl
      refine And.intro (And.left h) ?_
      have h := And.right h
      refine ae ?_
      have h := h _ rfl
      refine ae ?_
      have h := h _ rfl
      refine And.intro (And.left h) ?_
      have h := And.right h
      refine ae ?_
      have h := h _ rfl
      refine ae ?_
      have h := h _ rfl
      refine And.intro (And.left h) ?_
      have h := And.right h
      refine ae ?_
      have h := h _ rfl
      refine ae ?_
      have h := h _ rfl
      refine And.intro (And.left h) ?_
      have h := And.right h
      refine ae ?_
      have h := h _ rfl
      refine ae ?_
      have h := h _ rfl
      refine And.intro (And.left h) ?_
      have h := And.right h
      refine ae ?_
      have h := h _ rfl
      have q9 := hq _ rfl
      dsimp only at q9
      exact q9 h
    · have h := And.right h c2
      rw [if_neg c2] at hq
      have q9 := hq _ rfl
      dsimp only at q9
      exact q9 h
theorem du_X2_read_b2 {P Q : Int32 → Int32 → Int32 → Int32 → Int32 → Int32 → Int32 → Int32 → Prop} {p1 : Int32} {no_apron : Int32} {no_basket : Int32} {no_ground : Int32} {no_bruised : Int32} {no_ladder : Int32} {no_helper : Int32} {no_today : Int32} {no_clock : Int32} {pa_keptCells : Nat → Int32} (h : wp_X2_read_b2 P p1 no_apron no_basket no_ground no_bruised no_ladder no_helper no_today no_clock pa_keptCells) (hq : P (F_X2_read_b2 p1 no_apron no_basket no_ground no_bruised no_ladder no_helper no_today no_clock pa_keptCells).1 (F_X2_read_b2 p1 no_apron no_basket no_ground no_bruised no_ladder no_helper no_today no_clock pa_keptCells).2.1 (F_X2_read_b2 p1 no_apron no_basket no_ground no_bruised no_ladder no_helper no_today no_clock pa_keptCells).2.2.1 (F_X2_read_b2 p1 no_apron no_basket no_ground no_bruised no_ladder no_helper no_today no_clock pa_keptCells).2.2.2.1 (F_X2_read_b2 p1 no_apron no_basket no_ground no_bruised no_ladder no_helper no_today no_clock pa_keptCells).2.2.2.2.1 (F_X2_read_b2 p1 no_apron no_basket no_ground no_bruised no_ladder no_helper no_today no_clock pa_keptCells).2.2.2.2.2.1 (F_X2_read_b2 p1 no_apron no_basket no_ground no_bruised no_ladder no_helper no_today no_clock pa_keptCells).2.2.2.2.2.2.1 (F_X2_read_b2 p1 no_apron no_basket no_ground no_bruised no_ladder no_helper no_today no_clock pa_keptCells).2.2.2.2.2.2.2 → Q (F_X2_read_b2 p1 no_apron no_basket no_ground no_bruised no_ladder no_helper no_today no_clock pa_keptCells).1 (F_X2_read_b2 p1 no_apron no_basket no_ground no_bruised no_ladder no_helper no_today no_clock pa_keptCells).2.1 (F_X2_read_b2 p1 no_apron no_basket no_ground no_bruised no_ladder no_helper no_today no_clock pa_keptCells).2.2.1 (F_X2_read_b2 p1 no_apron no_basket no_ground no_bruised no_ladder no_helper no_today no_clock pa_keptCells).2.2.2.1 (F_X2_read_b2 p1 no_apron no_basket no_ground no_bruised no_ladder no_helper no_today no_clock pa_keptCells).2.2.2.2.1 (F_X2_read_b2 p1 no_apron no_basket no_ground no_bruised no_ladder no_helper no_today no_clock pa_keptCells).2.2.2.2.2.1 (F_X2_read_b2 p1 no_apron no_basket no_ground no_bruised no_ladder no_helper no_today no_clock pa_keptCells).2.2.2.2.2.2.1 (F_X2_read_b2 p1 no_apron no_basket no_ground no_bruised no_ladder no_helper no_today no_clock pa_keptCells).2.2.2.2.2.2.2) : wp_X2_read_b2 Q p1 no_apron no_basket no_ground no_bruised no_ladder no_helper no_today no_clock pa_keptCells := dt_X2_read_b2 h (fun o eo => by rw [eo]; exact hq)
noncomputable def F_X4_fetch (p0 : Int32) (no_apron : Int32) (no_basket : Int32) (no_ground : Int32) (no_bruised : Int32) (no_ladder : Int32) (no_helper : Int32) (no_today : Int32) (no_clock : Int32) (pa_undoable : Int32) (pa_keptCells : Nat → Int32) (pa_isKept : Nat → Int32) : Int32 × Int32 × Int32 × Int32 × Int32 × Int32 × Int32 × Int32 × Int32 × Int32 := if p0 < 0 then (0, no_apron, no_basket, no_ground, no_bruised, no_ladder, no_helper, no_today, no_clock, pa_undoable) else (if 2 ≤ p0 then (0, no_apron, no_basket, no_ground, no_bruised, no_ladder, no_helper, no_today, no_clock, pa_undoable) else (if (pa_isKept p0.toNatClampNeg) = 0 then (0, no_apron, no_basket, no_ground, no_bruised, no_ladder, no_helper, no_today, no_clock, pa_undoable) else (1, (F_X2_read_b2 (p0 * 8) no_apron no_basket no_ground no_bruised no_ladder no_helper no_today no_clock pa_keptCells).1, (F_X2_read_b2 (p0 * 8) no_apron no_basket no_ground no_bruised no_ladder no_helper no_today no_clock pa_keptCells).2.1, (F_X2_read_b2 (p0 * 8) no_apron no_basket no_ground no_bruised no_ladder no_helper no_today no_clock pa_keptCells).2.2.1, (F_X2_read_b2 (p0 * 8) no_apron no_basket no_ground no_bruised no_ladder no_helper no_today no_clock pa_keptCells).2.2.2.1, (F_X2_read_b2 (p0 * 8) no_apron no_basket no_ground no_bruised no_ladder no_helper no_today no_clock pa_keptCells).2.2.2.2.1, (F_X2_read_b2 (p0 * 8) no_apron no_basket no_ground no_bruised no_ladder no_helper no_today no_clock pa_keptCells).2.2.2.2.2.1, (F_X2_read_b2 (p0 * 8) no_apron no_basket no_ground no_bruised no_ladder no_helper no_today no_clock pa_keptCells).2.2.2.2.2.2.1, (F_X2_read_b2 (p0 * 8) no_apron no_basket no_ground no_bruised no_ladder no_helper no_today no_clock pa_keptCells).2.2.2.2.2.2.2, 0)))
set_option maxHeartbeats 200000 in
set_option maxRecDepth 10000 in
theorem dt_X4_fetch {P Q : Int32 → Int32 → Int32 → Int32 → Int32 → Int32 → Int32 → Int32 → Int32 → Int32 → Prop} {p0 : Int32} {no_apron : Int32} {no_basket : Int32} {no_ground : Int32} {no_bruised : Int32} {no_ladder : Int32} {no_helper : Int32} {no_today : Int32} {no_clock : Int32} {pa_undoable : Int32} {pa_keptCells : Nat → Int32} {pa_isKept : Nat → Int32} (h : wp_X4_fetch P p0 no_apron no_basket no_ground no_bruised no_ladder no_helper no_today no_clock pa_undoable pa_keptCells pa_isKept) (hq : ∀ o : Int32 × Int32 × Int32 × Int32 × Int32 × Int32 × Int32 × Int32 × Int32 × Int32, o = F_X4_fetch p0 no_apron no_basket no_ground no_bruised no_ladder no_helper no_today no_clock pa_undoable pa_keptCells pa_isKept → P o.1 o.2.1 o.2.2.1 o.2.2.2.1 o.2.2.2.2.1 o.2.2.2.2.2.1 o.2.2.2.2.2.2.1 o.2.2.2.2.2.2.2.1 o.2.2.2.2.2.2.2.2.1 o.2.2.2.2.2.2.2.2.2 → Q o.1 o.2.1 o.2.2.1 o.2.2.2.1 o.2.2.2.2.1 o.2.2.2.2.2.1 o.2.2.2.2.2.2.1 o.2.2.2.2.2.2.2.1 o.2.2.2.2.2.2.2.2.1 o.2.2.2.2.2.2.2.2.2) : wp_X4_fetch Q p0 no_apron no_basket no_ground no_bruised no_ladder no_helper no_today no_clock pa_undoable pa_keptCells pa_isKept := by
  rw [F_X4_fetch] at hq
  refine And.intro (fun c1 => ?_) (fun c1 => ?_)
  · have h := And.left h c1
    rw [if_pos c1] at hq
    have q9 := hq _ rfl
    dsimp only at q9
    exact q9 h
  · have h := And.right h c1
    rw [if_neg c1] at hq
    refine And.intro (fun c2 => ?_) (fun c2 => ?_)
    · have h := And.left h c2
      rw [if_pos c2] at hq
      have q9 := hq _ rfl
      dsimp only at q9
      exact q9 h
    · have h := And.right h c2
      rw [if_neg c2] at hq
      refine And.intro (And.left h) ?_
      have h := And.right h
      refine And.intro (fun c3 => ?_) (fun c3 => ?_)
      · have h := And.left h c3
        rw [if_neg c3] at hq
        refine ae ?_
        have h := h _ rfl
        refine du_X2_read_b2 h ?_
        intro h
        have q9 := hq _ rfl
        dsimp only at q9
        exact q9 h
      · have h := And.right h c3
        rw [if_pos c3] at hq
        have q9 := hq _ rfl
        dsimp only at q9
        exact q9 h
theorem du_X4_fetch {P Q : Int32 → Int32 → Int32 → Int32 → Int32 → Int32 → Int32 → Int32 → Int32 → Int32 → Prop} {p0 : Int32} {no_apron : Int32} {no_basket : Int32} {no_ground : Int32} {no_bruised : Int32} {no_ladder : Int32} {no_helper : Int32} {no_today : Int32} {no_clock : Int32} {pa_undoable : Int32} {pa_keptCells : Nat → Int32} {pa_isKept : Nat → Int32} (h : wp_X4_fetch P p0 no_apron no_basket no_ground no_bruised no_ladder no_helper no_today no_clock pa_undoable pa_keptCells pa_isKept) (hq : P (F_X4_fetch p0 no_apron no_basket no_ground no_bruised no_ladder no_helper no_today no_clock pa_undoable pa_keptCells pa_isKept).1 (F_X4_fetch p0 no_apron no_basket no_ground no_bruised no_ladder no_helper no_today no_clock pa_undoable pa_keptCells pa_isKept).2.1 (F_X4_fetch p0 no_apron no_basket no_ground no_bruised no_ladder no_helper no_today no_clock pa_undoable pa_keptCells pa_isKept).2.2.1 (F_X4_fetch p0 no_apron no_basket no_ground no_bruised no_ladder no_helper no_today no_clock pa_undoable pa_keptCells pa_isKept).2.2.2.1 (F_X4_fetch p0 no_apron no_basket no_ground no_bruised no_ladder no_helper no_today no_clock pa_undoable pa_keptCells pa_isKept).2.2.2.2.1 (F_X4_fetch p0 no_apron no_basket no_ground no_bruised no_ladder no_helper no_today no_clock pa_undoable pa_keptCells pa_isKept).2.2.2.2.2.1 (F_X4_fetch p0 no_apron no_basket no_ground no_bruised no_ladder no_helper no_today no_clock pa_undoable pa_keptCells pa_isKept).2.2.2.2.2.2.1 (F_X4_fetch p0 no_apron no_basket no_ground no_bruised no_ladder no_helper no_today no_clock pa_undoable pa_keptCells pa_isKept).2.2.2.2.2.2.2.1 (F_X4_fetch p0 no_apron no_basket no_ground no_bruised no_ladder no_helper no_today no_clock pa_undoable pa_keptCells pa_isKept).2.2.2.2.2.2.2.2.1 (F_X4_fetch p0 no_apron no_basket no_ground no_bruised no_ladder no_helper no_today no_clock pa_undoable pa_keptCells pa_isKept).2.2.2.2.2.2.2.2.2 → Q (F_X4_fetch p0 no_apron no_basket no_ground no_bruised no_ladder no_helper no_today no_clock pa_undoable pa_keptCells pa_isKept).1 (F_X4_fetch p0 no_apron no_basket no_ground no_bruised no_ladder no_helper no_today no_clock pa_undoable pa_keptCells pa_isKept).2.1 (F_X4_fetch p0 no_apron no_basket no_ground no_bruised no_ladder no_helper no_today no_clock pa_undoable pa_keptCells pa_isKept).2.2.1 (F_X4_fetch p0 no_apron no_basket no_ground no_bruised no_ladder no_helper no_today no_clock pa_undoable pa_keptCells pa_isKept).2.2.2.1 (F_X4_fetch p0 no_apron no_basket no_ground no_bruised no_ladder no_helper no_today no_clock pa_undoable pa_keptCells pa_isKept).2.2.2.2.1 (F_X4_fetch p0 no_apron no_basket no_ground no_bruised no_ladder no_helper no_today no_clock pa_undoable pa_keptCells pa_isKept).2.2.2.2.2.1 (F_X4_fetch p0 no_apron no_basket no_ground no_bruised no_ladder no_helper no_today no_clock pa_undoable pa_keptCells pa_isKept).2.2.2.2.2.2.1 (F_X4_fetch p0 no_apron no_basket no_ground no_bruised no_ladder no_helper no_today no_clock pa_undoable pa_keptCells pa_isKept).2.2.2.2.2.2.2.1 (F_X4_fetch p0 no_apron no_basket no_ground no_bruised no_ladder no_helper no_today no_clock pa_undoable pa_keptCells pa_isKept).2.2.2.2.2.2.2.2.1 (F_X4_fetch p0 no_apron no_basket no_ground no_bruised no_ladder no_helper no_today no_clock pa_undoable pa_keptCells pa_isKept).2.2.2.2.2.2.2.2.2) : wp_X4_fetch Q p0 no_apron no_basket no_ground no_bruised no_ladder no_helper no_today no_clock pa_undoable pa_keptCells pa_isKept := dt_X4_fetch h (fun o eo => by rw [eo]; exact hq)
noncomputable def F_X9_again (p0 : Int32) (no_apron : Int32) (no_basket : Int32) (no_ground : Int32) (no_bruised : Int32) (no_ladder : Int32) (no_helper : Int32) (no_today : Int32) (no_clock : Int32) (pa_undoable : Int32) (pa_keptCells : Nat → Int32) (pa_isKept : Nat → Int32) : Int32 × Int32 × Int32 × Int32 × Int32 × Int32 × Int32 × Int32 × Int32 × Int32 := ((F_X4_fetch p0 no_apron no_basket no_ground no_bruised no_ladder no_helper no_today no_clock pa_undoable pa_keptCells pa_isKept).1, (F_X4_fetch p0 no_apron no_basket no_ground no_bruised no_ladder no_helper no_today no_clock pa_undoable pa_keptCells pa_isKept).2.1, (F_X4_fetch p0 no_apron no_basket no_ground no_bruised no_ladder no_helper no_today no_clock pa_undoable pa_keptCells pa_isKept).2.2.1, (F_X4_fetch p0 no_apron no_basket no_ground no_bruised no_ladder no_helper no_today no_clock pa_undoable pa_keptCells pa_isKept).2.2.2.1, (F_X4_fetch p0 no_apron no_basket no_ground no_bruised no_ladder no_helper no_today no_clock pa_undoable pa_keptCells pa_isKept).2.2.2.2.1, (F_X4_fetch p0 no_apron no_basket no_ground no_bruised no_ladder no_helper no_today no_clock pa_undoable pa_keptCells pa_isKept).2.2.2.2.2.1, (F_X4_fetch p0 no_apron no_basket no_ground no_bruised no_ladder no_helper no_today no_clock pa_undoable pa_keptCells pa_isKept).2.2.2.2.2.2.1, (F_X4_fetch p0 no_apron no_basket no_ground no_bruised no_ladder no_helper no_today no_clock pa_undoable pa_keptCells pa_isKept).2.2.2.2.2.2.2.1, (F_X4_fetch p0 no_apron no_basket no_ground no_bruised no_ladder no_helper no_today no_clock pa_undoable pa_keptCells pa_isKept).2.2.2.2.2.2.2.2.1, (F_X4_fetch p0 no_apron no_basket no_ground no_bruised no_ladder no_helper no_today no_clock pa_undoable pa_keptCells pa_isKept).2.2.2.2.2.2.2.2.2)
set_option maxHeartbeats 200000 in
set_option maxRecDepth 10000 in
theorem dt_X9_again {P Q : Int32 → Int32 → Int32 → Int32 → Int32 → Int32 → Int32 → Int32 → Int32 → Int32 → Prop} {p0 : Int32} {no_apron : Int32} {no_basket : Int32} {no_ground : Int32} {no_bruised : Int32} {no_ladder : Int32} {no_helper : Int32} {no_today : Int32} {no_clock : Int32} {pa_undoable : Int32} {pa_keptCells : Nat → Int32} {pa_isKept : Nat → Int32} (h : wp_X9_again P p0 no_apron no_basket no_ground no_bruised no_ladder no_helper no_today no_clock pa_undoable pa_keptCells pa_isKept) (hq : ∀ o : Int32 × Int32 × Int32 × Int32 × Int32 × Int32 × Int32 × Int32 × Int32 × Int32, o = F_X9_again p0 no_apron no_basket no_ground no_bruised no_ladder no_helper no_today no_clock pa_undoable pa_keptCells pa_isKept → P o.1 o.2.1 o.2.2.1 o.2.2.2.1 o.2.2.2.2.1 o.2.2.2.2.2.1 o.2.2.2.2.2.2.1 o.2.2.2.2.2.2.2.1 o.2.2.2.2.2.2.2.2.1 o.2.2.2.2.2.2.2.2.2 → Q o.1 o.2.1 o.2.2.1 o.2.2.2.1 o.2.2.2.2.1 o.2.2.2.2.2.1 o.2.2.2.2.2.2.1 o.2.2.2.2.2.2.2.1 o.2.2.2.2.2.2.2.2.1 o.2.2.2.2.2.2.2.2.2) : wp_X9_again Q p0 no_apron no_basket no_ground no_bruised no_ladder no_helper no_today no_clock pa_undoable pa_keptCells pa_isKept := by
  rw [F_X9_again] at hq
  refine du_X4_fetch h ?_
  intro h
  refine And.intro (And.left h) ?_
  have h := And.right h
  have q9 := hq _ rfl
  dsimp only at q9
  exact q9 h
theorem du_X9_again {P Q : Int32 → Int32 → Int32 → Int32 → Int32 → Int32 → Int32 → Int32 → Int32 → Int32 → Prop} {p0 : Int32} {no_apron : Int32} {no_basket : Int32} {no_ground : Int32} {no_bruised : Int32} {no_ladder : Int32} {no_helper : Int32} {no_today : Int32} {no_clock : Int32} {pa_undoable : Int32} {pa_keptCells : Nat → Int32} {pa_isKept : Nat → Int32} (h : wp_X9_again P p0 no_apron no_basket no_ground no_bruised no_ladder no_helper no_today no_clock pa_undoable pa_keptCells pa_isKept) (hq : P (F_X9_again p0 no_apron no_basket no_ground no_bruised no_ladder no_helper no_today no_clock pa_undoable pa_keptCells pa_isKept).1 (F_X9_again p0 no_apron no_basket no_ground no_bruised no_ladder no_helper no_today no_clock pa_undoable pa_keptCells pa_isKept).2.1 (F_X9_again p0 no_apron no_basket no_ground no_bruised no_ladder no_helper no_today no_clock pa_undoable pa_keptCells pa_isKept).2.2.1 (F_X9_again p0 no_apron no_basket no_ground no_bruised no_ladder no_helper no_today no_clock pa_undoable pa_keptCells pa_isKept).2.2.2.1 (F_X9_again p0 no_apron no_basket no_ground no_bruised no_ladder no_helper no_today no_clock pa_undoable pa_keptCells pa_isKept).2.2.2.2.1 (F_X9_again p0 no_apron no_basket no_ground no_bruised no_ladder no_helper no_today no_clock pa_undoable pa_keptCells pa_isKept).2.2.2.2.2.1 (F_X9_again p0 no_apron no_basket no_ground no_bruised no_ladder no_helper no_today no_clock pa_undoable pa_keptCells pa_isKept).2.2.2.2.2.2.1 (F_X9_again p0 no_apron no_basket no_ground no_bruised no_ladder no_helper no_today no_clock pa_undoable pa_keptCells pa_isKept).2.2.2.2.2.2.2.1 (F_X9_again p0 no_apron no_basket no_ground no_bruised no_ladder no_helper no_today no_clock pa_undoable pa_keptCells pa_isKept).2.2.2.2.2.2.2.2.1 (F_X9_again p0 no_apron no_basket no_ground no_bruised no_ladder no_helper no_today no_clock pa_undoable pa_keptCells pa_isKept).2.2.2.2.2.2.2.2.2 → Q (F_X9_again p0 no_apron no_basket no_ground no_bruised no_ladder no_helper no_today no_clock pa_undoable pa_keptCells pa_isKept).1 (F_X9_again p0 no_apron no_basket no_ground no_bruised no_ladder no_helper no_today no_clock pa_undoable pa_keptCells pa_isKept).2.1 (F_X9_again p0 no_apron no_basket no_ground no_bruised no_ladder no_helper no_today no_clock pa_undoable pa_keptCells pa_isKept).2.2.1 (F_X9_again p0 no_apron no_basket no_ground no_bruised no_ladder no_helper no_today no_clock pa_undoable pa_keptCells pa_isKept).2.2.2.1 (F_X9_again p0 no_apron no_basket no_ground no_bruised no_ladder no_helper no_today no_clock pa_undoable pa_keptCells pa_isKept).2.2.2.2.1 (F_X9_again p0 no_apron no_basket no_ground no_bruised no_ladder no_helper no_today no_clock pa_undoable pa_keptCells pa_isKept).2.2.2.2.2.1 (F_X9_again p0 no_apron no_basket no_ground no_bruised no_ladder no_helper no_today no_clock pa_undoable pa_keptCells pa_isKept).2.2.2.2.2.2.1 (F_X9_again p0 no_apron no_basket no_ground no_bruised no_ladder no_helper no_today no_clock pa_undoable pa_keptCells pa_isKept).2.2.2.2.2.2.2.1 (F_X9_again p0 no_apron no_basket no_ground no_bruised no_ladder no_helper no_today no_clock pa_undoable pa_keptCells pa_isKept).2.2.2.2.2.2.2.2.1 (F_X9_again p0 no_apron no_basket no_ground no_bruised no_ladder no_helper no_today no_clock pa_undoable pa_keptCells pa_isKept).2.2.2.2.2.2.2.2.2) : wp_X9_again Q p0 no_apron no_basket no_ground no_bruised no_ladder no_helper no_today no_clock pa_undoable pa_keptCells pa_isKept := dt_X9_again h (fun o eo => by rw [eo]; exact hq)
theorem dw_X9_again {Q : Int32 → Int32 → Int32 → Int32 → Int32 → Int32 → Int32 → Int32 → Int32 → Int32 → Prop} {p0 : Int32} {no_apron : Int32} {no_basket : Int32} {no_ground : Int32} {no_bruised : Int32} {no_ladder : Int32} {no_helper : Int32} {no_today : Int32} {no_clock : Int32} {pa_undoable : Int32} {pa_keptCells : Nat → Int32} {pa_isKept : Nat → Int32} (h : wp_X9_again (fun o0 o1 o2 o3 o4 o5 o6 o7 o8 o9 => (o0, o1, o2, o3, o4, o5, o6, o7, o8, o9) = F_X9_again p0 no_apron no_basket no_ground no_bruised no_ladder no_helper no_today no_clock pa_undoable pa_keptCells pa_isKept → Q o0 o1 o2 o3 o4 o5 o6 o7 o8 o9) p0 no_apron no_basket no_ground no_bruised no_ladder no_helper no_today no_clock pa_undoable pa_keptCells pa_isKept) : wp_X9_again Q p0 no_apron no_basket no_ground no_bruised no_ladder no_helper no_today no_clock pa_undoable pa_keptCells pa_isKept := dt_X9_again h (fun o eo hp => hp eo)
noncomputable def F_X10_valueOf (p0 : Int32) (m_askedFruit : Int32) (m_askedStanding : Int32) (m_askedHook : Int32) (m_askedApron : Int32) (m_x : Nat → Int32) (m_height : Nat → Int32) (m_worth : Nat → Int32) (m_foot : Nat → Int32) (m_fork : Nat → Int32) : Int32 := if p0 = 100 then (F_X10_far m_askedFruit m_askedStanding m_x m_foot) else (if p0 = 107 then m_askedApron else (if p0 = 115 then m_askedStanding else (if p0 = 117 then (F_X10_above m_askedFruit m_askedStanding m_height m_fork) else (if p0 = 119 then (m_worth m_askedFruit.toNatClampNeg) else (if p0 = 121 then (m_height m_askedFruit.toNatClampNeg) else m_askedHook)))))
set_option maxHeartbeats 200000 in
set_option maxRecDepth 10000 in
theorem dt_X10_valueOf {P Q : Int32 → Prop} {p0 : Int32} {m_askedFruit : Int32} {m_askedStanding : Int32} {m_askedHook : Int32} {m_askedApron : Int32} {m_x : Nat → Int32} {m_height : Nat → Int32} {m_worth : Nat → Int32} {m_foot : Nat → Int32} {m_fork : Nat → Int32} (h : wp_X10_valueOf P p0 m_askedFruit m_askedStanding m_askedHook m_askedApron m_x m_height m_worth m_foot m_fork) (hq : ∀ o : Int32, o = F_X10_valueOf p0 m_askedFruit m_askedStanding m_askedHook m_askedApron m_x m_height m_worth m_foot m_fork → P o → Q o) : wp_X10_valueOf Q p0 m_askedFruit m_askedStanding m_askedHook m_askedApron m_x m_height m_worth m_foot m_fork := by
  rw [F_X10_valueOf] at hq
  refine (And.intro (fun c1 => ?_) (And.intro (fun c2 => ?_) (And.intro (fun c3 => ?_) (And.intro (fun c4 => ?_) (And.intro (fun c5 => ?_) (And.intro (fun c6 => ?_) (fun c1 c2 c3 c4 c5 c6 => ?_)))))))
  · have h := And.left h c1
    rw [if_pos c1] at hq
    refine du_X10_far h ?_
    intro h
    have q9 := hq _ rfl
    exact q9 h
  · have h := And.left (And.right h) c2
    rw [if_neg (fun e9 => absurd (e9.symm.trans c2) (by decide)), if_pos c2] at hq
    have q9 := hq _ rfl
    exact q9 h
  · have h := And.left (And.right (And.right h)) c3
    rw [if_neg (fun e9 => absurd (e9.symm.trans c3) (by decide)), if_neg (fun e9 => absurd (e9.symm.trans c3) (by decide)), if_pos c3] at hq
    have q9 := hq _ rfl
    exact q9 h
  · have h := And.left (And.right (And.right (And.right h))) c4
    rw [if_neg (fun e9 => absurd (e9.symm.trans c4) (by decide)), if_neg (fun e9 => absurd (e9.symm.trans c4) (by decide)), if_neg (fun e9 => absurd (e9.symm.trans c4) (by decide)), if_pos c4] at hq
    refine du_X10_above h ?_
    intro h
    have q9 := hq _ rfl
    exact q9 h
  · have h := And.left (And.right (And.right (And.right (And.right h)))) c5
    rw [if_neg (fun e9 => absurd (e9.symm.trans c5) (by decide)), if_neg (fun e9 => absurd (e9.symm.trans c5) (by decide)), if_neg (fun e9 => absurd (e9.symm.trans c5) (by decide)), if_neg (fun e9 => absurd (e9.symm.trans c5) (by decide)), if_pos c5] at hq
    refine And.intro (And.left h) ?_
    have h := And.right h
    have q9 := hq _ rfl
    exact q9 h
  · have h := And.left (And.right (And.right (And.right (And.right (And.right h))))) c6
    rw [if_neg (fun e9 => absurd (e9.symm.trans c6) (by decide)), if_neg (fun e9 => absurd (e9.symm.trans c6) (by decide)), if_neg (fun e9 => absurd (e9.symm.trans c6) (by decide)), if_neg (fun e9 => absurd (e9.symm.trans c6) (by decide)), if_neg (fun e9 => absurd (e9.symm.trans c6) (by decide)), if_pos c6] at hq
    refine And.intro (And.left h) ?_
    have h := And.right h
    have q9 := hq _ rfl
    exact q9 h
  · have h := And.right (And.right (And.right (And.right (And.right (And.right h))))) c1 c2 c3 c4 c5 c6
    rw [if_neg c1, if_neg c2, if_neg c3, if_neg c4, if_neg c5, if_neg c6] at hq
    have q9 := hq _ rfl
    exact q9 h
theorem du_X10_valueOf {P Q : Int32 → Prop} {p0 : Int32} {m_askedFruit : Int32} {m_askedStanding : Int32} {m_askedHook : Int32} {m_askedApron : Int32} {m_x : Nat → Int32} {m_height : Nat → Int32} {m_worth : Nat → Int32} {m_foot : Nat → Int32} {m_fork : Nat → Int32} (h : wp_X10_valueOf P p0 m_askedFruit m_askedStanding m_askedHook m_askedApron m_x m_height m_worth m_foot m_fork) (hq : P (F_X10_valueOf p0 m_askedFruit m_askedStanding m_askedHook m_askedApron m_x m_height m_worth m_foot m_fork) → Q (F_X10_valueOf p0 m_askedFruit m_askedStanding m_askedHook m_askedApron m_x m_height m_worth m_foot m_fork)) : wp_X10_valueOf Q p0 m_askedFruit m_askedStanding m_askedHook m_askedApron m_x m_height m_worth m_foot m_fork := dt_X10_valueOf h (fun o eo => by rw [eo]; exact hq)
theorem dw_X10_valueOf {Q : Int32 → Prop} {p0 : Int32} {m_askedFruit : Int32} {m_askedStanding : Int32} {m_askedHook : Int32} {m_askedApron : Int32} {m_x : Nat → Int32} {m_height : Nat → Int32} {m_worth : Nat → Int32} {m_foot : Nat → Int32} {m_fork : Nat → Int32} (h : wp_X10_valueOf (fun o0 => o0 = F_X10_valueOf p0 m_askedFruit m_askedStanding m_askedHook m_askedApron m_x m_height m_worth m_foot m_fork → Q o0) p0 m_askedFruit m_askedStanding m_askedHook m_askedApron m_x m_height m_worth m_foot m_fork) : wp_X10_valueOf Q p0 m_askedFruit m_askedStanding m_askedHook m_askedApron m_x m_height m_worth m_foot m_fork := dt_X10_valueOf h (fun o eo hp => hp eo)
noncomputable def j_X10_which_31 {R : Type} (k5 : Int32 → Int32 → Int32 → R) (m_fruits : Int32) (m_now : Nat → Int32) (x2 : Int32) (x4 : Int32) (k0 : Int32) (k1 : Int32) : R := k5 x2 (k0 ||| k1) (x4 + 1)
noncomputable def bd_X10_which_5 (m_fruits : Int32) (m_now : Nat → Int32) (x2 : Int32) (c : Int32) (s : Int32) : Int32 := if (m_now c.toNatClampNeg) = x2 then (j_X10_which_31 (fun q0 q1 q2 => q1) m_fruits m_now x2 c s (1 <<< (c &&& 31))) else (j_X10_which_31 (fun q0 q1 q2 => q1) m_fruits m_now x2 c s 0)
noncomputable def ex_X10_which_5 {R : Type} (po : Int32 → R) (m_fruits : Int32) (m_now : Nat → Int32) (x2 : Int32) (c : Int32) (s : Int32) : R := po s
set_option maxHeartbeats 200000 in
set_option maxRecDepth 10000 in
theorem dl_X10_which_5 {P Q : Int32 → Prop} {m_fruits : Int32} {m_now : Nat → Int32} {x2 : Int32} {a : Int32} {i : Nat} (hi0 : i < 2147483648) (hE : ∀ (c : Int32) (s : Int32), c = nI (i + (Int32.toInt m_fruits - ((i : Nat) : Int)).toNat) → s = itr (bd_X10_which_5 m_fruits m_now x2) a i (Int32.toInt m_fruits - ((i : Nat) : Int)).toNat → (P s) → (Q s)) : ∀ (n k : Nat) (c : Int32), c = nI (i + k) → k ≤ (Int32.toInt m_fruits - ((i : Nat) : Int)).toNat → wb_X10_which_5 P m_fruits m_now n x2 (itr (bd_X10_which_5 m_fruits m_now x2) a i k) c → wb_X10_which_5 Q m_fruits m_now n x2 (itr (bd_X10_which_5 m_fruits m_now x2) a i k) c := by
  intro n
  induction n with
  | zero => intro k c hc hk h; exact False.elim h
  | succ n ih =>
    intro k c hc hk h
    have hr := tp_r m_fruits
    have hi : Int32.toInt c = ((i + k : Nat) : Int) := by rw [hc]; exact nI_toInt (by omega)
    refine And.intro (fun t0 => ?_) (fun t0 => ?_)
    · have h := And.left h t0
      have t1 := (fa_le _ _).mp t0
      have hk2 : k = (Int32.toInt m_fruits - ((i : Nat) : Int)).toNat := by omega
      subst hk2
      exact hE _ _ hc rfl h
    · have h := And.right h t0
      have t1 := mt (fa_le _ _).mpr t0
      have hs : ∀ o : Int32, o = itr (bd_X10_which_5 m_fruits m_now x2) a i (k + 1) → wb_X10_which_5 P m_fruits m_now n x2 o (c + 1) → wb_X10_which_5 Q m_fruits m_now n x2 o (c + 1) := by
        intro o eo h9
        have q := ih (k + 1) (c + 1) (by rw [hc]; exact nI_1 _) (by omega)
        rw [← eo] at q
        exact q h9
      rw [itr_s, ← hc, bd_X10_which_5] at hs
      refine And.intro (And.left h) ?_
      have h := And.right h
      refine ae ?_
      have h := h _ rfl
      refine And.intro (fun c1 => ?_) (fun c1 => ?_)
      · have h := And.left h c1
        rw [if_neg c1] at hs
        rw [j_X10_which_31] at hs
        unfold ws_X10_which_31 at h ⊢
        refine ae ?_
        have h := h _ rfl
        refine ae ?_
        have h := h _ rfl
        have q9 := hs _ rfl
        exact q9 h
      · have h := And.right h c1
        rw [if_pos c1] at hs
        refine ae ?_
        have h := h _ rfl
        rw [j_X10_which_31] at hs
        unfold ws_X10_which_31 at h ⊢
        refine ae ?_
        have h := h _ rfl
        refine ae ?_
        have h := h _ rfl
        have q9 := hs _ rfl
        exact q9 h
noncomputable def F_X10_which (p1 : Int32) (m_fruits : Int32) (m_now : Nat → Int32) : Int32 := ex_X10_which_5 (fun o0 => o0) m_fruits m_now p1 (nI (0 + (Int32.toInt m_fruits - ((0 : Nat) : Int)).toNat)) (itr (bd_X10_which_5 m_fruits m_now p1) 0 0 (Int32.toInt m_fruits - ((0 : Nat) : Int)).toNat)
set_option maxHeartbeats 200000 in
set_option maxRecDepth 10000 in
theorem dt_X10_which {P Q : Int32 → Prop} {p1 : Int32} {m_fruits : Int32} {m_now : Nat → Int32} (h : wp_X10_which P p1 m_fruits m_now) (hq : ∀ o : Int32, o = F_X10_which p1 m_fruits m_now → P o → Q o) : wp_X10_which Q p1 m_fruits m_now := by
  rw [F_X10_which] at hq
  obtain ⟨n1, h⟩ := h
  refine ⟨n1, dl_X10_which_5 (a := 0) (i := 0) (by decide) ?_ n1 0 0 (by decide) (Nat.zero_le _) h⟩
  intro cc2 s3 ec4 es5 h
  rw [← ec4, ← es5, ex_X10_which_5] at hq
  have q9 := hq _ rfl
  exact q9 h
theorem du_X10_which {P Q : Int32 → Prop} {p1 : Int32} {m_fruits : Int32} {m_now : Nat → Int32} (h : wp_X10_which P p1 m_fruits m_now) (hq : P (F_X10_which p1 m_fruits m_now) → Q (F_X10_which p1 m_fruits m_now)) : wp_X10_which Q p1 m_fruits m_now := dt_X10_which h (fun o eo => by rw [eo]; exact hq)
theorem dw_X10_which {Q : Int32 → Prop} {p1 : Int32} {m_fruits : Int32} {m_now : Nat → Int32} (h : wp_X10_which (fun o0 => o0 = F_X10_which p1 m_fruits m_now → Q o0) p1 m_fruits m_now) : wp_X10_which Q p1 m_fruits m_now := dt_X10_which h (fun o eo hp => hp eo)
noncomputable def F_X10_has (p0 : Int32) (p1 : Int32) : Int32 := if ((p0 >>> (p1 &&& 31)) &&& 1) = 1 then 1 else 0
set_option maxHeartbeats 200000 in
set_option maxRecDepth 10000 in
theorem dt_X10_has {P Q : Int32 → Prop} {p0 : Int32} {p1 : Int32} (h : wp_X10_has P p0 p1) (hq : ∀ o : Int32, o = F_X10_has p0 p1 → P o → Q o) : wp_X10_has Q p0 p1 := by
  rw [F_X10_has] at hq
  refine ae ?_
  have h := h _ rfl
  refine ae ?_
  have h := h _ rfl
  refine And.intro (fun c1 => ?_) (fun c1 => ?_)
  · have h := And.left h c1
    rw [if_neg c1] at hq
    have q9 := hq _ rfl
    exact q9 h
  · have h := And.right h c1
    rw [if_pos c1] at hq
    have q9 := hq _ rfl
    exact q9 h
theorem du_X10_has {P Q : Int32 → Prop} {p0 : Int32} {p1 : Int32} (h : wp_X10_has P p0 p1) (hq : P (F_X10_has p0 p1) → Q (F_X10_has p0 p1)) : wp_X10_has Q p0 p1 := dt_X10_has h (fun o eo => by rw [eo]; exact hq)
theorem dw_X10_has {Q : Int32 → Prop} {p0 : Int32} {p1 : Int32} (h : wp_X10_has (fun o0 => o0 = F_X10_has p0 p1 → Q o0) p0 p1) : wp_X10_has Q p0 p1 := dt_X10_has h (fun o eo hp => hp eo)
noncomputable def F_X10_isBelow (p0 : Int32) (p1 : Int32) (m_x : Nat → Int32) (m_height : Nat → Int32) : Int32 := if 1 < (if 0 ≤ ((m_x p1.toNatClampNeg) - (m_x p0.toNatClampNeg)) then ((m_x p1.toNatClampNeg) - (m_x p0.toNatClampNeg)) else 0 - ((m_x p1.toNatClampNeg) - (m_x p0.toNatClampNeg))) then 0 else (if (m_height p1.toNatClampNeg) ≤ (m_height p0.toNatClampNeg) then 0 else 1)
set_option maxHeartbeats 200000 in
set_option maxRecDepth 10000 in
theorem dt_X10_isBelow {P Q : Int32 → Prop} {p0 : Int32} {p1 : Int32} {m_x : Nat → Int32} {m_height : Nat → Int32} (h : wp_X10_isBelow P p0 p1 m_x m_height) (hq : ∀ o : Int32, o = F_X10_isBelow p0 p1 m_x m_height → P o → Q o) : wp_X10_isBelow Q p0 p1 m_x m_height := by
  rw [F_X10_isBelow] at hq
  refine And.intro (And.left h) ?_
  have h := And.right h
  refine ae ?_
  have h := h _ rfl
  refine And.intro (And.left h) ?_
  have h := And.right h
  refine ae ?_
  have h := h _ rfl
  refine ae ?_
  have h := h _ rfl
  refine And.intro (fun c1 => ?_) (fun c1 => ?_)
  · have h := And.left h c1
    rw [if_pos c1] at hq
    have q9 := hq _ rfl
    exact q9 h
  · have h := And.right h c1
    rw [if_neg c1] at hq
    refine And.intro (And.left h) ?_
    have h := And.right h
    refine ae ?_
    have h := h _ rfl
    refine And.intro (And.left h) ?_
    have h := And.right h
    refine And.intro (fun c2 => ?_) (fun c2 => ?_)
    · have h := And.left h c2
      rw [if_pos c2] at hq
      have q9 := hq _ rfl
      exact q9 h
    · have h := And.right h c2
      rw [if_neg c2] at hq
      have q9 := hq _ rfl
      exact q9 h
theorem du_X10_isBelow {P Q : Int32 → Prop} {p0 : Int32} {p1 : Int32} {m_x : Nat → Int32} {m_height : Nat → Int32} (h : wp_X10_isBelow P p0 p1 m_x m_height) (hq : P (F_X10_isBelow p0 p1 m_x m_height) → Q (F_X10_isBelow p0 p1 m_x m_height)) : wp_X10_isBelow Q p0 p1 m_x m_height := dt_X10_isBelow h (fun o eo => by rw [eo]; exact hq)
theorem dw_X10_isBelow {Q : Int32 → Prop} {p0 : Int32} {p1 : Int32} {m_x : Nat → Int32} {m_height : Nat → Int32} (h : wp_X10_isBelow (fun o0 => o0 = F_X10_isBelow p0 p1 m_x m_height → Q o0) p0 p1 m_x m_height) : wp_X10_isBelow Q p0 p1 m_x m_height := dt_X10_isBelow h (fun o eo hp => hp eo)
noncomputable def j_X10_below_42 {R : Type} (k5 : Int32 → Int32 → Int32 → Int32 → R) (m_fruits : Int32) (m_x : Nat → Int32) (m_height : Nat → Int32) (x1 : Int32) (x2 : Int32) (x4 : Int32) (k0 : Int32) (k1 : Int32) : R := k5 x1 x2 (k0 ||| k1) (x4 + 1)
noncomputable def j_X10_below_41 {R : Type} (k5 : Int32 → Int32 → Int32 → Int32 → R) (m_fruits : Int32) (m_x : Nat → Int32) (m_height : Nat → Int32) (x1 : Int32) (x2 : Int32) (x4 : Int32) (k0 : Int32) : R := j_X10_below_42 k5 m_fruits m_x m_height x1 x2 x4 k0 0
noncomputable def bd_X10_below_5 (m_fruits : Int32) (m_x : Nat → Int32) (m_height : Nat → Int32) (x1 : Int32) (x2 : Int32) (c : Int32) (s : Int32) : Int32 := if (F_X10_has x2 c) = 0 then (j_X10_below_41 (fun q0 q1 q2 q3 => q2) m_fruits m_x m_height x1 x2 c s) else (if (F_X10_isBelow c x1 m_x m_height) = 0 then (j_X10_below_41 (fun q0 q1 q2 q3 => q2) m_fruits m_x m_height x1 x2 c s) else (j_X10_below_42 (fun q0 q1 q2 q3 => q2) m_fruits m_x m_height x1 x2 c s (1 <<< (c &&& 31))))
noncomputable def ex_X10_below_5 {R : Type} (po : Int32 → R) (m_fruits : Int32) (m_x : Nat → Int32) (m_height : Nat → Int32) (x1 : Int32) (x2 : Int32) (c : Int32) (s : Int32) : R := po s
set_option maxHeartbeats 200000 in
set_option maxRecDepth 10000 in
theorem dl_X10_below_5 {P Q : Int32 → Prop} {m_fruits : Int32} {m_x : Nat → Int32} {m_height : Nat → Int32} {x1 : Int32} {x2 : Int32} {a : Int32} {i : Nat} (hi0 : i < 2147483648) (hE : ∀ (c : Int32) (s : Int32), c = nI (i + (Int32.toInt m_fruits - ((i : Nat) : Int)).toNat) → s = itr (bd_X10_below_5 m_fruits m_x m_height x1 x2) a i (Int32.toInt m_fruits - ((i : Nat) : Int)).toNat → (P s) → (Q s)) : ∀ (n k : Nat) (c : Int32), c = nI (i + k) → k ≤ (Int32.toInt m_fruits - ((i : Nat) : Int)).toNat → wb_X10_below_5 P m_fruits m_x m_height n x1 x2 (itr (bd_X10_below_5 m_fruits m_x m_height x1 x2) a i k) c → wb_X10_below_5 Q m_fruits m_x m_height n x1 x2 (itr (bd_X10_below_5 m_fruits m_x m_height x1 x2) a i k) c := by
  intro n
  induction n with
  | zero => intro k c hc hk h; exact False.elim h
  | succ n ih =>
    intro k c hc hk h
    have hr := tp_r m_fruits
    have hi : Int32.toInt c = ((i + k : Nat) : Int) := by rw [hc]; exact nI_toInt (by omega)
    refine And.intro (fun t0 => ?_) (fun t0 => ?_)
    · have h := And.left h t0
      have t1 := (fa_le _ _).mp t0
      have hk2 : k = (Int32.toInt m_fruits - ((i : Nat) : Int)).toNat := by omega
      subst hk2
      exact hE _ _ hc rfl h
    · have h := And.right h t0
      have t1 := mt (fa_le _ _).mpr t0
      have hs : ∀ o : Int32, o = itr (bd_X10_below_5 m_fruits m_x m_height x1 x2) a i (k + 1) → wb_X10_below_5 P m_fruits m_x m_height n x1 x2 o (c + 1) → wb_X10_below_5 Q m_fruits m_x m_height n x1 x2 o (c + 1) := by
        intro o eo h9
        have q := ih (k + 1) (c + 1) (by rw [hc]; exact nI_1 _) (by omega)
        rw [← eo] at q
        exact q h9
      rw [itr_s, ← hc, bd_X10_below_5] at hs
      refine du_X10_has h ?_
      intro h
      refine And.intro (fun c1 => ?_) (fun c1 => ?_)
      · have h := And.left h c1
        rw [if_pos c1] at hs
        rw [j_X10_below_41] at hs
        unfold ws_X10_below_41 at h ⊢
        rw [j_X10_below_42] at hs
        unfold ws_X10_below_42 at h ⊢
        refine ae ?_
        have h := h _ rfl
        refine ae ?_
        have h := h _ rfl
        have q9 := hs _ rfl
        exact q9 h
      · have h := And.right h c1
        rw [if_neg c1] at hs
        refine du_X10_isBelow h ?_
        intro h
        refine And.intro (fun c2 => ?_) (fun c2 => ?_)
        · have h := And.left h c2
          rw [if_pos c2] at hs
          rw [j_X10_below_41] at hs
          unfold ws_X10_below_41 at h ⊢
          rw [j_X10_below_42] at hs
          unfold ws_X10_below_42 at h ⊢
          refine ae ?_
          have h := h _ rfl
          refine ae ?_
          have h := h _ rfl
          have q9 := hs _ rfl
          exact q9 h
        · have h := And.right h c2
          rw [if_neg c2] at hs
          refine ae ?_
          have h := h _ rfl
          rw [j_X10_below_42] at hs
          unfold ws_X10_below_42 at h ⊢
          refine ae ?_
          have h := h _ rfl
          refine ae ?_
          have h := h _ rfl
          have q9 := hs _ rfl
          exact q9 h
noncomputable def F_X10_below (p0 : Int32) (p1 : Int32) (m_fruits : Int32) (m_x : Nat → Int32) (m_height : Nat → Int32) : Int32 := ex_X10_below_5 (fun o0 => o0) m_fruits m_x m_height p0 p1 (nI (0 + (Int32.toInt m_fruits - ((0 : Nat) : Int)).toNat)) (itr (bd_X10_below_5 m_fruits m_x m_height p0 p1) 0 0 (Int32.toInt m_fruits - ((0 : Nat) : Int)).toNat)
set_option maxHeartbeats 200000 in
set_option maxRecDepth 10000 in
theorem dt_X10_below {P Q : Int32 → Prop} {p0 : Int32} {p1 : Int32} {m_fruits : Int32} {m_x : Nat → Int32} {m_height : Nat → Int32} (h : wp_X10_below P p0 p1 m_fruits m_x m_height) (hq : ∀ o : Int32, o = F_X10_below p0 p1 m_fruits m_x m_height → P o → Q o) : wp_X10_below Q p0 p1 m_fruits m_x m_height := by
  rw [F_X10_below] at hq
  obtain ⟨n1, h⟩ := h
  refine ⟨n1, dl_X10_below_5 (a := 0) (i := 0) (by decide) ?_ n1 0 0 (by decide) (Nat.zero_le _) h⟩
  intro cc2 s3 ec4 es5 h
  rw [← ec4, ← es5, ex_X10_below_5] at hq
  have q9 := hq _ rfl
  exact q9 h
theorem du_X10_below {P Q : Int32 → Prop} {p0 : Int32} {p1 : Int32} {m_fruits : Int32} {m_x : Nat → Int32} {m_height : Nat → Int32} (h : wp_X10_below P p0 p1 m_fruits m_x m_height) (hq : P (F_X10_below p0 p1 m_fruits m_x m_height) → Q (F_X10_below p0 p1 m_fruits m_x m_height)) : wp_X10_below Q p0 p1 m_fruits m_x m_height := dt_X10_below h (fun o eo => by rw [eo]; exact hq)
theorem dw_X10_below {Q : Int32 → Prop} {p0 : Int32} {p1 : Int32} {m_fruits : Int32} {m_x : Nat → Int32} {m_height : Nat → Int32} (h : wp_X10_below (fun o0 => o0 = F_X10_below p0 p1 m_fruits m_x m_height → Q o0) p0 p1 m_fruits m_x m_height) : wp_X10_below Q p0 p1 m_fruits m_x m_height := dt_X10_below h (fun o eo hp => hp eo)
noncomputable def F_X10_refusesMove (p0 : Int32) (m_standings : Int32) (m_now : Nat → Int32) : Int32 := if (F_X10_isStanding p0 m_standings) = 0 then (-1) else (if (m_now (17 : Int32).toNatClampNeg) = p0 then (-2) else 0)
set_option maxHeartbeats 200000 in
set_option maxRecDepth 10000 in
theorem dt_X10_refusesMove {P Q : Int32 → Prop} {p0 : Int32} {m_standings : Int32} {m_now : Nat → Int32} (h : wp_X10_refusesMove P p0 m_standings m_now) (hq : ∀ o : Int32, o = F_X10_refusesMove p0 m_standings m_now → P o → Q o) : wp_X10_refusesMove Q p0 m_standings m_now := by
  rw [F_X10_refusesMove] at hq
  refine du_X10_isStanding h ?_
  intro h
  refine And.intro (fun c1 => ?_) (fun c1 => ?_)
  · have h := And.left h c1
    rw [if_neg c1] at hq
    refine ae ?_
    have h := h _ rfl
    refine And.intro (fun c2 => ?_) (fun c2 => ?_)
    · have h := And.left h c2
      rw [if_neg c2] at hq
      have q9 := hq _ rfl
      exact q9 h
    · have h := And.right h c2
      rw [if_pos c2] at hq
      have q9 := hq _ rfl
      exact q9 h
  · have h := And.right h c1
    rw [if_pos c1] at hq
    have q9 := hq _ rfl
    exact q9 h
theorem du_X10_refusesMove {P Q : Int32 → Prop} {p0 : Int32} {m_standings : Int32} {m_now : Nat → Int32} (h : wp_X10_refusesMove P p0 m_standings m_now) (hq : P (F_X10_refusesMove p0 m_standings m_now) → Q (F_X10_refusesMove p0 m_standings m_now)) : wp_X10_refusesMove Q p0 m_standings m_now := dt_X10_refusesMove h (fun o eo => by rw [eo]; exact hq)
theorem dw_X10_refusesMove {Q : Int32 → Prop} {p0 : Int32} {m_standings : Int32} {m_now : Nat → Int32} (h : wp_X10_refusesMove (fun o0 => o0 = F_X10_refusesMove p0 m_standings m_now → Q o0) p0 m_standings m_now) : wp_X10_refusesMove Q p0 m_standings m_now := dt_X10_refusesMove h (fun o eo hp => hp eo)
noncomputable def bd_X10_lay_2 (m_now : Nat → Int32) (x2 : Int32) (c : Int32) (s : (Nat → Int32)) : (Nat → Int32) := (upd s (x2 + c).toNatClampNeg (m_now c.toNatClampNeg))
noncomputable def ex_X10_lay_2 {R : Type} (po : (Nat → Int32) → R) (m_now : Nat → Int32) (x2 : Int32) (c : Int32) (s : (Nat → Int32)) : R := po s
set_option maxHeartbeats 200000 in
set_option maxRecDepth 10000 in
theorem dl_X10_lay_2 {P Q : (Nat → Int32) → Prop} {m_now : Nat → Int32} {x2 : Int32} {a : (Nat → Int32)} {i : Nat} (hi0 : i < 2147483648) (hE : ∀ (c : Int32) (s : (Nat → Int32)), c = nI (i + (Int32.toInt 21 - ((i : Nat) : Int)).toNat) → s = itr (bd_X10_lay_2 m_now x2) a i (Int32.toInt 21 - ((i : Nat) : Int)).toNat → (P s) → (Q s)) : ∀ (n k : Nat) (c : Int32), c = nI (i + k) → k ≤ (Int32.toInt 21 - ((i : Nat) : Int)).toNat → wb_X10_lay_2 P m_now n x2 c (itr (bd_X10_lay_2 m_now x2) a i k) → wb_X10_lay_2 Q m_now n x2 c (itr (bd_X10_lay_2 m_now x2) a i k) := by
  intro n
  induction n with
  | zero => intro k c hc hk h; exact False.elim h
  | succ n ih =>
    intro k c hc hk h
    have hr := tp_r 21
    have hi : Int32.toInt c = ((i + k : Nat) : Int) := by rw [hc]; exact nI_toInt (by omega)
    refine And.intro (fun t0 => ?_) (fun t0 => ?_)
    · have h := And.left h t0
      have t1 := (fa_le _ _).mp t0
      have hk2 : k = (Int32.toInt 21 - ((i : Nat) : Int)).toNat := by omega
      subst hk2
      exact hE _ _ hc rfl h
    · have h := And.right h t0
      have t1 := mt (fa_le _ _).mpr t0
      have hs : ∀ o : (Nat → Int32), o = itr (bd_X10_lay_2 m_now x2) a i (k + 1) → wb_X10_lay_2 P m_now n x2 (c + 1) o → wb_X10_lay_2 Q m_now n x2 (c + 1) o := by
        intro o eo h9
        have q := ih (k + 1) (c + 1) (by rw [hc]; exact nI_1 _) (by omega)
        rw [← eo] at q
        exact q h9
      rw [itr_s, ← hc, bd_X10_lay_2] at hs
      refine ae ?_
      have h := h _ rfl
      refine And.intro (And.left h) ?_
      have h := And.right h
      refine ae ?_
      have h := h _ rfl
      refine And.intro (And.left h) ?_
      have h := And.right h
      refine ae ?_
      have h := h _ rfl
      have q9 := hs _ rfl
      exact q9 h
noncomputable def F_X10_lay (p2 : Int32) (m_now : Nat → Int32) (m_undos : Nat → Int32) : (Nat → Int32) := ex_X10_lay_2 (fun o0 => o0) m_now p2 (nI (0 + (Int32.toInt 21 - ((0 : Nat) : Int)).toNat)) (itr (bd_X10_lay_2 m_now p2) m_undos 0 (Int32.toInt 21 - ((0 : Nat) : Int)).toNat)
set_option maxHeartbeats 200000 in
set_option maxRecDepth 10000 in
theorem dt_X10_lay {P Q : (Nat → Int32) → Prop} {p2 : Int32} {m_now : Nat → Int32} {m_undos : Nat → Int32} (h : wp_X10_lay P p2 m_now m_undos) (hq : ∀ o : (Nat → Int32), o = F_X10_lay p2 m_now m_undos → P o → Q o) : wp_X10_lay Q p2 m_now m_undos := by
  rw [F_X10_lay] at hq
  obtain ⟨n1, h⟩ := h
  refine ⟨n1, dl_X10_lay_2 (a := m_undos) (i := 0) (by decide) ?_ n1 0 0 (by decide) (Nat.zero_le _) h⟩
  intro cc2 s3 ec4 es5 h
  rw [← ec4, ← es5, ex_X10_lay_2] at hq
  have q9 := hq _ rfl
  exact q9 h
theorem du_X10_lay {P Q : (Nat → Int32) → Prop} {p2 : Int32} {m_now : Nat → Int32} {m_undos : Nat → Int32} (h : wp_X10_lay P p2 m_now m_undos) (hq : P (F_X10_lay p2 m_now m_undos) → Q (F_X10_lay p2 m_now m_undos)) : wp_X10_lay Q p2 m_now m_undos := dt_X10_lay h (fun o eo => by rw [eo]; exact hq)
theorem dw_X10_lay {Q : (Nat → Int32) → Prop} {p2 : Int32} {m_now : Nat → Int32} {m_undos : Nat → Int32} (h : wp_X10_lay (fun o0 => o0 = F_X10_lay p2 m_now m_undos → Q o0) p2 m_now m_undos) : wp_X10_lay Q p2 m_now m_undos := dt_X10_lay h (fun o eo hp => hp eo)
noncomputable def bd_X10_remember_11 (m_now : Nat → Int32) (m_undoMany : Int32) (c : Int32) (s : (Nat → Int32)) : (Nat → Int32) := (upd s c.toNatClampNeg (s (c + 21).toNatClampNeg))
noncomputable def j_X10_remember_49 {R : Type} (po : Int32 → (Nat → Int32) → R) (m_now : Nat → Int32) (m_undoMany : Int32) (m_undos : Nat → Int32) : R := po (m_undoMany + 1) (F_X10_lay (21 * m_undoMany) m_now m_undos)
noncomputable def ex_X10_remember_11 {R : Type} (po : Int32 → (Nat → Int32) → R) (m_now : Nat → Int32) (m_undoMany : Int32) (c : Int32) (s : (Nat → Int32)) : R := j_X10_remember_49 po m_now (m_undoMany - 1) s
set_option maxHeartbeats 200000 in
set_option maxRecDepth 10000 in
theorem dl_X10_remember_11 {P Q : Int32 → (Nat → Int32) → Prop} {m_now : Nat → Int32} {m_undoMany : Int32} {a : (Nat → Int32)} {i : Nat} (hi0 : i < 2147483648) (hE : ∀ (c : Int32) (s : (Nat → Int32)), c = nI (i + (Int32.toInt 231 - ((i : Nat) : Int)).toNat) → s = itr (bd_X10_remember_11 m_now m_undoMany) a i (Int32.toInt 231 - ((i : Nat) : Int)).toNat → (∀ v_4 : Int32, v_4 = m_undoMany - 1 → ws_X10_remember_49 P m_now v_4 s) → (∀ v_4 : Int32, v_4 = m_undoMany - 1 → ws_X10_remember_49 Q m_now v_4 s)) : ∀ (n k : Nat) (c : Int32), c = nI (i + k) → k ≤ (Int32.toInt 231 - ((i : Nat) : Int)).toNat → wb_X10_remember_11 P m_now n c m_undoMany (itr (bd_X10_remember_11 m_now m_undoMany) a i k) → wb_X10_remember_11 Q m_now n c m_undoMany (itr (bd_X10_remember_11 m_now m_undoMany) a i k) := by
  intro n
  induction n with
  | zero => intro k c hc hk h; exact False.elim h
  | succ n ih =>
    intro k c hc hk h
    have hr := tp_r 231
    have hi : Int32.toInt c = ((i + k : Nat) : Int) := by rw [hc]; exact nI_toInt (by omega)
    refine And.intro (fun t0 => ?_) (fun t0 => ?_)
    · have h := And.left h t0
      have t1 := (fa_le _ _).mp t0
      have hk2 : k = (Int32.toInt 231 - ((i : Nat) : Int)).toNat := by omega
      subst hk2
      exact hE _ _ hc rfl h
    · have h := And.right h t0
      have t1 := mt (fa_le _ _).mpr t0
      have hs : ∀ o : (Nat → Int32), o = itr (bd_X10_remember_11 m_now m_undoMany) a i (k + 1) → wb_X10_remember_11 P m_now n (c + 1) m_undoMany o → wb_X10_remember_11 Q m_now n (c + 1) m_undoMany o := by
        intro o eo h9
        have q := ih (k + 1) (c + 1) (by rw [hc]; exact nI_1 _) (by omega)
        rw [← eo] at q
        exact q h9
      rw [itr_s, ← hc, bd_X10_remember_11] at hs
      refine ae ?_
      have h := h _ rfl
      refine And.intro (And.left h) ?_
      have h := And.right h
      refine ae ?_
      have h := h _ rfl
      refine And.intro (And.left h) ?_
      have h := And.right h
      refine ae ?_
      have h := h _ rfl
      have q9 := hs _ rfl
      exact q9 h
noncomputable def F_X10_remember (m_undoMany : Int32) (m_now : Nat → Int32) (m_undos : Nat → Int32) : Int32 × (Nat → Int32) := if m_undoMany = 12 then (ex_X10_remember_11 (fun o0 o1 => (o0, o1)) m_now m_undoMany (nI (0 + (Int32.toInt 231 - ((0 : Nat) : Int)).toNat)) (itr (bd_X10_remember_11 m_now m_undoMany) m_undos 0 (Int32.toInt 231 - ((0 : Nat) : Int)).toNat)) else (j_X10_remember_49 (fun o0 o1 => (o0, o1)) m_now m_undoMany m_undos)
set_option maxHeartbeats 200000 in
set_option maxRecDepth 10000 in
theorem dt_X10_remember {P Q : Int32 → (Nat → Int32) → Prop} {m_undoMany : Int32} {m_now : Nat → Int32} {m_undos : Nat → Int32} (h : wp_X10_remember P m_undoMany m_now m_undos) (hq : ∀ o : Int32 × (Nat → Int32), o = F_X10_remember m_undoMany m_now m_undos → P o.1 o.2 → Q o.1 o.2) : wp_X10_remember Q m_undoMany m_now m_undos := by
  rw [F_X10_remember] at hq
  refine And.intro (fun c1 => ?_) (fun c1 => ?_)
  · have h := And.left h c1
    rw [if_neg c1] at hq
    rw [j_X10_remember_49] at hq
    unfold ws_X10_remember_49 at h ⊢
    refine ae ?_
    have h := h _ rfl
    refine du_X10_lay h ?_
    intro h
    refine ae ?_
    have h := h _ rfl
    have q9 := hq _ rfl
    dsimp only at q9
    exact q9 h
  · have h := And.right h c1
    rw [if_pos c1] at hq
    obtain ⟨n2, h⟩ := h
    refine ⟨n2, dl_X10_remember_11 (a := m_undos) (i := 0) (by decide) ?_ n2 0 0 (by decide) (Nat.zero_le _) h⟩
    intro cc3 s4 ec5 es6 h
    rw [← ec5, ← es6, ex_X10_remember_11] at hq
    refine ae ?_
    have h := h _ rfl
    rw [j_X10_remember_49] at hq
    unfold ws_X10_remember_49 at h ⊢
    refine ae ?_
    have h := h _ rfl
    refine du_X10_lay h ?_
    intro h
    refine ae ?_
    have h := h _ rfl
    have q9 := hq _ rfl
    dsimp only at q9
    exact q9 h
theorem du_X10_remember {P Q : Int32 → (Nat → Int32) → Prop} {m_undoMany : Int32} {m_now : Nat → Int32} {m_undos : Nat → Int32} (h : wp_X10_remember P m_undoMany m_now m_undos) (hq : P (F_X10_remember m_undoMany m_now m_undos).1 (F_X10_remember m_undoMany m_now m_undos).2 → Q (F_X10_remember m_undoMany m_now m_undos).1 (F_X10_remember m_undoMany m_now m_undos).2) : wp_X10_remember Q m_undoMany m_now m_undos := dt_X10_remember h (fun o eo => by rw [eo]; exact hq)
theorem dw_X10_remember {Q : Int32 → (Nat → Int32) → Prop} {m_undoMany : Int32} {m_now : Nat → Int32} {m_undos : Nat → Int32} (h : wp_X10_remember (fun o0 o1 => (o0, o1) = F_X10_remember m_undoMany m_now m_undos → Q o0 o1) m_undoMany m_now m_undos) : wp_X10_remember Q m_undoMany m_now m_undos := dt_X10_remember h (fun o eo hp => hp eo)
noncomputable def F_X10_moveOf (p0 : Int32) (p1 : Int32) (m_foot : Nat → Int32) (m_told : Nat → Int32) : Int32 := if p0 = (-1) then 9 else (9 + ((m_told (3 : Int32).toNatClampNeg) * (if 0 ≤ ((m_foot p0.toNatClampNeg) - (m_foot p1.toNatClampNeg)) then ((m_foot p0.toNatClampNeg) - (m_foot p1.toNatClampNeg)) else 0 - ((m_foot p0.toNatClampNeg) - (m_foot p1.toNatClampNeg)))))
set_option maxHeartbeats 200000 in
set_option maxRecDepth 10000 in
theorem dt_X10_moveOf {P Q : Int32 → Prop} {p0 : Int32} {p1 : Int32} {m_foot : Nat → Int32} {m_told : Nat → Int32} (h : wp_X10_moveOf P p0 p1 m_foot m_told) (hq : ∀ o : Int32, o = F_X10_moveOf p0 p1 m_foot m_told → P o → Q o) : wp_X10_moveOf Q p0 p1 m_foot m_told := by
  rw [F_X10_moveOf] at hq
  refine And.intro (fun c1 => ?_) (fun c1 => ?_)
  · have h := And.left h c1
    rw [if_neg c1] at hq
    refine ae ?_
    have h := h _ rfl
    refine And.intro (And.left h) ?_
    have h := And.right h
    refine ae ?_
    have h := h _ rfl
    refine And.intro (And.left h) ?_
    have h := And.right h
    refine ae ?_
    have h := h _ rfl
    refine ae ?_
    have h := h _ rfl
    have q9 := hq _ rfl
    exact q9 h
  · have h := And.right h c1
    rw [if_pos c1] at hq
    have q9 := hq _ rfl
    exact q9 h
theorem du_X10_moveOf {P Q : Int32 → Prop} {p0 : Int32} {p1 : Int32} {m_foot : Nat → Int32} {m_told : Nat → Int32} (h : wp_X10_moveOf P p0 p1 m_foot m_told) (hq : P (F_X10_moveOf p0 p1 m_foot m_told) → Q (F_X10_moveOf p0 p1 m_foot m_told)) : wp_X10_moveOf Q p0 p1 m_foot m_told := dt_X10_moveOf h (fun o eo => by rw [eo]; exact hq)
theorem dw_X10_moveOf {Q : Int32 → Prop} {p0 : Int32} {p1 : Int32} {m_foot : Nat → Int32} {m_told : Nat → Int32} (h : wp_X10_moveOf (fun o0 => o0 = F_X10_moveOf p0 p1 m_foot m_told → Q o0) p0 p1 m_foot m_told) : wp_X10_moveOf Q p0 p1 m_foot m_told := dt_X10_moveOf h (fun o eo hp => hp eo)
noncomputable def j_X10_empty_35 {R : Type} (k4 : Int32 → Int32 → (Nat → Int32) → R) (m_fruits : Int32) (x1 : Int32) (x2 : Int32) (m_now : Nat → Int32) : R := k4 x1 (x2 + 1) m_now
noncomputable def bd_X10_empty_4 (m_fruits : Int32) (c : Int32) (s : Int32 × (Nat → Int32)) : Int32 × (Nat → Int32) := if (s.2 c.toNatClampNeg) = 1 then (j_X10_empty_35 (fun q0 q1 q2 => (q0, q2)) m_fruits (s.1 + 1) c (upd s.2 c.toNatClampNeg 2)) else (j_X10_empty_35 (fun q0 q1 q2 => (q0, q2)) m_fruits s.1 c s.2)
noncomputable def ex_X10_empty_4 {R : Type} (po : Int32 → (Nat → Int32) → R) (m_fruits : Int32) (c : Int32) (s : Int32 × (Nat → Int32)) : R := po s.1 s.2
set_option maxHeartbeats 200000 in
set_option maxRecDepth 10000 in
theorem dl_X10_empty_4 {P Q : Int32 → (Nat → Int32) → Prop} {m_fruits : Int32} {a : Int32 × (Nat → Int32)} {i : Nat} (hi0 : i < 2147483648) (hE : ∀ (c : Int32) (s : Int32 × (Nat → Int32)), c = nI (i + (Int32.toInt m_fruits - ((i : Nat) : Int)).toNat) → s = itr (bd_X10_empty_4 m_fruits) a i (Int32.toInt m_fruits - ((i : Nat) : Int)).toNat → (P s.1 s.2) → (Q s.1 s.2)) : ∀ (n k : Nat) (c : Int32), c = nI (i + k) → k ≤ (Int32.toInt m_fruits - ((i : Nat) : Int)).toNat → wb_X10_empty_4 P m_fruits n (itr (bd_X10_empty_4 m_fruits) a i k).1 c (itr (bd_X10_empty_4 m_fruits) a i k).2 → wb_X10_empty_4 Q m_fruits n (itr (bd_X10_empty_4 m_fruits) a i k).1 c (itr (bd_X10_empty_4 m_fruits) a i k).2 := by
  intro n
  induction n with
  | zero => intro k c hc hk h; exact False.elim h
  | succ n ih =>
    intro k c hc hk h
    have hr := tp_r m_fruits
    have hi : Int32.toInt c = ((i + k : Nat) : Int) := by rw [hc]; exact nI_toInt (by omega)
    refine And.intro (fun t0 => ?_) (fun t0 => ?_)
    · have h := And.left h t0
      have t1 := (fa_le _ _).mp t0
      have hk2 : k = (Int32.toInt m_fruits - ((i : Nat) : Int)).toNat := by omega
      subst hk2
      exact hE _ _ hc rfl h
    · have h := And.right h t0
      have t1 := mt (fa_le _ _).mpr t0
      have hs : ∀ o : Int32 × (Nat → Int32), o = itr (bd_X10_empty_4 m_fruits) a i (k + 1) → wb_X10_empty_4 P m_fruits n o.1 (c + 1) o.2 → wb_X10_empty_4 Q m_fruits n o.1 (c + 1) o.2 := by
        intro o eo h9
        have q := ih (k + 1) (c + 1) (by rw [hc]; exact nI_1 _) (by omega)
        rw [← eo] at q
        exact q h9
      rw [itr_s, ← hc, bd_X10_empty_4] at hs
      refine And.intro (And.left h) ?_
      have h := And.right h
      refine ae ?_
      have h := h _ rfl
      refine And.intro (fun c1 => ?_) (fun c1 => ?_)
      · have h := And.left h c1
        rw [if_pos c1] at hs
        refine And.intro (And.left h) ?_
        have h := And.right h
        refine ae ?_
        have h := h _ rfl
        rw [j_X10_empty_35] at hs
        unfold ws_X10_empty_35 at h ⊢
        refine ae ?_
        have h := h _ rfl
        have q9 := hs _ rfl
        dsimp only at q9
        exact q9 h
      · have h := And.right h c1
        rw [if_neg c1] at hs
        rw [j_X10_empty_35] at hs
        unfold ws_X10_empty_35 at h ⊢
        refine ae ?_
        have h := h _ rfl
        have q9 := hs _ rfl
        dsimp only at q9
        exact q9 h
noncomputable def F_X10_empty (m_fruits : Int32) (m_now : Nat → Int32) : Int32 × (Nat → Int32) := ex_X10_empty_4 (fun o0 o1 => (o0, o1)) m_fruits (nI (0 + (Int32.toInt m_fruits - ((0 : Nat) : Int)).toNat)) (itr (bd_X10_empty_4 m_fruits) (0, m_now) 0 (Int32.toInt m_fruits - ((0 : Nat) : Int)).toNat)
set_option maxHeartbeats 200000 in
set_option maxRecDepth 10000 in
theorem dt_X10_empty {P Q : Int32 → (Nat → Int32) → Prop} {m_fruits : Int32} {m_now : Nat → Int32} (h : wp_X10_empty P m_fruits m_now) (hq : ∀ o : Int32 × (Nat → Int32), o = F_X10_empty m_fruits m_now → P o.1 o.2 → Q o.1 o.2) : wp_X10_empty Q m_fruits m_now := by
  rw [F_X10_empty] at hq
  obtain ⟨n1, h⟩ := h
  refine ⟨n1, dl_X10_empty_4 (a := (0, m_now)) (i := 0) (by decide) ?_ n1 0 0 (by decide) (Nat.zero_le _) h⟩
  intro cc2 s3 ec4 es5 h
  rw [← ec4, ← es5, ex_X10_empty_4] at hq
  have q9 := hq _ rfl
  dsimp only at q9
  exact q9 h
theorem du_X10_empty {P Q : Int32 → (Nat → Int32) → Prop} {m_fruits : Int32} {m_now : Nat → Int32} (h : wp_X10_empty P m_fruits m_now) (hq : P (F_X10_empty m_fruits m_now).1 (F_X10_empty m_fruits m_now).2 → Q (F_X10_empty m_fruits m_now).1 (F_X10_empty m_fruits m_now).2) : wp_X10_empty Q m_fruits m_now := dt_X10_empty h (fun o eo => by rw [eo]; exact hq)
theorem dw_X10_empty {Q : Int32 → (Nat → Int32) → Prop} {m_fruits : Int32} {m_now : Nat → Int32} (h : wp_X10_empty (fun o0 o1 => (o0, o1) = F_X10_empty m_fruits m_now → Q o0 o1) m_fruits m_now) : wp_X10_empty Q m_fruits m_now := dt_X10_empty h (fun o eo hp => hp eo)
noncomputable def F_X10_passBy (p0 : Int32) (m_now : Nat → Int32) : (Nat → Int32) := (upd m_now (20 : Int32).toNatClampNeg (if ((m_now (20 : Int32).toNatClampNeg) + p0) < 9999 then ((m_now (20 : Int32).toNatClampNeg) + p0) else 9999))
set_option maxHeartbeats 200000 in
set_option maxRecDepth 10000 in
theorem dt_X10_passBy {P Q : (Nat → Int32) → Prop} {p0 : Int32} {m_now : Nat → Int32} (h : wp_X10_passBy P p0 m_now) (hq : ∀ o : (Nat → Int32), o = F_X10_passBy p0 m_now → P o → Q o) : wp_X10_passBy Q p0 m_now := by
  rw [F_X10_passBy] at hq
  refine ae ?_
  have h := h _ rfl
  refine ae ?_
  have h := h _ rfl
  refine ae ?_
  have h := h _ rfl
  have q9 := hq _ rfl
  exact q9 h
theorem du_X10_passBy {P Q : (Nat → Int32) → Prop} {p0 : Int32} {m_now : Nat → Int32} (h : wp_X10_passBy P p0 m_now) (hq : P (F_X10_passBy p0 m_now) → Q (F_X10_passBy p0 m_now)) : wp_X10_passBy Q p0 m_now := dt_X10_passBy h (fun o eo => by rw [eo]; exact hq)
theorem dw_X10_passBy {Q : (Nat → Int32) → Prop} {p0 : Int32} {m_now : Nat → Int32} (h : wp_X10_passBy (fun o0 => o0 = F_X10_passBy p0 m_now → Q o0) p0 m_now) : wp_X10_passBy Q p0 m_now := dt_X10_passBy h (fun o eo hp => hp eo)
noncomputable def j_X10_goMove_50 {R : Type} (po : Int32 → (Nat → Int32) → R) (m_fruits : Int32) (m_foot : Nat → Int32) (m_fork : Nat → Int32) (m_told : Nat → Int32) (x1 : Int32) (x2 : Int32) (m_now : Nat → Int32) : R := po x2 (F_X10_passBy x2 (upd (F_X10_empty m_fruits m_now).2 (17 : Int32).toNatClampNeg x1))
noncomputable def F_X10_goMove (p0 : Int32) (m_fruits : Int32) (m_now : Nat → Int32) (m_foot : Nat → Int32) (m_fork : Nat → Int32) (m_told : Nat → Int32) : Int32 × (Nat → Int32) := if (F_X10_which 1 m_fruits m_now) = 0 then (j_X10_goMove_50 (fun o0 o1 => (o0, o1)) m_fruits m_foot m_fork m_told p0 (F_X10_moveOf (m_now (17 : Int32).toNatClampNeg) p0 m_foot m_told) m_now) else (if (m_now (17 : Int32).toNatClampNeg) = (-1) then (j_X10_goMove_50 (fun o0 o1 => (o0, o1)) m_fruits m_foot m_fork m_told p0 (F_X10_moveOf (m_now (17 : Int32).toNatClampNeg) p0 m_foot m_told) m_now) else (j_X10_goMove_50 (fun o0 o1 => (o0, o1)) m_fruits m_foot m_fork m_told p0 ((F_X10_moveOf (m_now (17 : Int32).toNatClampNeg) p0 m_foot m_told) + (F_X10_downOf (m_now (17 : Int32).toNatClampNeg) m_fork)) m_now))
set_option maxHeartbeats 200000 in
set_option maxRecDepth 10000 in
theorem dt_X10_goMove {P Q : Int32 → (Nat → Int32) → Prop} {p0 : Int32} {m_fruits : Int32} {m_now : Nat → Int32} {m_foot : Nat → Int32} {m_fork : Nat → Int32} {m_told : Nat → Int32} (h : wp_X10_goMove P p0 m_fruits m_now m_foot m_fork m_told) (hq : ∀ o : Int32 × (Nat → Int32), o = F_X10_goMove p0 m_fruits m_now m_foot m_fork m_told → P o.1 o.2 → Q o.1 o.2) : wp_X10_goMove Q p0 m_fruits m_now m_foot m_fork m_told := by
  rw [F_X10_goMove] at hq
  refine ae ?_
  have h := h _ rfl
  refine du_X10_moveOf h ?_
  intro h
  refine du_X10_which h ?_
  intro h
  refine And.intro (fun c1 => ?_) (fun c1 => ?_)
  · have h := And.left h c1
    rw [if_pos c1] at hq
    rw [j_X10_goMove_50] at hq
    unfold ws_X10_goMove_50 at h ⊢
    refine du_X10_empty h ?_
    intro h
    refine du_X10_passBy h ?_
    intro h
    have q9 := hq _ rfl
    dsimp only at q9
    exact q9 h
  · have h := And.right h c1
    rw [if_neg c1] at hq
    refine ae ?_
    have h := h _ rfl
    refine And.intro (fun c2 => ?_) (fun c2 => ?_)
    · have h := And.left h c2
      rw [if_pos c2] at hq
      rw [j_X10_goMove_50] at hq
      unfold ws_X10_goMove_50 at h ⊢
      refine du_X10_empty h ?_
      intro h
      refine du_X10_passBy h ?_
      intro h
      have q9 := hq _ rfl
      dsimp only at q9
      exact q9 h
    · have h := And.right h c2
      rw [if_neg c2] at hq
      refine ae ?_
      have h := h _ rfl
      refine du_X10_downOf h ?_
      intro h
      refine ae ?_
      have h := h _ rfl
      rw [j_X10_goMove_50] at hq
      unfold ws_X10_goMove_50 at h ⊢
      refine du_X10_empty h ?_
      intro h
      refine du_X10_passBy h ?_
      intro h
      have q9 := hq _ rfl
      dsimp only at q9
      exact q9 h
theorem du_X10_goMove {P Q : Int32 → (Nat → Int32) → Prop} {p0 : Int32} {m_fruits : Int32} {m_now : Nat → Int32} {m_foot : Nat → Int32} {m_fork : Nat → Int32} {m_told : Nat → Int32} (h : wp_X10_goMove P p0 m_fruits m_now m_foot m_fork m_told) (hq : P (F_X10_goMove p0 m_fruits m_now m_foot m_fork m_told).1 (F_X10_goMove p0 m_fruits m_now m_foot m_fork m_told).2 → Q (F_X10_goMove p0 m_fruits m_now m_foot m_fork m_told).1 (F_X10_goMove p0 m_fruits m_now m_foot m_fork m_told).2) : wp_X10_goMove Q p0 m_fruits m_now m_foot m_fork m_told := dt_X10_goMove h (fun o eo => by rw [eo]; exact hq)
theorem dw_X10_goMove {Q : Int32 → (Nat → Int32) → Prop} {p0 : Int32} {m_fruits : Int32} {m_now : Nat → Int32} {m_foot : Nat → Int32} {m_fork : Nat → Int32} {m_told : Nat → Int32} (h : wp_X10_goMove (fun o0 o1 => (o0, o1) = F_X10_goMove p0 m_fruits m_now m_foot m_fork m_told → Q o0 o1) p0 m_fruits m_now m_foot m_fork m_told) : wp_X10_goMove Q p0 m_fruits m_now m_foot m_fork m_told := dt_X10_goMove h (fun o eo hp => hp eo)
noncomputable def F_X10_move (p0 : Int32) (m_fruits : Int32) (m_standings : Int32) (m_thrown : Int32) (m_undoMany : Int32) (m_now : Nat → Int32) (m_foot : Nat → Int32) (m_fork : Nat → Int32) (m_told : Nat → Int32) (m_undos : Nat → Int32) : Int32 × Int32 × Int32 × (Nat → Int32) × (Nat → Int32) := if 0 ≤ (F_X10_refusesMove p0 m_standings m_now) then ((F_X10_goMove p0 m_fruits m_now m_foot m_fork m_told).1, 0, (F_X10_remember m_undoMany m_now m_undos).1, (F_X10_goMove p0 m_fruits m_now m_foot m_fork m_told).2, (F_X10_remember m_undoMany m_now m_undos).2) else ((F_X10_refusesMove p0 m_standings m_now), 0, m_undoMany, m_now, m_undos)
set_option maxHeartbeats 200000 in
set_option maxRecDepth 10000 in
theorem dt_X10_move {P Q : Int32 → Int32 → Int32 → (Nat → Int32) → (Nat → Int32) → Prop} {p0 : Int32} {m_fruits : Int32} {m_standings : Int32} {m_thrown : Int32} {m_undoMany : Int32} {m_now : Nat → Int32} {m_foot : Nat → Int32} {m_fork : Nat → Int32} {m_told : Nat → Int32} {m_undos : Nat → Int32} (h : wp_X10_move P p0 m_fruits m_standings m_thrown m_undoMany m_now m_foot m_fork m_told m_undos) (hq : ∀ o : Int32 × Int32 × Int32 × (Nat → Int32) × (Nat → Int32), o = F_X10_move p0 m_fruits m_standings m_thrown m_undoMany m_now m_foot m_fork m_told m_undos → P o.1 o.2.1 o.2.2.1 o.2.2.2.1 o.2.2.2.2 → Q o.1 o.2.1 o.2.2.1 o.2.2.2.1 o.2.2.2.2) : wp_X10_move Q p0 m_fruits m_standings m_thrown m_undoMany m_now m_foot m_fork m_told m_undos := by
  rw [F_X10_move] at hq
  refine du_X10_refusesMove h ?_
  intro h
  refine And.intro (fun c1 => ?_) (fun c1 => ?_)
  · have h := And.left h c1
    rw [if_pos c1] at hq
    refine du_X10_remember h ?_
    intro h
    refine du_X10_goMove h ?_
    intro h
    have q9 := hq _ rfl
    dsimp only at q9
    exact q9 h
  · have h := And.right h c1
    rw [if_neg c1] at hq
    have q9 := hq _ rfl
    dsimp only at q9
    exact q9 h
theorem du_X10_move {P Q : Int32 → Int32 → Int32 → (Nat → Int32) → (Nat → Int32) → Prop} {p0 : Int32} {m_fruits : Int32} {m_standings : Int32} {m_thrown : Int32} {m_undoMany : Int32} {m_now : Nat → Int32} {m_foot : Nat → Int32} {m_fork : Nat → Int32} {m_told : Nat → Int32} {m_undos : Nat → Int32} (h : wp_X10_move P p0 m_fruits m_standings m_thrown m_undoMany m_now m_foot m_fork m_told m_undos) (hq : P (F_X10_move p0 m_fruits m_standings m_thrown m_undoMany m_now m_foot m_fork m_told m_undos).1 (F_X10_move p0 m_fruits m_standings m_thrown m_undoMany m_now m_foot m_fork m_told m_undos).2.1 (F_X10_move p0 m_fruits m_standings m_thrown m_undoMany m_now m_foot m_fork m_told m_undos).2.2.1 (F_X10_move p0 m_fruits m_standings m_thrown m_undoMany m_now m_foot m_fork m_told m_undos).2.2.2.1 (F_X10_move p0 m_fruits m_standings m_thrown m_undoMany m_now m_foot m_fork m_told m_undos).2.2.2.2 → Q (F_X10_move p0 m_fruits m_standings m_thrown m_undoMany m_now m_foot m_fork m_told m_undos).1 (F_X10_move p0 m_fruits m_standings m_thrown m_undoMany m_now m_foot m_fork m_told m_undos).2.1 (F_X10_move p0 m_fruits m_standings m_thrown m_undoMany m_now m_foot m_fork m_told m_undos).2.2.1 (F_X10_move p0 m_fruits m_standings m_thrown m_undoMany m_now m_foot m_fork m_told m_undos).2.2.2.1 (F_X10_move p0 m_fruits m_standings m_thrown m_undoMany m_now m_foot m_fork m_told m_undos).2.2.2.2) : wp_X10_move Q p0 m_fruits m_standings m_thrown m_undoMany m_now m_foot m_fork m_told m_undos := dt_X10_move h (fun o eo => by rw [eo]; exact hq)
theorem dw_X10_move {Q : Int32 → Int32 → Int32 → (Nat → Int32) → (Nat → Int32) → Prop} {p0 : Int32} {m_fruits : Int32} {m_standings : Int32} {m_thrown : Int32} {m_undoMany : Int32} {m_now : Nat → Int32} {m_foot : Nat → Int32} {m_fork : Nat → Int32} {m_told : Nat → Int32} {m_undos : Nat → Int32} (h : wp_X10_move (fun o0 o1 o2 o3 o4 => (o0, o1, o2, o3, o4) = F_X10_move p0 m_fruits m_standings m_thrown m_undoMany m_now m_foot m_fork m_told m_undos → Q o0 o1 o2 o3 o4) p0 m_fruits m_standings m_thrown m_undoMany m_now m_foot m_fork m_told m_undos) : wp_X10_move Q p0 m_fruits m_standings m_thrown m_undoMany m_now m_foot m_fork m_told m_undos := dt_X10_move h (fun o eo hp => hp eo)
noncomputable def F_X10_foot (p0 : Int32) (m_thrown : Int32) (m_undoMany : Int32) (m_now : Nat → Int32) (m_undos : Nat → Int32) : Int32 × Int32 × Int32 × (Nat → Int32) × (Nat → Int32) := if (F_X10_in p0 0 1) = 0 then ((-1), 0, m_undoMany, m_now, m_undos) else ((m_now (18 : Int32).toNatClampNeg), 0, (F_X10_remember m_undoMany m_now m_undos).1, (upd m_now (18 : Int32).toNatClampNeg p0), (F_X10_remember m_undoMany m_now m_undos).2)
set_option maxHeartbeats 200000 in
set_option maxRecDepth 10000 in
theorem dt_X10_foot {P Q : Int32 → Int32 → Int32 → (Nat → Int32) → (Nat → Int32) → Prop} {p0 : Int32} {m_thrown : Int32} {m_undoMany : Int32} {m_now : Nat → Int32} {m_undos : Nat → Int32} (h : wp_X10_foot P p0 m_thrown m_undoMany m_now m_undos) (hq : ∀ o : Int32 × Int32 × Int32 × (Nat → Int32) × (Nat → Int32), o = F_X10_foot p0 m_thrown m_undoMany m_now m_undos → P o.1 o.2.1 o.2.2.1 o.2.2.2.1 o.2.2.2.2 → Q o.1 o.2.1 o.2.2.1 o.2.2.2.1 o.2.2.2.2) : wp_X10_foot Q p0 m_thrown m_undoMany m_now m_undos := by
  rw [F_X10_foot] at hq
  refine du_X10_in h ?_
  intro h
  refine And.intro (fun c1 => ?_) (fun c1 => ?_)
  · have h := And.left h c1
    rw [if_neg c1] at hq
    refine du_X10_remember h ?_
    intro h
    refine ae ?_
    have h := h _ rfl
    have q9 := hq _ rfl
    dsimp only at q9
    exact q9 h
  · have h := And.right h c1
    rw [if_pos c1] at hq
    have q9 := hq _ rfl
    dsimp only at q9
    exact q9 h
theorem du_X10_foot {P Q : Int32 → Int32 → Int32 → (Nat → Int32) → (Nat → Int32) → Prop} {p0 : Int32} {m_thrown : Int32} {m_undoMany : Int32} {m_now : Nat → Int32} {m_undos : Nat → Int32} (h : wp_X10_foot P p0 m_thrown m_undoMany m_now m_undos) (hq : P (F_X10_foot p0 m_thrown m_undoMany m_now m_undos).1 (F_X10_foot p0 m_thrown m_undoMany m_now m_undos).2.1 (F_X10_foot p0 m_thrown m_undoMany m_now m_undos).2.2.1 (F_X10_foot p0 m_thrown m_undoMany m_now m_undos).2.2.2.1 (F_X10_foot p0 m_thrown m_undoMany m_now m_undos).2.2.2.2 → Q (F_X10_foot p0 m_thrown m_undoMany m_now m_undos).1 (F_X10_foot p0 m_thrown m_undoMany m_now m_undos).2.1 (F_X10_foot p0 m_thrown m_undoMany m_now m_undos).2.2.1 (F_X10_foot p0 m_thrown m_undoMany m_now m_undos).2.2.2.1 (F_X10_foot p0 m_thrown m_undoMany m_now m_undos).2.2.2.2) : wp_X10_foot Q p0 m_thrown m_undoMany m_now m_undos := dt_X10_foot h (fun o eo => by rw [eo]; exact hq)
theorem dw_X10_foot {Q : Int32 → Int32 → Int32 → (Nat → Int32) → (Nat → Int32) → Prop} {p0 : Int32} {m_thrown : Int32} {m_undoMany : Int32} {m_now : Nat → Int32} {m_undos : Nat → Int32} (h : wp_X10_foot (fun o0 o1 o2 o3 o4 => (o0, o1, o2, o3, o4) = F_X10_foot p0 m_thrown m_undoMany m_now m_undos → Q o0 o1 o2 o3 o4) p0 m_thrown m_undoMany m_now m_undos) : wp_X10_foot Q p0 m_thrown m_undoMany m_now m_undos := dt_X10_foot h (fun o eo hp => hp eo)
noncomputable def F_X10_refusesPick (p0 : Int32) (p1 : Int32) (m_fruits : Int32) (m_now : Nat → Int32) (m_x : Nat → Int32) (m_height : Nat → Int32) (m_ripe : Nat → Int32) (m_foot : Nat → Int32) (m_fork : Nat → Int32) (m_told : Nat → Int32) : Int32 := if (F_X10_isFruit p0 m_fruits) = 0 then (-1) else (if (F_X10_in p1 0 1) = 0 then (-1) else (if (m_now p0.toNatClampNeg) = 0 then (if (m_ripe p0.toNatClampNeg) ≤ (m_now (19 : Int32).toNatClampNeg) then (if (m_now (17 : Int32).toNatClampNeg) = (-1) then (-4) else (if (F_X10_isWithin p0 (m_now (17 : Int32).toNatClampNeg) (F_X10_reachBy (m_now (18 : Int32).toNatClampNeg) p1 m_told) m_x m_height m_foot m_fork) = 0 then (-4) else (if (F_J6_bitCount_0f7a4 (F_X10_which 1 m_fruits m_now)) < (m_told (4 : Int32).toNatClampNeg) then 0 else (-5)))) else (-3)) else (-2)))
set_option maxHeartbeats 200000 in
set_option maxRecDepth 10000 in
theorem dt_X10_refusesPick {P Q : Int32 → Prop} {p0 : Int32} {p1 : Int32} {m_fruits : Int32} {m_now : Nat → Int32} {m_x : Nat → Int32} {m_height : Nat → Int32} {m_ripe : Nat → Int32} {m_foot : Nat → Int32} {m_fork : Nat → Int32} {m_told : Nat → Int32} (h : wp_X10_refusesPick P p0 p1 m_fruits m_now m_x m_height m_ripe m_foot m_fork m_told) (hq : ∀ o : Int32, o = F_X10_refusesPick p0 p1 m_fruits m_now m_x m_height m_ripe m_foot m_fork m_told → P o → Q o) : wp_X10_refusesPick Q p0 p1 m_fruits m_now m_x m_height m_ripe m_foot m_fork m_told := by
  rw [F_X10_refusesPick] at hq
  refine du_X10_isFruit h ?_
  intro h
  refine And.intro (fun c1 => ?_) (fun c1 => ?_)
  · have h := And.left h c1
    rw [if_pos c1] at hq
    have q9 := hq _ rfl
    exact q9 h
  · have h := And.right h c1
    rw [if_neg c1] at hq
    refine du_X10_in h ?_
    intro h
    refine And.intro (fun c2 => ?_) (fun c2 => ?_)
    · have h := And.left h c2
      rw [if_neg c2] at hq
      refine And.intro (And.left h) ?_
      have h := And.right h
      refine And.intro (fun c3 => ?_) (fun c3 => ?_)
      · have h := And.left h c3
        rw [if_pos c3] at hq
        refine And.intro (And.left h) ?_
        have h := And.right h
        refine ae ?_
        have h := h _ rfl
        refine And.intro (fun c4 => ?_) (fun c4 => ?_)
        · have h := And.left h c4
          rw [if_pos c4] at hq
          refine ae ?_
          have h := h _ rfl
          refine And.intro (fun c5 => ?_) (fun c5 => ?_)
          · have h := And.left h c5
            rw [if_pos c5] at hq
            have q9 := hq _ rfl
            exact q9 h
          · have h := And.right h c5
            rw [if_neg c5] at hq
            refine ae ?_
            have h := h _ rfl
            refine ae ?_
            have h := h _ rfl
            refine du_X10_reachBy h ?_
            intro h
            refine du_X10_isWithin h ?_
            intro h
            refine And.intro (fun c6 => ?_) (fun c6 => ?_)
            · have h := And.left h c6
              rw [if_neg c6] at hq
              refine du_X10_which h ?_
              intro h
              refine du_J6_bitCount_0f7a4 h ?_
              intro h
              refine And.intro (fun c7 => ?_) (fun c7 => ?_)
              · have h := And.left h c7
                rw [if_pos c7] at hq
                have q9 := hq _ rfl
                exact q9 h
              · have h := And.right h c7
                rw [if_neg c7] at hq
                have q9 := hq _ rfl
                exact q9 h
            · have h := And.right h c6
              rw [if_pos c6] at hq
              have q9 := hq _ rfl
              exact q9 h
        · have h := And.right h c4
          rw [if_neg c4] at hq
          have q9 := hq _ rfl
          exact q9 h
      · have h := And.right h c3
        rw [if_neg c3] at hq
        have q9 := hq _ rfl
        exact q9 h
    · have h := And.right h c2
      rw [if_pos c2] at hq
      have q9 := hq _ rfl
      exact q9 h
theorem du_X10_refusesPick {P Q : Int32 → Prop} {p0 : Int32} {p1 : Int32} {m_fruits : Int32} {m_now : Nat → Int32} {m_x : Nat → Int32} {m_height : Nat → Int32} {m_ripe : Nat → Int32} {m_foot : Nat → Int32} {m_fork : Nat → Int32} {m_told : Nat → Int32} (h : wp_X10_refusesPick P p0 p1 m_fruits m_now m_x m_height m_ripe m_foot m_fork m_told) (hq : P (F_X10_refusesPick p0 p1 m_fruits m_now m_x m_height m_ripe m_foot m_fork m_told) → Q (F_X10_refusesPick p0 p1 m_fruits m_now m_x m_height m_ripe m_foot m_fork m_told)) : wp_X10_refusesPick Q p0 p1 m_fruits m_now m_x m_height m_ripe m_foot m_fork m_told := dt_X10_refusesPick h (fun o eo => by rw [eo]; exact hq)
theorem dw_X10_refusesPick {Q : Int32 → Prop} {p0 : Int32} {p1 : Int32} {m_fruits : Int32} {m_now : Nat → Int32} {m_x : Nat → Int32} {m_height : Nat → Int32} {m_ripe : Nat → Int32} {m_foot : Nat → Int32} {m_fork : Nat → Int32} {m_told : Nat → Int32} (h : wp_X10_refusesPick (fun o0 => o0 = F_X10_refusesPick p0 p1 m_fruits m_now m_x m_height m_ripe m_foot m_fork m_told → Q o0) p0 p1 m_fruits m_now m_x m_height m_ripe m_foot m_fork m_told) : wp_X10_refusesPick Q p0 p1 m_fruits m_now m_x m_height m_ripe m_foot m_fork m_told := dt_X10_refusesPick h (fun o eo hp => hp eo)
noncomputable def F_X10_begin_b2 (p1 : Int32) (p2 : Int32) (m_read : Nat) (m_length : Int32) (m_top : Int32) (m_at : Int32) (m_wrong : Int32) : Nat × Int32 × Int32 × Int32 × Int32 := (2, p1, p2, 0, (-1))
set_option maxHeartbeats 200000 in
set_option maxRecDepth 10000 in
theorem dt_X10_begin_b2 {P Q : Nat → Int32 → Int32 → Int32 → Int32 → Prop} {p1 : Int32} {p2 : Int32} {m_read : Nat} {m_length : Int32} {m_top : Int32} {m_at : Int32} {m_wrong : Int32} (h : wp_X10_begin_b2 P p1 p2 m_read m_length m_top m_at m_wrong) (hq : ∀ o : Nat × Int32 × Int32 × Int32 × Int32, o = F_X10_begin_b2 p1 p2 m_read m_length m_top m_at m_wrong → P o.1 o.2.1 o.2.2.1 o.2.2.2.1 o.2.2.2.2 → Q o.1 o.2.1 o.2.2.1 o.2.2.2.1 o.2.2.2.2) : wp_X10_begin_b2 Q p1 p2 m_read m_length m_top m_at m_wrong := by
  rw [F_X10_begin_b2] at hq
  have q9 := hq _ rfl
  dsimp only at q9
  exact q9 h
theorem du_X10_begin_b2 {P Q : Nat → Int32 → Int32 → Int32 → Int32 → Prop} {p1 : Int32} {p2 : Int32} {m_read : Nat} {m_length : Int32} {m_top : Int32} {m_at : Int32} {m_wrong : Int32} (h : wp_X10_begin_b2 P p1 p2 m_read m_length m_top m_at m_wrong) (hq : P (F_X10_begin_b2 p1 p2 m_read m_length m_top m_at m_wrong).1 (F_X10_begin_b2 p1 p2 m_read m_length m_top m_at m_wrong).2.1 (F_X10_begin_b2 p1 p2 m_read m_length m_top m_at m_wrong).2.2.1 (F_X10_begin_b2 p1 p2 m_read m_length m_top m_at m_wrong).2.2.2.1 (F_X10_begin_b2 p1 p2 m_read m_length m_top m_at m_wrong).2.2.2.2 → Q (F_X10_begin_b2 p1 p2 m_read m_length m_top m_at m_wrong).1 (F_X10_begin_b2 p1 p2 m_read m_length m_top m_at m_wrong).2.1 (F_X10_begin_b2 p1 p2 m_read m_length m_top m_at m_wrong).2.2.1 (F_X10_begin_b2 p1 p2 m_read m_length m_top m_at m_wrong).2.2.2.1 (F_X10_begin_b2 p1 p2 m_read m_length m_top m_at m_wrong).2.2.2.2) : wp_X10_begin_b2 Q p1 p2 m_read m_length m_top m_at m_wrong := dt_X10_begin_b2 h (fun o eo => by rw [eo]; exact hq)
theorem dw_X10_begin_b2 {Q : Nat → Int32 → Int32 → Int32 → Int32 → Prop} {p1 : Int32} {p2 : Int32} {m_read : Nat} {m_length : Int32} {m_top : Int32} {m_at : Int32} {m_wrong : Int32} (h : wp_X10_begin_b2 (fun o0 o1 o2 o3 o4 => (o0, o1, o2, o3, o4) = F_X10_begin_b2 p1 p2 m_read m_length m_top m_at m_wrong → Q o0 o1 o2 o3 o4) p1 p2 m_read m_length m_top m_at m_wrong) : wp_X10_begin_b2 Q p1 p2 m_read m_length m_top m_at m_wrong := dt_X10_begin_b2 h (fun o eo hp => hp eo)
noncomputable def F_X10_canDown (m_fruits : Int32) (m_now : Nat → Int32) : Int32 := if (m_now (17 : Int32).toNatClampNeg) = (-1) then 0 else (if (F_X10_which 1 m_fruits m_now) = 0 then 0 else 1)
set_option maxHeartbeats 200000 in
set_option maxRecDepth 10000 in
theorem dt_X10_canDown {P Q : Int32 → Prop} {m_fruits : Int32} {m_now : Nat → Int32} (h : wp_X10_canDown P m_fruits m_now) (hq : ∀ o : Int32, o = F_X10_canDown m_fruits m_now → P o → Q o) : wp_X10_canDown Q m_fruits m_now := by
  rw [F_X10_canDown] at hq
  refine ae ?_
  have h := h _ rfl
  refine And.intro (fun c1 => ?_) (fun c1 => ?_)
  · have h := And.left h c1
    rw [if_pos c1] at hq
    have q9 := hq _ rfl
    exact q9 h
  · have h := And.right h c1
    rw [if_neg c1] at hq
    refine du_X10_which h ?_
    intro h
    refine And.intro (fun c2 => ?_) (fun c2 => ?_)
    · have h := And.left h c2
      rw [if_pos c2] at hq
      have q9 := hq _ rfl
      exact q9 h
    · have h := And.right h c2
      rw [if_neg c2] at hq
      have q9 := hq _ rfl
      exact q9 h
theorem du_X10_canDown {P Q : Int32 → Prop} {m_fruits : Int32} {m_now : Nat → Int32} (h : wp_X10_canDown P m_fruits m_now) (hq : P (F_X10_canDown m_fruits m_now) → Q (F_X10_canDown m_fruits m_now)) : wp_X10_canDown Q m_fruits m_now := dt_X10_canDown h (fun o eo => by rw [eo]; exact hq)
theorem dw_X10_canDown {Q : Int32 → Prop} {m_fruits : Int32} {m_now : Nat → Int32} (h : wp_X10_canDown (fun o0 => o0 = F_X10_canDown m_fruits m_now → Q o0) m_fruits m_now) : wp_X10_canDown Q m_fruits m_now := dt_X10_canDown h (fun o eo hp => hp eo)
noncomputable def F_X10_goDown (m_fruits : Int32) (m_now : Nat → Int32) (m_fork : Nat → Int32) : Int32 × (Nat → Int32) := ((F_X10_empty m_fruits (F_X10_passBy (F_X10_downOf (m_now (17 : Int32).toNatClampNeg) m_fork) m_now)).1, (F_X10_empty m_fruits (F_X10_passBy (F_X10_downOf (m_now (17 : Int32).toNatClampNeg) m_fork) m_now)).2)
set_option maxHeartbeats 200000 in
set_option maxRecDepth 10000 in
theorem dt_X10_goDown {P Q : Int32 → (Nat → Int32) → Prop} {m_fruits : Int32} {m_now : Nat → Int32} {m_fork : Nat → Int32} (h : wp_X10_goDown P m_fruits m_now m_fork) (hq : ∀ o : Int32 × (Nat → Int32), o = F_X10_goDown m_fruits m_now m_fork → P o.1 o.2 → Q o.1 o.2) : wp_X10_goDown Q m_fruits m_now m_fork := by
  rw [F_X10_goDown] at hq
  refine ae ?_
  have h := h _ rfl
  refine du_X10_downOf h ?_
  intro h
  refine du_X10_passBy h ?_
  intro h
  refine du_X10_empty h ?_
  intro h
  have q9 := hq _ rfl
  dsimp only at q9
  exact q9 h
theorem du_X10_goDown {P Q : Int32 → (Nat → Int32) → Prop} {m_fruits : Int32} {m_now : Nat → Int32} {m_fork : Nat → Int32} (h : wp_X10_goDown P m_fruits m_now m_fork) (hq : P (F_X10_goDown m_fruits m_now m_fork).1 (F_X10_goDown m_fruits m_now m_fork).2 → Q (F_X10_goDown m_fruits m_now m_fork).1 (F_X10_goDown m_fruits m_now m_fork).2) : wp_X10_goDown Q m_fruits m_now m_fork := dt_X10_goDown h (fun o eo => by rw [eo]; exact hq)
theorem dw_X10_goDown {Q : Int32 → (Nat → Int32) → Prop} {m_fruits : Int32} {m_now : Nat → Int32} {m_fork : Nat → Int32} (h : wp_X10_goDown (fun o0 o1 => (o0, o1) = F_X10_goDown m_fruits m_now m_fork → Q o0 o1) m_fruits m_now m_fork) : wp_X10_goDown Q m_fruits m_now m_fork := dt_X10_goDown h (fun o eo hp => hp eo)
noncomputable def F_X10_down (m_fruits : Int32) (m_thrown : Int32) (m_undoMany : Int32) (m_now : Nat → Int32) (m_fork : Nat → Int32) (m_undos : Nat → Int32) : Int32 × Int32 × Int32 × (Nat → Int32) × (Nat → Int32) := if (F_X10_canDown m_fruits m_now) = 0 then ((-2), 0, m_undoMany, m_now, m_undos) else ((F_X10_goDown m_fruits m_now m_fork).1, 0, (F_X10_remember m_undoMany m_now m_undos).1, (F_X10_goDown m_fruits m_now m_fork).2, (F_X10_remember m_undoMany m_now m_undos).2)
set_option maxHeartbeats 200000 in
set_option maxRecDepth 10000 in
theorem dt_X10_down {P Q : Int32 → Int32 → Int32 → (Nat → Int32) → (Nat → Int32) → Prop} {m_fruits : Int32} {m_thrown : Int32} {m_undoMany : Int32} {m_now : Nat → Int32} {m_fork : Nat → Int32} {m_undos : Nat → Int32} (h : wp_X10_down P m_fruits m_thrown m_undoMany m_now m_fork m_undos) (hq : ∀ o : Int32 × Int32 × Int32 × (Nat → Int32) × (Nat → Int32), o = F_X10_down m_fruits m_thrown m_undoMany m_now m_fork m_undos → P o.1 o.2.1 o.2.2.1 o.2.2.2.1 o.2.2.2.2 → Q o.1 o.2.1 o.2.2.1 o.2.2.2.1 o.2.2.2.2) : wp_X10_down Q m_fruits m_thrown m_undoMany m_now m_fork m_undos := by
  rw [F_X10_down] at hq
  refine du_X10_canDown h ?_
  intro h
  refine And.intro (fun c1 => ?_) (fun c1 => ?_)
  · have h := And.left h c1
    rw [if_neg c1] at hq
    refine du_X10_remember h ?_
    intro h
    refine du_X10_goDown h ?_
    intro h
    have q9 := hq _ rfl
    dsimp only at q9
    exact q9 h
  · have h := And.right h c1
    rw [if_pos c1] at hq
    have q9 := hq _ rfl
    dsimp only at q9
    exact q9 h
theorem du_X10_down {P Q : Int32 → Int32 → Int32 → (Nat → Int32) → (Nat → Int32) → Prop} {m_fruits : Int32} {m_thrown : Int32} {m_undoMany : Int32} {m_now : Nat → Int32} {m_fork : Nat → Int32} {m_undos : Nat → Int32} (h : wp_X10_down P m_fruits m_thrown m_undoMany m_now m_fork m_undos) (hq : P (F_X10_down m_fruits m_thrown m_undoMany m_now m_fork m_undos).1 (F_X10_down m_fruits m_thrown m_undoMany m_now m_fork m_undos).2.1 (F_X10_down m_fruits m_thrown m_undoMany m_now m_fork m_undos).2.2.1 (F_X10_down m_fruits m_thrown m_undoMany m_now m_fork m_undos).2.2.2.1 (F_X10_down m_fruits m_thrown m_undoMany m_now m_fork m_undos).2.2.2.2 → Q (F_X10_down m_fruits m_thrown m_undoMany m_now m_fork m_undos).1 (F_X10_down m_fruits m_thrown m_undoMany m_now m_fork m_undos).2.1 (F_X10_down m_fruits m_thrown m_undoMany m_now m_fork m_undos).2.2.1 (F_X10_down m_fruits m_thrown m_undoMany m_now m_fork m_undos).2.2.2.1 (F_X10_down m_fruits m_thrown m_undoMany m_now m_fork m_undos).2.2.2.2) : wp_X10_down Q m_fruits m_thrown m_undoMany m_now m_fork m_undos := dt_X10_down h (fun o eo => by rw [eo]; exact hq)
theorem dw_X10_down {Q : Int32 → Int32 → Int32 → (Nat → Int32) → (Nat → Int32) → Prop} {m_fruits : Int32} {m_thrown : Int32} {m_undoMany : Int32} {m_now : Nat → Int32} {m_fork : Nat → Int32} {m_undos : Nat → Int32} (h : wp_X10_down (fun o0 o1 o2 o3 o4 => (o0, o1, o2, o3, o4) = F_X10_down m_fruits m_thrown m_undoMany m_now m_fork m_undos → Q o0 o1 o2 o3 o4) m_fruits m_thrown m_undoMany m_now m_fork m_undos) : wp_X10_down Q m_fruits m_thrown m_undoMany m_now m_fork m_undos := dt_X10_down h (fun o eo hp => hp eo)
noncomputable def j_X10_ripeOnes_30 {R : Type} (k4 : Int32 → Int32 → Int32 → R) (m_fruits : Int32) (m_ripe : Nat → Int32) (x1 : Int32) (x3 : Int32) (k0 : Int32) (k1 : Int32) : R := k4 x1 (k0 ||| k1) (x3 + 1)
noncomputable def bd_X10_ripeOnes_4 (m_fruits : Int32) (m_ripe : Nat → Int32) (x1 : Int32) (c : Int32) (s : Int32) : Int32 := if x1 < (m_ripe c.toNatClampNeg) then (j_X10_ripeOnes_30 (fun q0 q1 q2 => q1) m_fruits m_ripe x1 c s 0) else (j_X10_ripeOnes_30 (fun q0 q1 q2 => q1) m_fruits m_ripe x1 c s (1 <<< (c &&& 31)))
noncomputable def ex_X10_ripeOnes_4 {R : Type} (po : Int32 → R) (m_fruits : Int32) (m_ripe : Nat → Int32) (x1 : Int32) (c : Int32) (s : Int32) : R := po s
set_option maxHeartbeats 200000 in
set_option maxRecDepth 10000 in
theorem dl_X10_ripeOnes_4 {P Q : Int32 → Prop} {m_fruits : Int32} {m_ripe : Nat → Int32} {x1 : Int32} {a : Int32} {i : Nat} (hi0 : i < 2147483648) (hE : ∀ (c : Int32) (s : Int32), c = nI (i + (Int32.toInt m_fruits - ((i : Nat) : Int)).toNat) → s = itr (bd_X10_ripeOnes_4 m_fruits m_ripe x1) a i (Int32.toInt m_fruits - ((i : Nat) : Int)).toNat → (P s) → (Q s)) : ∀ (n k : Nat) (c : Int32), c = nI (i + k) → k ≤ (Int32.toInt m_fruits - ((i : Nat) : Int)).toNat → wb_X10_ripeOnes_4 P m_fruits m_ripe n x1 (itr (bd_X10_ripeOnes_4 m_fruits m_ripe x1) a i k) c → wb_X10_ripeOnes_4 Q m_fruits m_ripe n x1 (itr (bd_X10_ripeOnes_4 m_fruits m_ripe x1) a i k) c := by
  intro n
  induction n with
  | zero => intro k c hc hk h; exact False.elim h
  | succ n ih =>
    intro k c hc hk h
    have hr := tp_r m_fruits
    have hi : Int32.toInt c = ((i + k : Nat) : Int) := by rw [hc]; exact nI_toInt (by omega)
    refine And.intro (fun t0 => ?_) (fun t0 => ?_)
    · have h := And.left h t0
      have t1 := (fa_le _ _).mp t0
      have hk2 : k = (Int32.toInt m_fruits - ((i : Nat) : Int)).toNat := by omega
      subst hk2
      exact hE _ _ hc rfl h
    · have h := And.right h t0
      have t1 := mt (fa_le _ _).mpr t0
      have hs : ∀ o : Int32, o = itr (bd_X10_ripeOnes_4 m_fruits m_ripe x1) a i (k + 1) → wb_X10_ripeOnes_4 P m_fruits m_ripe n x1 o (c + 1) → wb_X10_ripeOnes_4 Q m_fruits m_ripe n x1 o (c + 1) := by
        intro o eo h9
        have q := ih (k + 1) (c + 1) (by rw [hc]; exact nI_1 _) (by omega)
        rw [← eo] at q
        exact q h9
      rw [itr_s, ← hc, bd_X10_ripeOnes_4] at hs
      refine And.intro (And.left h) ?_
      have h := And.right h
      refine ae ?_
      have h := h _ rfl
      refine And.intro (fun c1 => ?_) (fun c1 => ?_)
      · have h := And.left h c1
        rw [if_pos c1] at hs
        rw [j_X10_ripeOnes_30] at hs
        unfold ws_X10_ripeOnes_30 at h ⊢
        refine ae ?_
        have h := h _ rfl
        refine ae ?_
        have h := h _ rfl
        have q9 := hs _ rfl
        exact q9 h
      · have h := And.right h c1
        rw [if_neg c1] at hs
        refine ae ?_
        have h := h _ rfl
        rw [j_X10_ripeOnes_30] at hs
        unfold ws_X10_ripeOnes_30 at h ⊢
        refine ae ?_
        have h := h _ rfl
        refine ae ?_
        have h := h _ rfl
        have q9 := hs _ rfl
        exact q9 h
noncomputable def F_X10_ripeOnes (p0 : Int32) (m_fruits : Int32) (m_ripe : Nat → Int32) : Int32 := ex_X10_ripeOnes_4 (fun o0 => o0) m_fruits m_ripe p0 (nI (0 + (Int32.toInt m_fruits - ((0 : Nat) : Int)).toNat)) (itr (bd_X10_ripeOnes_4 m_fruits m_ripe p0) 0 0 (Int32.toInt m_fruits - ((0 : Nat) : Int)).toNat)
set_option maxHeartbeats 200000 in
set_option maxRecDepth 10000 in
theorem dt_X10_ripeOnes {P Q : Int32 → Prop} {p0 : Int32} {m_fruits : Int32} {m_ripe : Nat → Int32} (h : wp_X10_ripeOnes P p0 m_fruits m_ripe) (hq : ∀ o : Int32, o = F_X10_ripeOnes p0 m_fruits m_ripe → P o → Q o) : wp_X10_ripeOnes Q p0 m_fruits m_ripe := by
  rw [F_X10_ripeOnes] at hq
  obtain ⟨n1, h⟩ := h
  refine ⟨n1, dl_X10_ripeOnes_4 (a := 0) (i := 0) (by decide) ?_ n1 0 0 (by decide) (Nat.zero_le _) h⟩
  intro cc2 s3 ec4 es5 h
  rw [← ec4, ← es5, ex_X10_ripeOnes_4] at hq
  have q9 := hq _ rfl
  exact q9 h
theorem du_X10_ripeOnes {P Q : Int32 → Prop} {p0 : Int32} {m_fruits : Int32} {m_ripe : Nat → Int32} (h : wp_X10_ripeOnes P p0 m_fruits m_ripe) (hq : P (F_X10_ripeOnes p0 m_fruits m_ripe) → Q (F_X10_ripeOnes p0 m_fruits m_ripe)) : wp_X10_ripeOnes Q p0 m_fruits m_ripe := dt_X10_ripeOnes h (fun o eo => by rw [eo]; exact hq)
theorem dw_X10_ripeOnes {Q : Int32 → Prop} {p0 : Int32} {m_fruits : Int32} {m_ripe : Nat → Int32} (h : wp_X10_ripeOnes (fun o0 => o0 = F_X10_ripeOnes p0 m_fruits m_ripe → Q o0) p0 m_fruits m_ripe) : wp_X10_ripeOnes Q p0 m_fruits m_ripe := dt_X10_ripeOnes h (fun o eo hp => hp eo)
noncomputable def F_X10_byHand (p0 : Int32) (m_fruits : Int32) (m_now : Nat → Int32) (m_x : Nat → Int32) (m_height : Nat → Int32) (m_foot : Nat → Int32) (m_fork : Nat → Int32) (m_told : Nat → Int32) : Int32 := (F_X10_reachedFrom p0 (m_now (18 : Int32).toNatClampNeg) 0 m_fruits m_x m_height m_foot m_fork m_told)
set_option maxHeartbeats 200000 in
set_option maxRecDepth 10000 in
theorem dt_X10_byHand {P Q : Int32 → Prop} {p0 : Int32} {m_fruits : Int32} {m_now : Nat → Int32} {m_x : Nat → Int32} {m_height : Nat → Int32} {m_foot : Nat → Int32} {m_fork : Nat → Int32} {m_told : Nat → Int32} (h : wp_X10_byHand P p0 m_fruits m_now m_x m_height m_foot m_fork m_told) (hq : ∀ o : Int32, o = F_X10_byHand p0 m_fruits m_now m_x m_height m_foot m_fork m_told → P o → Q o) : wp_X10_byHand Q p0 m_fruits m_now m_x m_height m_foot m_fork m_told := by
  rw [F_X10_byHand] at hq
  refine ae ?_
  have h := h _ rfl
  refine du_X10_reachedFrom h ?_
  intro h
  have q9 := hq _ rfl
  exact q9 h
theorem du_X10_byHand {P Q : Int32 → Prop} {p0 : Int32} {m_fruits : Int32} {m_now : Nat → Int32} {m_x : Nat → Int32} {m_height : Nat → Int32} {m_foot : Nat → Int32} {m_fork : Nat → Int32} {m_told : Nat → Int32} (h : wp_X10_byHand P p0 m_fruits m_now m_x m_height m_foot m_fork m_told) (hq : P (F_X10_byHand p0 m_fruits m_now m_x m_height m_foot m_fork m_told) → Q (F_X10_byHand p0 m_fruits m_now m_x m_height m_foot m_fork m_told)) : wp_X10_byHand Q p0 m_fruits m_now m_x m_height m_foot m_fork m_told := dt_X10_byHand h (fun o eo => by rw [eo]; exact hq)
theorem dw_X10_byHand {Q : Int32 → Prop} {p0 : Int32} {m_fruits : Int32} {m_now : Nat → Int32} {m_x : Nat → Int32} {m_height : Nat → Int32} {m_foot : Nat → Int32} {m_fork : Nat → Int32} {m_told : Nat → Int32} (h : wp_X10_byHand (fun o0 => o0 = F_X10_byHand p0 m_fruits m_now m_x m_height m_foot m_fork m_told → Q o0) p0 m_fruits m_now m_x m_height m_foot m_fork m_told) : wp_X10_byHand Q p0 m_fruits m_now m_x m_height m_foot m_fork m_told := dt_X10_byHand h (fun o eo hp => hp eo)
noncomputable def j_X10_goShake_96 {R : Type} (k50 : Int32 → Int32 → Int32 → (Nat → Int32) → R) (m_fruits : Int32) (m_x : Nat → Int32) (m_height : Nat → Int32) (m_ripe : Nat → Int32) (m_foot : Nat → Int32) (m_fork : Nat → Int32) (m_told : Nat → Int32) (x1 : Int32) (x2 : Int32) (x3 : Int32) (m_now : Nat → Int32) : R := k50 x1 x2 (x3 + 1) m_now
noncomputable def bd_X10_goShake_50 (m_fruits : Int32) (m_x : Nat → Int32) (m_height : Nat → Int32) (m_ripe : Nat → Int32) (m_foot : Nat → Int32) (m_fork : Nat → Int32) (m_told : Nat → Int32) (x1 : Int32) (x2 : Int32) (c : Int32) (s : (Nat → Int32)) : (Nat → Int32) := if (F_X10_has x1 c) = 0 then (j_X10_goShake_96 (fun q0 q1 q2 q3 => q3) m_fruits m_x m_height m_ripe m_foot m_fork m_told x1 x2 c s) else (j_X10_goShake_96 (fun q0 q1 q2 q3 => q3) m_fruits m_x m_height m_ripe m_foot m_fork m_told x1 x2 c (upd (upd s c.toNatClampNeg 3) (16 : Int32).toNatClampNeg (((upd s c.toNatClampNeg 3) (16 : Int32).toNatClampNeg) ||| ((1 <<< (c &&& 31)) ||| (F_X10_below c x2 m_fruits m_x m_height)))))
noncomputable def ex_X10_goShake_50 {R : Type} (po : Int32 → (Nat → Int32) → R) (m_fruits : Int32) (m_x : Nat → Int32) (m_height : Nat → Int32) (m_ripe : Nat → Int32) (m_foot : Nat → Int32) (m_fork : Nat → Int32) (m_told : Nat → Int32) (x1 : Int32) (x2 : Int32) (c : Int32) (s : (Nat → Int32)) : R := po (F_J6_bitCount_0f7a4 x1) (F_X10_passBy 5 s)
set_option maxHeartbeats 200000 in
set_option maxRecDepth 10000 in
theorem dl_X10_goShake_50 {P Q : Int32 → (Nat → Int32) → Prop} {m_fruits : Int32} {m_x : Nat → Int32} {m_height : Nat → Int32} {m_ripe : Nat → Int32} {m_foot : Nat → Int32} {m_fork : Nat → Int32} {m_told : Nat → Int32} {x1 : Int32} {x2 : Int32} {a : (Nat → Int32)} {i : Nat} (hi0 : i < 2147483648) (hE : ∀ (c : Int32) (s : (Nat → Int32)), c = nI (i + (Int32.toInt m_fruits - ((i : Nat) : Int)).toNat) → s = itr (bd_X10_goShake_50 m_fruits m_x m_height m_ripe m_foot m_fork m_told x1 x2) a i (Int32.toInt m_fruits - ((i : Nat) : Int)).toNat → (wp_X10_passBy (fun m_now_10 => wp_J6_bitCount_0f7a4 (fun r_11 => P r_11 m_now_10) x1) 5 s) → (wp_X10_passBy (fun m_now_10 => wp_J6_bitCount_0f7a4 (fun r_11 => Q r_11 m_now_10) x1) 5 s)) : ∀ (n k : Nat) (c : Int32), c = nI (i + k) → k ≤ (Int32.toInt m_fruits - ((i : Nat) : Int)).toNat → wb_X10_goShake_50 P m_fruits m_x m_height m_ripe m_foot m_fork m_told n x1 x2 c (itr (bd_X10_goShake_50 m_fruits m_x m_height m_ripe m_foot m_fork m_told x1 x2) a i k) → wb_X10_goShake_50 Q m_fruits m_x m_height m_ripe m_foot m_fork m_told n x1 x2 c (itr (bd_X10_goShake_50 m_fruits m_x m_height m_ripe m_foot m_fork m_told x1 x2) a i k) := by
  intro n
  induction n with
  | zero => intro k c hc hk h; exact False.elim h
  | succ n ih =>
    intro k c hc hk h
    have hr := tp_r m_fruits
    have hi : Int32.toInt c = ((i + k : Nat) : Int) := by rw [hc]; exact nI_toInt (by omega)
    refine And.intro (fun t0 => ?_) (fun t0 => ?_)
    · have h := And.left h t0
      have t1 := (fa_le _ _).mp t0
      have hk2 : k = (Int32.toInt m_fruits - ((i : Nat) : Int)).toNat := by omega
      subst hk2
      exact hE _ _ hc rfl h
    · have h := And.right h t0
      have t1 := mt (fa_le _ _).mpr t0
      have hs : ∀ o : (Nat → Int32), o = itr (bd_X10_goShake_50 m_fruits m_x m_height m_ripe m_foot m_fork m_told x1 x2) a i (k + 1) → wb_X10_goShake_50 P m_fruits m_x m_height m_ripe m_foot m_fork m_told n x1 x2 (c + 1) o → wb_X10_goShake_50 Q m_fruits m_x m_height m_ripe m_foot m_fork m_told n x1 x2 (c + 1) o := by
        intro o eo h9
        have q := ih (k + 1) (c + 1) (by rw [hc]; exact nI_1 _) (by omega)
        rw [← eo] at q
        exact q h9
      rw [itr_s, ← hc, bd_X10_goShake_50] at hs
      refine du_X10_has h ?_
      intro h
      refine And.intro (fun c1 => ?_) (fun c1 => ?_)
      · have h := And.left h c1
        rw [if_neg c1] at hs
        refine And.intro (And.left h) ?_
        have h := And.right h
        refine ae ?_
        have h := h _ rfl
        refine ae ?_
        have h := h _ rfl
        refine du_X10_below h ?_
        intro h
        refine ae ?_
        have h := h _ rfl
        rw [j_X10_goShake_96] at hs
        unfold ws_X10_goShake_96 at h ⊢
        refine ae ?_
        have h := h _ rfl
        have q9 := hs _ rfl
        exact q9 h
      · have h := And.right h c1
        rw [if_pos c1] at hs
        rw [j_X10_goShake_96] at hs
        unfold ws_X10_goShake_96 at h ⊢
        refine ae ?_
        have h := h _ rfl
        have q9 := hs _ rfl
        exact q9 h
noncomputable def F_X10_goShake (m_fruits : Int32) (m_now : Nat → Int32) (m_x : Nat → Int32) (m_height : Nat → Int32) (m_ripe : Nat → Int32) (m_foot : Nat → Int32) (m_fork : Nat → Int32) (m_told : Nat → Int32) : Int32 × (Nat → Int32) := ex_X10_goShake_50 (fun o0 o1 => (o0, o1)) m_fruits m_x m_height m_ripe m_foot m_fork m_told (((F_X10_which 0 m_fruits m_now) &&& (F_X10_ripeOnes (m_now (19 : Int32).toNatClampNeg) m_fruits m_ripe)) &&& (F_X10_byHand (m_now (17 : Int32).toNatClampNeg) m_fruits m_now m_x m_height m_foot m_fork m_told)) ((F_X10_which 0 m_fruits m_now) &&& ((((F_X10_which 0 m_fruits m_now) &&& (F_X10_ripeOnes (m_now (19 : Int32).toNatClampNeg) m_fruits m_ripe)) &&& (F_X10_byHand (m_now (17 : Int32).toNatClampNeg) m_fruits m_now m_x m_height m_foot m_fork m_told)) ^^^ (-1))) (nI (0 + (Int32.toInt m_fruits - ((0 : Nat) : Int)).toNat)) (itr (bd_X10_goShake_50 m_fruits m_x m_height m_ripe m_foot m_fork m_told (((F_X10_which 0 m_fruits m_now) &&& (F_X10_ripeOnes (m_now (19 : Int32).toNatClampNeg) m_fruits m_ripe)) &&& (F_X10_byHand (m_now (17 : Int32).toNatClampNeg) m_fruits m_now m_x m_height m_foot m_fork m_told)) ((F_X10_which 0 m_fruits m_now) &&& ((((F_X10_which 0 m_fruits m_now) &&& (F_X10_ripeOnes (m_now (19 : Int32).toNatClampNeg) m_fruits m_ripe)) &&& (F_X10_byHand (m_now (17 : Int32).toNatClampNeg) m_fruits m_now m_x m_height m_foot m_fork m_told)) ^^^ (-1)))) m_now 0 (Int32.toInt m_fruits - ((0 : Nat) : Int)).toNat)
set_option maxHeartbeats 200000 in
set_option maxRecDepth 10000 in
theorem dt_X10_goShake {P Q : Int32 → (Nat → Int32) → Prop} {m_fruits : Int32} {m_now : Nat → Int32} {m_x : Nat → Int32} {m_height : Nat → Int32} {m_ripe : Nat → Int32} {m_foot : Nat → Int32} {m_fork : Nat → Int32} {m_told : Nat → Int32} (h : wp_X10_goShake P m_fruits m_now m_x m_height m_ripe m_foot m_fork m_told) (hq : ∀ o : Int32 × (Nat → Int32), o = F_X10_goShake m_fruits m_now m_x m_height m_ripe m_foot m_fork m_told → P o.1 o.2 → Q o.1 o.2) : wp_X10_goShake Q m_fruits m_now m_x m_height m_ripe m_foot m_fork m_told := by
  rw [F_X10_goShake] at hq
  refine du_X10_which h ?_
  intro h
  refine ae ?_
  have h := h _ rfl
  refine du_X10_ripeOnes h ?_
  intro h
  refine ae ?_
  have h := h _ rfl
  refine ae ?_
  have h := h _ rfl
  refine du_X10_byHand h ?_
  intro h
  refine ae ?_
  have h := h _ rfl
  refine du_X10_which h ?_
  intro h
  refine ae ?_
  have h := h _ rfl
  obtain ⟨n1, h⟩ := h
  refine ⟨n1, dl_X10_goShake_50 (a := m_now) (i := 0) (by decide) ?_ n1 0 0 (by decide) (Nat.zero_le _) h⟩
  intro cc2 s3 ec4 es5 h
  rw [← ec4, ← es5, ex_X10_goShake_50] at hq
  refine du_X10_passBy h ?_
  intro h
  refine du_J6_bitCount_0f7a4 h ?_
  intro h
  have q9 := hq _ rfl
  dsimp only at q9
  exact q9 h
theorem du_X10_goShake {P Q : Int32 → (Nat → Int32) → Prop} {m_fruits : Int32} {m_now : Nat → Int32} {m_x : Nat → Int32} {m_height : Nat → Int32} {m_ripe : Nat → Int32} {m_foot : Nat → Int32} {m_fork : Nat → Int32} {m_told : Nat → Int32} (h : wp_X10_goShake P m_fruits m_now m_x m_height m_ripe m_foot m_fork m_told) (hq : P (F_X10_goShake m_fruits m_now m_x m_height m_ripe m_foot m_fork m_told).1 (F_X10_goShake m_fruits m_now m_x m_height m_ripe m_foot m_fork m_told).2 → Q (F_X10_goShake m_fruits m_now m_x m_height m_ripe m_foot m_fork m_told).1 (F_X10_goShake m_fruits m_now m_x m_height m_ripe m_foot m_fork m_told).2) : wp_X10_goShake Q m_fruits m_now m_x m_height m_ripe m_foot m_fork m_told := dt_X10_goShake h (fun o eo => by rw [eo]; exact hq)
theorem dw_X10_goShake {Q : Int32 → (Nat → Int32) → Prop} {m_fruits : Int32} {m_now : Nat → Int32} {m_x : Nat → Int32} {m_height : Nat → Int32} {m_ripe : Nat → Int32} {m_foot : Nat → Int32} {m_fork : Nat → Int32} {m_told : Nat → Int32} (h : wp_X10_goShake (fun o0 o1 => (o0, o1) = F_X10_goShake m_fruits m_now m_x m_height m_ripe m_foot m_fork m_told → Q o0 o1) m_fruits m_now m_x m_height m_ripe m_foot m_fork m_told) : wp_X10_goShake Q m_fruits m_now m_x m_height m_ripe m_foot m_fork m_told := dt_X10_goShake h (fun o eo hp => hp eo)
noncomputable def F_X10_shake (m_fruits : Int32) (m_thrown : Int32) (m_undoMany : Int32) (m_now : Nat → Int32) (m_x : Nat → Int32) (m_height : Nat → Int32) (m_ripe : Nat → Int32) (m_foot : Nat → Int32) (m_fork : Nat → Int32) (m_told : Nat → Int32) (m_undos : Nat → Int32) : Int32 × Int32 × Int32 × (Nat → Int32) × (Nat → Int32) := if (m_now (17 : Int32).toNatClampNeg) = (-1) then ((-2), 0, m_undoMany, m_now, m_undos) else ((F_X10_goShake m_fruits m_now m_x m_height m_ripe m_foot m_fork m_told).1, 0, (F_X10_remember m_undoMany m_now m_undos).1, (F_X10_goShake m_fruits m_now m_x m_height m_ripe m_foot m_fork m_told).2, (F_X10_remember m_undoMany m_now m_undos).2)
set_option maxHeartbeats 200000 in
set_option maxRecDepth 10000 in
theorem dt_X10_shake {P Q : Int32 → Int32 → Int32 → (Nat → Int32) → (Nat → Int32) → Prop} {m_fruits : Int32} {m_thrown : Int32} {m_undoMany : Int32} {m_now : Nat → Int32} {m_x : Nat → Int32} {m_height : Nat → Int32} {m_ripe : Nat → Int32} {m_foot : Nat → Int32} {m_fork : Nat → Int32} {m_told : Nat → Int32} {m_undos : Nat → Int32} (h : wp_X10_shake P m_fruits m_thrown m_undoMany m_now m_x m_height m_ripe m_foot m_fork m_told m_undos) (hq : ∀ o : Int32 × Int32 × Int32 × (Nat → Int32) × (Nat → Int32), o = F_X10_shake m_fruits m_thrown m_undoMany m_now m_x m_height m_ripe m_foot m_fork m_told m_undos → P o.1 o.2.1 o.2.2.1 o.2.2.2.1 o.2.2.2.2 → Q o.1 o.2.1 o.2.2.1 o.2.2.2.1 o.2.2.2.2) : wp_X10_shake Q m_fruits m_thrown m_undoMany m_now m_x m_height m_ripe m_foot m_fork m_told m_undos := by
  rw [F_X10_shake] at hq
  refine ae ?_
  have h := h _ rfl
  refine And.intro (fun c1 => ?_) (fun c1 => ?_)
  · have h := And.left h c1
    rw [if_neg c1] at hq
    refine du_X10_remember h ?_
    intro h
    refine du_X10_goShake h ?_
    intro h
    have q9 := hq _ rfl
    dsimp only at q9
    exact q9 h
  · have h := And.right h c1
    rw [if_pos c1] at hq
    have q9 := hq _ rfl
    dsimp only at q9
    exact q9 h
theorem du_X10_shake {P Q : Int32 → Int32 → Int32 → (Nat → Int32) → (Nat → Int32) → Prop} {m_fruits : Int32} {m_thrown : Int32} {m_undoMany : Int32} {m_now : Nat → Int32} {m_x : Nat → Int32} {m_height : Nat → Int32} {m_ripe : Nat → Int32} {m_foot : Nat → Int32} {m_fork : Nat → Int32} {m_told : Nat → Int32} {m_undos : Nat → Int32} (h : wp_X10_shake P m_fruits m_thrown m_undoMany m_now m_x m_height m_ripe m_foot m_fork m_told m_undos) (hq : P (F_X10_shake m_fruits m_thrown m_undoMany m_now m_x m_height m_ripe m_foot m_fork m_told m_undos).1 (F_X10_shake m_fruits m_thrown m_undoMany m_now m_x m_height m_ripe m_foot m_fork m_told m_undos).2.1 (F_X10_shake m_fruits m_thrown m_undoMany m_now m_x m_height m_ripe m_foot m_fork m_told m_undos).2.2.1 (F_X10_shake m_fruits m_thrown m_undoMany m_now m_x m_height m_ripe m_foot m_fork m_told m_undos).2.2.2.1 (F_X10_shake m_fruits m_thrown m_undoMany m_now m_x m_height m_ripe m_foot m_fork m_told m_undos).2.2.2.2 → Q (F_X10_shake m_fruits m_thrown m_undoMany m_now m_x m_height m_ripe m_foot m_fork m_told m_undos).1 (F_X10_shake m_fruits m_thrown m_undoMany m_now m_x m_height m_ripe m_foot m_fork m_told m_undos).2.1 (F_X10_shake m_fruits m_thrown m_undoMany m_now m_x m_height m_ripe m_foot m_fork m_told m_undos).2.2.1 (F_X10_shake m_fruits m_thrown m_undoMany m_now m_x m_height m_ripe m_foot m_fork m_told m_undos).2.2.2.1 (F_X10_shake m_fruits m_thrown m_undoMany m_now m_x m_height m_ripe m_foot m_fork m_told m_undos).2.2.2.2) : wp_X10_shake Q m_fruits m_thrown m_undoMany m_now m_x m_height m_ripe m_foot m_fork m_told m_undos := dt_X10_shake h (fun o eo => by rw [eo]; exact hq)
theorem dw_X10_shake {Q : Int32 → Int32 → Int32 → (Nat → Int32) → (Nat → Int32) → Prop} {m_fruits : Int32} {m_thrown : Int32} {m_undoMany : Int32} {m_now : Nat → Int32} {m_x : Nat → Int32} {m_height : Nat → Int32} {m_ripe : Nat → Int32} {m_foot : Nat → Int32} {m_fork : Nat → Int32} {m_told : Nat → Int32} {m_undos : Nat → Int32} (h : wp_X10_shake (fun o0 o1 o2 o3 o4 => (o0, o1, o2, o3, o4) = F_X10_shake m_fruits m_thrown m_undoMany m_now m_x m_height m_ripe m_foot m_fork m_told m_undos → Q o0 o1 o2 o3 o4) m_fruits m_thrown m_undoMany m_now m_x m_height m_ripe m_foot m_fork m_told m_undos) : wp_X10_shake Q m_fruits m_thrown m_undoMany m_now m_x m_height m_ripe m_foot m_fork m_told m_undos := dt_X10_shake h (fun o eo hp => hp eo)
noncomputable def F_X10_goSleep (m_fruits : Int32) (m_now : Nat → Int32) : Int32 × (Nat → Int32) := (((upd (upd (upd (F_X10_empty m_fruits m_now).2 (17 : Int32).toNatClampNeg (-1)) (20 : Int32).toNatClampNeg 0) (19 : Int32).toNatClampNeg (((upd (upd (F_X10_empty m_fruits m_now).2 (17 : Int32).toNatClampNeg (-1)) (20 : Int32).toNatClampNeg 0) (19 : Int32).toNatClampNeg) + 1)) (19 : Int32).toNatClampNeg), (upd (upd (upd (F_X10_empty m_fruits m_now).2 (17 : Int32).toNatClampNeg (-1)) (20 : Int32).toNatClampNeg 0) (19 : Int32).toNatClampNeg (((upd (upd (F_X10_empty m_fruits m_now).2 (17 : Int32).toNatClampNeg (-1)) (20 : Int32).toNatClampNeg 0) (19 : Int32).toNatClampNeg) + 1)))
set_option maxHeartbeats 200000 in
set_option maxRecDepth 10000 in
theorem dt_X10_goSleep {P Q : Int32 → (Nat → Int32) → Prop} {m_fruits : Int32} {m_now : Nat → Int32} (h : wp_X10_goSleep P m_fruits m_now) (hq : ∀ o : Int32 × (Nat → Int32), o = F_X10_goSleep m_fruits m_now → P o.1 o.2 → Q o.1 o.2) : wp_X10_goSleep Q m_fruits m_now := by
  rw [F_X10_goSleep] at hq
  refine du_X10_empty h ?_
  intro h
  refine ae ?_
  have h := h _ rfl
  refine ae ?_
  have h := h _ rfl
  refine ae ?_
  have h := h _ rfl
  have q9 := hq _ rfl
  dsimp only at q9
  exact q9 h
theorem du_X10_goSleep {P Q : Int32 → (Nat → Int32) → Prop} {m_fruits : Int32} {m_now : Nat → Int32} (h : wp_X10_goSleep P m_fruits m_now) (hq : P (F_X10_goSleep m_fruits m_now).1 (F_X10_goSleep m_fruits m_now).2 → Q (F_X10_goSleep m_fruits m_now).1 (F_X10_goSleep m_fruits m_now).2) : wp_X10_goSleep Q m_fruits m_now := dt_X10_goSleep h (fun o eo => by rw [eo]; exact hq)
theorem dw_X10_goSleep {Q : Int32 → (Nat → Int32) → Prop} {m_fruits : Int32} {m_now : Nat → Int32} (h : wp_X10_goSleep (fun o0 o1 => (o0, o1) = F_X10_goSleep m_fruits m_now → Q o0 o1) m_fruits m_now) : wp_X10_goSleep Q m_fruits m_now := dt_X10_goSleep h (fun o eo hp => hp eo)
noncomputable def F_X10_sleep (m_fruits : Int32) (m_thrown : Int32) (m_undoMany : Int32) (m_now : Nat → Int32) (m_undos : Nat → Int32) : Int32 × Int32 × Int32 × (Nat → Int32) × (Nat → Int32) := if (m_now (19 : Int32).toNatClampNeg) = 9 then ((-1), 0, m_undoMany, m_now, m_undos) else ((F_X10_goSleep m_fruits m_now).1, 0, (F_X10_remember m_undoMany m_now m_undos).1, (F_X10_goSleep m_fruits m_now).2, (F_X10_remember m_undoMany m_now m_undos).2)
set_option maxHeartbeats 200000 in
set_option maxRecDepth 10000 in
theorem dt_X10_sleep {P Q : Int32 → Int32 → Int32 → (Nat → Int32) → (Nat → Int32) → Prop} {m_fruits : Int32} {m_thrown : Int32} {m_undoMany : Int32} {m_now : Nat → Int32} {m_undos : Nat → Int32} (h : wp_X10_sleep P m_fruits m_thrown m_undoMany m_now m_undos) (hq : ∀ o : Int32 × Int32 × Int32 × (Nat → Int32) × (Nat → Int32), o = F_X10_sleep m_fruits m_thrown m_undoMany m_now m_undos → P o.1 o.2.1 o.2.2.1 o.2.2.2.1 o.2.2.2.2 → Q o.1 o.2.1 o.2.2.1 o.2.2.2.1 o.2.2.2.2) : wp_X10_sleep Q m_fruits m_thrown m_undoMany m_now m_undos := by
  rw [F_X10_sleep] at hq
  refine ae ?_
  have h := h _ rfl
  refine And.intro (fun c1 => ?_) (fun c1 => ?_)
  · have h := And.left h c1
    rw [if_neg c1] at hq
    refine du_X10_remember h ?_
    intro h
    refine du_X10_goSleep h ?_
    intro h
    have q9 := hq _ rfl
    dsimp only at q9
    exact q9 h
  · have h := And.right h c1
    rw [if_pos c1] at hq
    have q9 := hq _ rfl
    dsimp only at q9
    exact q9 h
theorem du_X10_sleep {P Q : Int32 → Int32 → Int32 → (Nat → Int32) → (Nat → Int32) → Prop} {m_fruits : Int32} {m_thrown : Int32} {m_undoMany : Int32} {m_now : Nat → Int32} {m_undos : Nat → Int32} (h : wp_X10_sleep P m_fruits m_thrown m_undoMany m_now m_undos) (hq : P (F_X10_sleep m_fruits m_thrown m_undoMany m_now m_undos).1 (F_X10_sleep m_fruits m_thrown m_undoMany m_now m_undos).2.1 (F_X10_sleep m_fruits m_thrown m_undoMany m_now m_undos).2.2.1 (F_X10_sleep m_fruits m_thrown m_undoMany m_now m_undos).2.2.2.1 (F_X10_sleep m_fruits m_thrown m_undoMany m_now m_undos).2.2.2.2 → Q (F_X10_sleep m_fruits m_thrown m_undoMany m_now m_undos).1 (F_X10_sleep m_fruits m_thrown m_undoMany m_now m_undos).2.1 (F_X10_sleep m_fruits m_thrown m_undoMany m_now m_undos).2.2.1 (F_X10_sleep m_fruits m_thrown m_undoMany m_now m_undos).2.2.2.1 (F_X10_sleep m_fruits m_thrown m_undoMany m_now m_undos).2.2.2.2) : wp_X10_sleep Q m_fruits m_thrown m_undoMany m_now m_undos := dt_X10_sleep h (fun o eo => by rw [eo]; exact hq)
theorem dw_X10_sleep {Q : Int32 → Int32 → Int32 → (Nat → Int32) → (Nat → Int32) → Prop} {m_fruits : Int32} {m_thrown : Int32} {m_undoMany : Int32} {m_now : Nat → Int32} {m_undos : Nat → Int32} (h : wp_X10_sleep (fun o0 o1 o2 o3 o4 => (o0, o1, o2, o3, o4) = F_X10_sleep m_fruits m_thrown m_undoMany m_now m_undos → Q o0 o1 o2 o3 o4) m_fruits m_thrown m_undoMany m_now m_undos) : wp_X10_sleep Q m_fruits m_thrown m_undoMany m_now m_undos := dt_X10_sleep h (fun o eo hp => hp eo)
noncomputable def j_X10_readAct_109 {R : Type} (po : Int32 → Int32 → (Nat → Int32) → R) (m_read : Nat) (m_length : Int32) (m_top : Int32) (m_text : Nat → Int32) (m_rule : Nat → Int32) (x1 : Int32) (m_at : Int32) (m_wrong : Int32) (m_acts : Nat → Int32) : R := po ((F_X10_number 2 m_read m_length m_top m_at m_wrong m_text m_rule).2.1) ((F_X10_number 2 m_read m_length m_top m_at m_wrong m_text m_rule).2.2) (upd m_acts (x1 + 1).toNatClampNeg (F_X10_number 2 m_read m_length m_top m_at m_wrong m_text m_rule).1)
noncomputable def j_X10_readAct_97 {R : Type} (po : Int32 → Int32 → (Nat → Int32) → R) (m_read : Nat) (m_length : Int32) (m_top : Int32) (m_text : Nat → Int32) (m_rule : Nat → Int32) (x1 : Int32) (x2 : Int32) (m_at : Int32) (m_wrong : Int32) (m_acts : Nat → Int32) : R := if x2 = 112 then (j_X10_readAct_109 po m_read m_length m_top m_text m_rule x1 m_at m_wrong m_acts) else (if x2 = 104 then (j_X10_readAct_109 po m_read m_length m_top m_text m_rule x1 m_at m_wrong m_acts) else (po m_at m_wrong m_acts))
noncomputable def j_X10_readAct_61 {R : Type} (po : Int32 → Int32 → (Nat → Int32) → R) (m_read : Nat) (m_length : Int32) (m_top : Int32) (m_text : Nat → Int32) (m_rule : Nat → Int32) (x1 : Int32) (x2 : Int32) (m_at : Int32) (m_wrong : Int32) (m_acts : Nat → Int32) : R := if x2 = 109 then (j_X10_readAct_97 po m_read m_length m_top m_text m_rule x1 x2 ((F_X10_number 1 m_read m_length m_top (m_at + 1) m_wrong m_text m_rule).2.1) ((F_X10_number 1 m_read m_length m_top (m_at + 1) m_wrong m_text m_rule).2.2) (upd (upd m_acts x1.toNatClampNeg x2) (x1 + 1).toNatClampNeg (F_X10_number 1 m_read m_length m_top (m_at + 1) m_wrong m_text m_rule).1)) else (j_X10_readAct_97 po m_read m_length m_top m_text m_rule x1 x2 (m_at + 1) m_wrong (upd m_acts x1.toNatClampNeg x2))
noncomputable def F_X10_readAct (p0 : Int32) (m_read : Nat) (m_length : Int32) (m_top : Int32) (m_at : Int32) (m_wrong : Int32) (m_text : Nat → Int32) (m_rule : Nat → Int32) (m_acts : Nat → Int32) : Int32 × Int32 × (Nat → Int32) := if (F_X10_here m_read m_length m_top m_at m_text m_rule) = 109 then (j_X10_readAct_61 (fun o0 o1 o2 => (o0, o1, o2)) m_read m_length m_top m_text m_rule p0 (F_X10_here m_read m_length m_top m_at m_text m_rule) m_at m_wrong m_acts) else (if (F_X10_here m_read m_length m_top m_at m_text m_rule) = 112 then (j_X10_readAct_61 (fun o0 o1 o2 => (o0, o1, o2)) m_read m_length m_top m_text m_rule p0 (F_X10_here m_read m_length m_top m_at m_text m_rule) m_at m_wrong m_acts) else (if (F_X10_here m_read m_length m_top m_at m_text m_rule) = 104 then (j_X10_readAct_61 (fun o0 o1 o2 => (o0, o1, o2)) m_read m_length m_top m_text m_rule p0 (F_X10_here m_read m_length m_top m_at m_text m_rule) m_at m_wrong m_acts) else (if (F_X10_here m_read m_length m_top m_at m_text m_rule) = 100 then (j_X10_readAct_61 (fun o0 o1 o2 => (o0, o1, o2)) m_read m_length m_top m_text m_rule p0 (F_X10_here m_read m_length m_top m_at m_text m_rule) m_at m_wrong m_acts) else (if (F_X10_here m_read m_length m_top m_at m_text m_rule) = 107 then (j_X10_readAct_61 (fun o0 o1 o2 => (o0, o1, o2)) m_read m_length m_top m_text m_rule p0 (F_X10_here m_read m_length m_top m_at m_text m_rule) m_at m_wrong m_acts) else (if (F_X10_here m_read m_length m_top m_at m_text m_rule) = 97 then (j_X10_readAct_61 (fun o0 o1 o2 => (o0, o1, o2)) m_read m_length m_top m_text m_rule p0 (F_X10_here m_read m_length m_top m_at m_text m_rule) m_at m_wrong m_acts) else (if (F_X10_here m_read m_length m_top m_at m_text m_rule) = 111 then (j_X10_readAct_61 (fun o0 o1 o2 => (o0, o1, o2)) m_read m_length m_top m_text m_rule p0 (F_X10_here m_read m_length m_top m_at m_text m_rule) m_at m_wrong m_acts) else (if (F_X10_here m_read m_length m_top m_at m_text m_rule) = 122 then (j_X10_readAct_61 (fun o0 o1 o2 => (o0, o1, o2)) m_read m_length m_top m_text m_rule p0 (F_X10_here m_read m_length m_top m_at m_text m_rule) m_at m_wrong m_acts) else (j_X10_readAct_61 (fun o0 o1 o2 => (o0, o1, o2)) m_read m_length m_top m_text m_rule p0 (F_X10_here m_read m_length m_top m_at m_text m_rule) m_at (F_X10_fault m_at m_wrong) m_acts))))))))
set_option maxHeartbeats 200000 in
set_option maxRecDepth 10000 in
theorem dt_X10_readAct {P Q : Int32 → Int32 → (Nat → Int32) → Prop} {p0 : Int32} {m_read : Nat} {m_length : Int32} {m_top : Int32} {m_at : Int32} {m_wrong : Int32} {m_text : Nat → Int32} {m_rule : Nat → Int32} {m_acts : Nat → Int32} (h : wp_X10_readAct P p0 m_read m_length m_top m_at m_wrong m_text m_rule m_acts) (hq : ∀ o : Int32 × Int32 × (Nat → Int32), o = F_X10_readAct p0 m_read m_length m_top m_at m_wrong m_text m_rule m_acts → P o.1 o.2.1 o.2.2 → Q o.1 o.2.1 o.2.2) : wp_X10_readAct Q p0 m_read m_length m_top m_at m_wrong m_text m_rule m_acts := by
  rw [F_X10_readAct] at hq
  refine du_X10_here h ?_
  intro h
  refine And.intro (fun c1 => ?_) (fun c1 => ?_)
  · have h := And.left h c1
    rw [if_pos c1] at hq
    rw [j_X10_readAct_61] at hq
    unfold ws_X10_readAct_61 at h ⊢
    refine ae ?_
    have h := h _ rfl
    refine And.intro (And.left h) ?_
    have h := And.right h
    refine And.intro (fun c2 => ?_) (fun c2 => ?_)
    · have h := And.left h c2
      rw [if_neg c2] at hq
      rw [j_X10_readAct_97] at hq
      unfold ws_X10_readAct_97 at h ⊢
      refine And.intro (fun c3 => ?_) (fun c3 => ?_)
      · have h := And.left h c3
        rw [if_pos c3] at hq
        rw [j_X10_readAct_109] at hq
        unfold ws_X10_readAct_109 at h ⊢
        refine ae ?_
        have h := h _ rfl
        refine du_X10_number (by decide) h ?_
        intro h
        refine And.intro (And.left h) ?_
        have h := And.right h
        have q9 := hq _ rfl
        dsimp only at q9
        exact q9 h
      · have h := And.right h c3
        rw [if_neg c3] at hq
        refine And.intro (fun c4 => ?_) (fun c4 => ?_)
        · have h := And.left h c4
          rw [if_neg c4] at hq
          have q9 := hq _ rfl
          dsimp only at q9
          exact q9 h
        · have h := And.right h c4
          rw [if_pos c4] at hq
          rw [j_X10_readAct_109] at hq
          unfold ws_X10_readAct_109 at h ⊢
          refine ae ?_
          have h := h _ rfl
          refine du_X10_number (by decide) h ?_
          intro h
          refine And.intro (And.left h) ?_
          have h := And.right h
          have q9 := hq _ rfl
          dsimp only at q9
          exact q9 h
    · have h := And.right h c2
      rw [if_pos c2] at hq
      refine ae ?_
      have h := h _ rfl
      refine du_X10_number (by decide) h ?_
      intro h
      refine And.intro (And.left h) ?_
      have h := And.right h
      rw [j_X10_readAct_97] at hq
      unfold ws_X10_readAct_97 at h ⊢
      refine And.intro (fun c5 => ?_) (fun c5 => ?_)
      · have h := And.left h c5
        rw [if_pos c5] at hq
        rw [j_X10_readAct_109] at hq
        unfold ws_X10_readAct_109 at h ⊢
        refine ae ?_
        have h := h _ rfl
        refine du_X10_number (by decide) h ?_
        intro h
        refine And.intro (And.left h) ?_
        have h := And.right h
        have q9 := hq _ rfl
        dsimp only at q9
        exact q9 h
      · have h := And.right h c5
        rw [if_neg c5] at hq
        refine And.intro (fun c6 => ?_) (fun c6 => ?_)
        · have h := And.left h c6
          rw [if_neg c6] at hq
          have q9 := hq _ rfl
          dsimp only at q9
          exact q9 h
        · have h := And.right h c6
          rw [if_pos c6] at hq
          rw [j_X10_readAct_109] at hq
          unfold ws_X10_readAct_109 at h ⊢
          refine ae ?_
          have h := h _ rfl
          refine du_X10_number (by decide) h ?_
          intro h
          refine And.intro (And.left h) ?_
          have h := And.right h
          have q9 := hq _ rfl
          dsimp only at q9
          exact q9 h
  · have h := And.right h c1
    rw [if_neg c1] at hq
    refine And.intro (fun c7 => ?_) (fun c7 => ?_)
    · have h := And.left h c7
      rw [if_pos c7] at hq
      rw [j_X10_readAct_61] at hq
      unfold ws_X10_readAct_61 at h ⊢
      refine ae ?_
      have h := h _ rfl
      refine And.intro (And.left h) ?_
      have h := And.right h
      refine And.intro (fun c8 => ?_) (fun c8 => ?_)
      · have h := And.left h c8
        rw [if_neg c8] at hq
        rw [j_X10_readAct_97] at hq
        unfold ws_X10_readAct_97 at h ⊢
        refine And.intro (fun c9 => ?_) (fun c9 => ?_)
        · have h := And.left h c9
          rw [if_pos c9] at hq
          rw [j_X10_readAct_109] at hq
          unfold ws_X10_readAct_109 at h ⊢
          refine ae ?_
          have h := h _ rfl
          refine du_X10_number (by decide) h ?_
          intro h
          refine And.intro (And.left h) ?_
          have h := And.right h
          have q9 := hq _ rfl
          dsimp only at q9
          exact q9 h
        · have h := And.right h c9
          rw [if_neg c9] at hq
          refine And.intro (fun c10 => ?_) (fun c10 => ?_)
          · have h := And.left h c10
            rw [if_neg c10] at hq
            have q9 := hq _ rfl
            dsimp only at q9
            exact q9 h
          · have h := And.right h c10
            rw [if_pos c10] at hq
            rw [j_X10_readAct_109] at hq
            unfold ws_X10_readAct_109 at h ⊢
            refine ae ?_
            have h := h _ rfl
            refine du_X10_number (by decide) h ?_
            intro h
            refine And.intro (And.left h) ?_
            have h := And.right h
            have q9 := hq _ rfl
            dsimp only at q9
            exact q9 h
      · have h := And.right h c8
        rw [if_pos c8] at hq
        refine ae ?_
        have h := h _ rfl
        refine du_X10_number (by decide) h ?_
        intro h
        refine And.intro (And.left h) ?_
        have h := And.right h
        rw [j_X10_readAct_97] at hq
        unfold ws_X10_readAct_97 at h ⊢
        refine And.intro (fun c11 => ?_) (fun c11 => ?_)
        · have h := And.left h c11
          rw [if_pos c11] at hq
          rw [j_X10_readAct_109] at hq
          unfold ws_X10_readAct_109 at h ⊢
          refine ae ?_
          have h := h _ rfl
          refine du_X10_number (by decide) h ?_
          intro h
          refine And.intro (And.left h) ?_
          have h := And.right h
          have q9 := hq _ rfl
          dsimp only at q9
          exact q9 h
        · have h := And.right h c11
          rw [if_neg c11] at hq
          refine And.intro (fun c12 => ?_) (fun c12 => ?_)
          · have h := And.left h c12
            rw [if_neg c12] at hq
            have q9 := hq _ rfl
            dsimp only at q9
            exact q9 h
          · have h := And.right h c12
            rw [if_pos c12] at hq
            rw [j_X10_readAct_109] at hq
            unfold ws_X10_readAct_109 at h ⊢
            refine ae ?_
            have h := h _ rfl
            refine du_X10_number (by decide) h ?_
            intro h
            refine And.intro (And.left h) ?_
            have h := And.right h
            have q9 := hq _ rfl
            dsimp only at q9
            exact q9 h
    · have h := And.right h c7
      rw [if_neg c7] at hq
      refine And.intro (fun c13 => ?_) (fun c13 => ?_)
      · have h := And.left h c13
        rw [if_pos c13] at hq
        rw [j_X10_readAct_61] at hq
        unfold ws_X10_readAct_61 at h ⊢
        refine ae ?_
        have h := h _ rfl
        refine And.intro (And.left h) ?_
        have h := And.right h
        refine And.intro (fun c14 => ?_) (fun c14 => ?_)
        · have h := And.left h c14
          rw [if_neg c14] at hq
          rw [j_X10_readAct_97] at hq
          unfold ws_X10_readAct_97 at h ⊢
          refine And.intro (fun c15 => ?_) (fun c15 => ?_)
          · have h := And.left h c15
            rw [if_pos c15] at hq
            rw [j_X10_readAct_109] at hq
            unfold ws_X10_readAct_109 at h ⊢
            refine ae ?_
            have h := h _ rfl
            refine du_X10_number (by decide) h ?_
            intro h
            refine And.intro (And.left h) ?_
            have h := And.right h
            have q9 := hq _ rfl
            dsimp only at q9
            exact q9 h
          · have h := And.right h c15
            rw [if_neg c15] at hq
            refine And.intro (fun c16 => ?_) (fun c16 => ?_)
            · have h := And.left h c16
              rw [if_neg c16] at hq
              have q9 := hq _ rfl
              dsimp only at q9
              exact q9 h
            · have h := And.right h c16
              rw [if_pos c16] at hq
              rw [j_X10_readAct_109] at hq
              unfold ws_X10_readAct_109 at h ⊢
              refine ae ?_
              have h := h _ rfl
              refine du_X10_number (by decide) h ?_
              intro h
              refine And.intro (And.left h) ?_
              have h := And.right h
              have q9 := hq _ rfl
              dsimp only at q9
              exact q9 h
        · have h := And.right h c14
          rw [if_pos c14] at hq
          refine ae ?_
          have h := h _ rfl
          refine du_X10_number (by decide) h ?_
          intro h
          refine And.intro (And.left h) ?_
          have h := And.right h
          rw [j_X10_readAct_97] at hq
          unfold ws_X10_readAct_97 at h ⊢
          refine And.intro (fun c17 => ?_) (fun c17 => ?_)
          · have h := And.left h c17
            rw [if_pos c17] at hq
            rw [j_X10_readAct_109] at hq
            unfold ws_X10_readAct_109 at h ⊢
            refine ae ?_
            have h := h _ rfl
            refine du_X10_number (by decide) h ?_
            intro h
            refine And.intro (And.left h) ?_
            have h := And.right h
            have q9 := hq _ rfl
            dsimp only at q9
            exact q9 h
          · have h := And.right h c17
            rw [if_neg c17] at hq
            refine And.intro (fun c18 => ?_) (fun c18 => ?_)
            · have h := And.left h c18
              rw [if_neg c18] at hq
              have q9 := hq _ rfl
              dsimp only at q9
              exact q9 h
            · have h := And.right h c18
              rw [if_pos c18] at hq
              rw [j_X10_readAct_109] at hq
              unfold ws_X10_readAct_109 at h ⊢
              refine ae ?_
              have h := h _ rfl
              refine du_X10_number (by decide) h ?_
              intro h
              refine And.intro (And.left h) ?_
              have h := And.right h
              have q9 := hq _ rfl
              dsimp only at q9
              exact q9 h
      · have h := And.right h c13
        rw [if_neg c13] at hq
        refine And.intro (fun c19 => ?_) (fun c19 => ?_)
        · have h := And.left h c19
          rw [if_pos c19] at hq
          rw [j_X10_readAct_61] at hq
          unfold ws_X10_readAct_61 at h ⊢
          refine ae ?_
          have h := h _ rfl
          refine And.intro (And.left h) ?_
          have h := And.right h
          refine And.intro (fun c20 => ?_) (fun c20 => ?_)
          · have h := And.left h c20
            rw [if_neg c20] at hq
            rw [j_X10_readAct_97] at hq
            unfold ws_X10_readAct_97 at h ⊢
            refine And.intro (fun c21 => ?_) (fun c21 => ?_)
            · have h := And.left h c21
              rw [if_pos c21] at hq
              rw [j_X10_readAct_109] at hq
              unfold ws_X10_readAct_109 at h ⊢
              refine ae ?_
              have h := h _ rfl
              refine du_X10_number (by decide) h ?_
              intro h
              refine And.intro (And.left h) ?_
              have h := And.right h
              have q9 := hq _ rfl
              dsimp only at q9
              exact q9 h
            · have h := And.right h c21
              rw [if_neg c21] at hq
              refine And.intro (fun c22 => ?_) (fun c22 => ?_)
              · have h := And.left h c22
                rw [if_neg c22] at hq
                have q9 := hq _ rfl
                dsimp only at q9
                exact q9 h
              · have h := And.right h c22
                rw [if_pos c22] at hq
                rw [j_X10_readAct_109] at hq
                unfold ws_X10_readAct_109 at h ⊢
                refine ae ?_
                have h := h _ rfl
                refine du_X10_number (by decide) h ?_
                intro h
                refine And.intro (And.left h) ?_
                have h := And.right h
                have q9 := hq _ rfl
                dsimp only at q9
                exact q9 h
          · have h := And.right h c20
            rw [if_pos c20] at hq
            refine ae ?_
            have h := h _ rfl
            refine du_X10_number (by decide) h ?_
            intro h
            refine And.intro (And.left h) ?_
            have h := And.right h
            rw [j_X10_readAct_97] at hq
            unfold ws_X10_readAct_97 at h ⊢
            refine And.intro (fun c23 => ?_) (fun c23 => ?_)
            · have h := And.left h c23
              rw [if_pos c23] at hq
              rw [j_X10_readAct_109] at hq
              unfold ws_X10_readAct_109 at h ⊢
              refine ae ?_
              have h := h _ rfl
              refine du_X10_number (by decide) h ?_
              intro h
              refine And.intro (And.left h) ?_
              have h := And.right h
              have q9 := hq _ rfl
              dsimp only at q9
              exact q9 h
            · have h := And.right h c23
              rw [if_neg c23] at hq
              refine And.intro (fun c24 => ?_) (fun c24 => ?_)
              · have h := And.left h c24
                rw [if_neg c24] at hq
                have q9 := hq _ rfl
                dsimp only at q9
                exact q9 h
              · have h := And.right h c24
                rw [if_pos c24] at hq
                rw [j_X10_readAct_109] at hq
                unfold ws_X10_readAct_109 at h ⊢
                refine ae ?_
                have h := h _ rfl
                refine du_X10_number (by decide) h ?_
                intro h
                refine And.intro (And.left h) ?_
                have h := And.right h
                have q9 := hq _ rfl
                dsimp only at q9
                exact q9 h
        · have h := And.right h c19
          rw [if_neg c19] at hq
          refine And.intro (fun c25 => ?_) (fun c25 => ?_)
          · have h := And.left h c25
            rw [if_pos c25] at hq
            rw [j_X10_readAct_61] at hq
            unfold ws_X10_readAct_61 at h ⊢
            refine ae ?_
            have h := h _ rfl
            refine And.intro (And.left h) ?_
            have h := And.right h
            refine And.intro (fun c26 => ?_) (fun c26 => ?_)
            · have h := And.left h c26
              rw [if_neg c26] at hq
              rw [j_X10_readAct_97] at hq
              unfold ws_X10_readAct_97 at h ⊢
              refine And.intro (fun c27 => ?_) (fun c27 => ?_)
              · have h := And.left h c27
                rw [if_pos c27] at hq
                rw [j_X10_readAct_109] at hq
                unfold ws_X10_readAct_109 at h ⊢
                refine ae ?_
                have h := h _ rfl
                refine du_X10_number (by decide) h ?_
                intro h
                refine And.intro (And.left h) ?_
                have h := And.right h
                have q9 := hq _ rfl
                dsimp only at q9
                exact q9 h
              · have h := And.right h c27
                rw [if_neg c27] at hq
                refine And.intro (fun c28 => ?_) (fun c28 => ?_)
                · have h := And.left h c28
                  rw [if_neg c28] at hq
                  have q9 := hq _ rfl
                  dsimp only at q9
                  exact q9 h
                · have h := And.right h c28
                  rw [if_pos c28] at hq
                  rw [j_X10_readAct_109] at hq
                  unfold ws_X10_readAct_109 at h ⊢
                  refine ae ?_
                  have h := h _ rfl
                  refine du_X10_number (by decide) h ?_
                  intro h
                  refine And.intro (And.left h) ?_
                  have h := And.right h
                  have q9 := hq _ rfl
                  dsimp only at q9
                  exact q9 h
            · have h := And.right h c26
              rw [if_pos c26] at hq
              refine ae ?_
              have h := h _ rfl
              refine du_X10_number (by decide) h ?_
              intro h
              refine And.intro (And.left h) ?_
              have h := And.right h
              rw [j_X10_readAct_97] at hq
              unfold ws_X10_readAct_97 at h ⊢
              refine And.intro (fun c29 => ?_) (fun c29 => ?_)
              · have h := And.left h c29
                rw [if_pos c29] at hq
                rw [j_X10_readAct_109] at hq
                unfold ws_X10_readAct_109 at h ⊢
                refine ae ?_
                have h := h _ rfl
                refine du_X10_number (by decide) h ?_
                intro h
                refine And.intro (And.left h) ?_
                have h := And.right h
                have q9 := hq _ rfl
                dsimp only at q9
                exact q9 h
              · have h := And.right h c29
                rw [if_neg c29] at hq
                refine And.intro (fun c30 => ?_) (fun c30 => ?_)
                · have h := And.left h c30
                  rw [if_neg c30] at hq
                  have q9 := hq _ rfl
                  dsimp only at q9
                  exact q9 h
                · have h := And.right h c30
                  rw [if_pos c30] at hq
                  rw [j_X10_readAct_109] at hq
                  unfold ws_X10_readAct_109 at h ⊢
                  refine ae ?_
                  have h := h _ rfl
                  refine du_X10_number (by decide) h ?_
                  intro h
                  refine And.intro (And.left h) ?_
                  have h := And.right h
                  have q9 := hq _ rfl
                  dsimp only at q9
                  exact q9 h
          · have h := And.right h c25
            rw [if_neg c25] at hq
            refine And.intro (fun c31 => ?_) (fun c31 => ?_)
            · have h := And.left h c31
              rw [if_pos c31] at hq
              rw [j_X10_readAct_61] at hq
              unfold ws_X10_readAct_61 at h ⊢
              refine ae ?_
              have h := h _ rfl
              refine And.intro (And.left h) ?_
              have h := And.right h
              refine And.intro (fun c32 => ?_) (fun c32 => ?_)
              · have h := And.left h c32
                rw [if_neg c32] at hq
                rw [j_X10_readAct_97] at hq
                unfold ws_X10_readAct_97 at h ⊢
                refine And.intro (fun c33 => ?_) (fun c33 => ?_)
                · have h := And.left h c33
                  rw [if_pos c33] at hq
                  rw [j_X10_readAct_109] at hq
                  unfold ws_X10_readAct_109 at h ⊢
                  refine ae ?_
                  have h := h _ rfl
                  refine du_X10_number (by decide) h ?_
                  intro h
                  refine And.intro (And.left h) ?_
                  have h := And.right h
                  have q9 := hq _ rfl
                  dsimp only at q9
                  exact q9 h
                · have h := And.right h c33
                  rw [if_neg c33] at hq
                  refine And.intro (fun c34 => ?_) (fun c34 => ?_)
                  · have h := And.left h c34
                    rw [if_neg c34] at hq
                    have q9 := hq _ rfl
                    dsimp only at q9
                    exact q9 h
                  · have h := And.right h c34
                    rw [if_pos c34] at hq
                    rw [j_X10_readAct_109] at hq
                    unfold ws_X10_readAct_109 at h ⊢
                    refine ae ?_
                    have h := h _ rfl
                    refine du_X10_number (by decide) h ?_
                    intro h
                    refine And.intro (And.left h) ?_
                    have h := And.right h
                    have q9 := hq _ rfl
                    dsimp only at q9
                    exact q9 h
              · have h := And.right h c32
                rw [if_pos c32] at hq
                refine ae ?_
                have h := h _ rfl
                refine du_X10_number (by decide) h ?_
                intro h
                refine And.intro (And.left h) ?_
                have h := And.right h
                rw [j_X10_readAct_97] at hq
                unfold ws_X10_readAct_97 at h ⊢
                refine And.intro (fun c35 => ?_) (fun c35 => ?_)
                · have h := And.left h c35
                  rw [if_pos c35] at hq
                  rw [j_X10_readAct_109] at hq
                  unfold ws_X10_readAct_109 at h ⊢
                  refine ae ?_
                  have h := h _ rfl
                  refine du_X10_number (by decide) h ?_
                  intro h
                  refine And.intro (And.left h) ?_
                  have h := And.right h
                  have q9 := hq _ rfl
                  dsimp only at q9
                  exact q9 h
                · have h := And.right h c35
                  rw [if_neg c35] at hq
                  refine And.intro (fun c36 => ?_) (fun c36 => ?_)
                  · have h := And.left h c36
                    rw [if_neg c36] at hq
                    have q9 := hq _ rfl
                    dsimp only at q9
                    exact q9 h
                  · have h := And.right h c36
                    rw [if_pos c36] at hq
                    rw [j_X10_readAct_109] at hq
                    unfold ws_X10_readAct_109 at h ⊢
                    refine ae ?_
                    have h := h _ rfl
                    refine du_X10_number (by decide) h ?_
                    intro h
                    refine And.intro (And.left h) ?_
                    have h := And.right h
                    have q9 := hq _ rfl
                    dsimp only at q9
                    exact q9 h
            · have h := And.right h c31
              rw [if_neg c31] at hq
              refine And.intro (fun c37 => ?_) (fun c37 => ?_)
              · have h := And.left h c37
                rw [if_pos c37] at hq
                rw [j_X10_readAct_61] at hq
                unfold ws_X10_readAct_61 at h ⊢
                refine ae ?_
                have h := h _ rfl
                refine And.intro (And.left h) ?_
                have h := And.right h
                refine And.intro (fun c38 => ?_) (fun c38 => ?_)
                · have h := And.left h c38
                  rw [if_neg c38] at hq
                  rw [j_X10_readAct_97] at hq
                  unfold ws_X10_readAct_97 at h ⊢
                  refine And.intro (fun c39 => ?_) (fun c39 => ?_)
                  · have h := And.left h c39
                    rw [if_pos c39] at hq
                    rw [j_X10_readAct_109] at hq
                    unfold ws_X10_readAct_109 at h ⊢
                    refine ae ?_
                    have h := h _ rfl
                    refine du_X10_number (by decide) h ?_
                    intro h
                    refine And.intro (And.left h) ?_
                    have h := And.right h
                    have q9 := hq _ rfl
                    dsimp only at q9
                    exact q9 h
                  · have h := And.right h c39
                    rw [if_neg c39] at hq
                    refine And.intro (fun c40 => ?_) (fun c40 => ?_)
                    · have h := And.left h c40
                      rw [if_neg c40] at hq
                      have q9 := hq _ rfl
                      dsimp only at q9
                      exact q9 h
                    · have h := And.right h c40
                      rw [if_pos c40] at hq
                      rw [j_X10_readAct_109] at hq
                      unfold ws_X10_readAct_109 at h ⊢
                      refine ae ?_
                      have h := h _ rfl
                      refine du_X10_number (by decide) h ?_
                      intro h
                      refine And.intro (And.left h) ?_
                      have h := And.right h
                      have q9 := hq _ rfl
                      dsimp only at q9
                      exact q9 h
                · have h := And.right h c38
                  rw [if_pos c38] at hq
                  refine ae ?_
                  have h := h _ rfl
                  refine du_X10_number (by decide) h ?_
                  intro h
                  refine And.intro (And.left h) ?_
                  have h := And.right h
                  rw [j_X10_readAct_97] at hq
                  unfold ws_X10_readAct_97 at h ⊢
                  refine And.intro (fun c41 => ?_) (fun c41 => ?_)
                  · have h := And.left h c41
                    rw [if_pos c41] at hq
                    rw [j_X10_readAct_109] at hq
                    unfold ws_X10_readAct_109 at h ⊢
                    refine ae ?_
                    have h := h _ rfl
                    refine du_X10_number (by decide) h ?_
                    intro h
                    refine And.intro (And.left h) ?_
                    have h := And.right h
                    have q9 := hq _ rfl
                    dsimp only at q9
                    exact q9 h
                  · have h := And.right h c41
                    rw [if_neg c41] at hq
                    refine And.intro (fun c42 => ?_) (fun c42 => ?_)
                    · have h := And.left h c42
                      rw [if_neg c42] at hq
                      have q9 := hq _ rfl
                      dsimp only at q9
                      exact q9 h
                    · have h := And.right h c42
                      rw [if_pos c42] at hq
                      rw [j_X10_readAct_109] at hq
                      unfold ws_X10_readAct_109 at h ⊢
                      refine ae ?_
                      have h := h _ rfl
                      refine du_X10_number (by decide) h ?_
                      intro h
                      refine And.intro (And.left h) ?_
                      have h := And.right h
                      have q9 := hq _ rfl
                      dsimp only at q9
                      exact q9 h
              · have h := And.right h c37
                rw [if_neg c37] at hq
                refine And.intro (fun c43 => ?_) (fun c43 => ?_)
                · have h := And.left h c43
                  rw [if_pos c43] at hq
                  rw [j_X10_readAct_61] at hq
                  unfold ws_X10_readAct_61 at h ⊢
                  refine ae ?_
                  have h := h _ rfl
                  refine And.intro (And.left h) ?_
                  have h := And.right h
                  refine And.intro (fun c44 => ?_) (fun c44 => ?_)
                  · have h := And.left h c44
                    rw [if_neg c44] at hq
                    rw [j_X10_readAct_97] at hq
                    unfold ws_X10_readAct_97 at h ⊢
                    refine And.intro (fun c45 => ?_) (fun c45 => ?_)
                    · have h := And.left h c45
                      rw [if_pos c45] at hq
                      rw [j_X10_readAct_109] at hq
                      unfold ws_X10_readAct_109 at h ⊢
                      refine ae ?_
                      have h := h _ rfl
                      refine du_X10_number (by decide) h ?_
                      intro h
                      refine And.intro (And.left h) ?_
                      have h := And.right h
                      have q9 := hq _ rfl
                      dsimp only at q9
                      exact q9 h
                    · have h := And.right h c45
                      rw [if_neg c45] at hq
                      refine And.intro (fun c46 => ?_) (fun c46 => ?_)
                      · have h := And.left h c46
                        rw [if_neg c46] at hq
                        have q9 := hq _ rfl
                        dsimp only at q9
                        exact q9 h
                      · have h := And.right h c46
                        rw [if_pos c46] at hq
                        rw [j_X10_readAct_109] at hq
                        unfold ws_X10_readAct_109 at h ⊢
                        refine ae ?_
                        have h := h _ rfl
                        refine du_X10_number (by decide) h ?_
                        intro h
                        refine And.intro (And.left h) ?_
                        have h := And.right h
                        have q9 := hq _ rfl
                        dsimp only at q9
                        exact q9 h
                  · have h := And.right h c44
                    rw [if_pos c44] at hq
                    refine ae ?_
                    have h := h _ rfl
                    refine du_X10_number (by decide) h ?_
                    intro h
                    refine And.intro (And.left h) ?_
                    have h := And.right h
                    rw [j_X10_readAct_97] at hq
                    unfold ws_X10_readAct_97 at h ⊢
                    refine And.intro (fun c47 => ?_) (fun c47 => ?_)
                    · have h := And.left h c47
                      rw [if_pos c47] at hq
                      rw [j_X10_readAct_109] at hq
                      unfold ws_X10_readAct_109 at h ⊢
                      refine ae ?_
                      have h := h _ rfl
                      refine du_X10_number (by decide) h ?_
                      intro h
                      refine And.intro (And.left h) ?_
                      have h := And.right h
                      have q9 := hq _ rfl
                      dsimp only at q9
                      exact q9 h
                    · have h := And.right h c47
                      rw [if_neg c47] at hq
                      refine And.intro (fun c48 => ?_) (fun c48 => ?_)
                      · have h := And.left h c48
                        rw [if_neg c48] at hq
                        have q9 := hq _ rfl
                        dsimp only at q9
                        exact q9 h
                      · have h := And.right h c48
                        rw [if_pos c48] at hq
                        rw [j_X10_readAct_109] at hq
                        unfold ws_X10_readAct_109 at h ⊢
                        refine ae ?_
                        have h := h _ rfl
                        refine du_X10_number (by decide) h ?_
                        intro h
                        refine And.intro (And.left h) ?_
                        have h := And.right h
                        have q9 := hq _ rfl
                        dsimp only at q9
                        exact q9 h
                · have h := And.right h c43
                  rw [if_neg c43] at hq
                  refine du_X10_fault h ?_
                  intro h
                  rw [j_X10_readAct_61] at hq
                  unfold ws_X10_readAct_61 at h ⊢
                  refine ae ?_
                  have h := h _ rfl
                  refine And.intro (And.left h) ?_
                  have h := And.right h
                  refine And.intro (fun c49 => ?_) (fun c49 => ?_)
                  · have h := And.left h c49
                    rw [if_neg c49] at hq
                    rw [j_X10_readAct_97] at hq
                    unfold ws_X10_readAct_97 at h ⊢
                    refine And.intro (fun c50 => ?_) (fun c50 => ?_)
                    · have h := And.left h c50
                      rw [if_pos c50] at hq
                      rw [j_X10_readAct_109] at hq
                      unfold ws_X10_readAct_109 at h ⊢
                      refine ae ?_
                      have h := h _ rfl
                      refine du_X10_number (by decide) h ?_
                      intro h
                      refine And.intro (And.left h) ?_
                      have h := And.right h
                      have q9 := hq _ rfl
                      dsimp only at q9
                      exact q9 h
                    · have h := And.right h c50
                      rw [if_neg c50] at hq
                      refine And.intro (fun c51 => ?_) (fun c51 => ?_)
                      · have h := And.left h c51
                        rw [if_neg c51] at hq
                        have q9 := hq _ rfl
                        dsimp only at q9
                        exact q9 h
                      · have h := And.right h c51
                        rw [if_pos c51] at hq
                        rw [j_X10_readAct_109] at hq
                        unfold ws_X10_readAct_109 at h ⊢
                        refine ae ?_
                        have h := h _ rfl
                        refine du_X10_number (by decide) h ?_
                        intro h
                        refine And.intro (And.left h) ?_
                        have h := And.right h
                        have q9 := hq _ rfl
                        dsimp only at q9
                        exact q9 h
                  · have h := And.right h c49
                    rw [if_pos c49] at hq
                    refine ae ?_
                    have h := h _ rfl
                    refine du_X10_number (by decide) h ?_
                    intro h
                    refine And.intro (And.left h) ?_
                    have h := And.right h
                    rw [j_X10_readAct_97] at hq
                    unfold ws_X10_readAct_97 at h ⊢
                    refine And.intro (fun c52 => ?_) (fun c52 => ?_)
                    · have h := And.left h c52
                      rw [if_pos c52] at hq
                      rw [j_X10_readAct_109] at hq
                      unfold ws_X10_readAct_109 at h ⊢
                      refine ae ?_
                      have h := h _ rfl
                      refine du_X10_number (by decide) h ?_
                      intro h
                      refine And.intro (And.left h) ?_
                      have h := And.right h
                      have q9 := hq _ rfl
                      dsimp only at q9
                      exact q9 h
                    · have h := And.right h c52
                      rw [if_neg c52] at hq
                      refine And.intro (fun c53 => ?_) (fun c53 => ?_)
                      · have h := And.left h c53
                        rw [if_neg c53] at hq
                        have q9 := hq _ rfl
                        dsimp only at q9
                        exact q9 h
                      · have h := And.right h c53
                        rw [if_pos c53] at hq
                        rw [j_X10_readAct_109] at hq
                        unfold ws_X10_readAct_109 at h ⊢
                        refine ae ?_
                        have h := h _ rfl
                        refine du_X10_number (by decide) h ?_
                        intro h
                        refine And.intro (And.left h) ?_
                        have h := And.right h
                        have q9 := hq _ rfl
                        dsimp only at q9
                        exact q9 h
theorem du_X10_readAct {P Q : Int32 → Int32 → (Nat → Int32) → Prop} {p0 : Int32} {m_read : Nat} {m_length : Int32} {m_top : Int32} {m_at : Int32} {m_wrong : Int32} {m_text : Nat → Int32} {m_rule : Nat → Int32} {m_acts : Nat → Int32} (h : wp_X10_readAct P p0 m_read m_length m_top m_at m_wrong m_text m_rule m_acts) (hq : P (F_X10_readAct p0 m_read m_length m_top m_at m_wrong m_text m_rule m_acts).1 (F_X10_readAct p0 m_read m_length m_top m_at m_wrong m_text m_rule m_acts).2.1 (F_X10_readAct p0 m_read m_length m_top m_at m_wrong m_text m_rule m_acts).2.2 → Q (F_X10_readAct p0 m_read m_length m_top m_at m_wrong m_text m_rule m_acts).1 (F_X10_readAct p0 m_read m_length m_top m_at m_wrong m_text m_rule m_acts).2.1 (F_X10_readAct p0 m_read m_length m_top m_at m_wrong m_text m_rule m_acts).2.2) : wp_X10_readAct Q p0 m_read m_length m_top m_at m_wrong m_text m_rule m_acts := dt_X10_readAct h (fun o eo => by rw [eo]; exact hq)
theorem dw_X10_readAct {Q : Int32 → Int32 → (Nat → Int32) → Prop} {p0 : Int32} {m_read : Nat} {m_length : Int32} {m_top : Int32} {m_at : Int32} {m_wrong : Int32} {m_text : Nat → Int32} {m_rule : Nat → Int32} {m_acts : Nat → Int32} (h : wp_X10_readAct (fun o0 o1 o2 => (o0, o1, o2) = F_X10_readAct p0 m_read m_length m_top m_at m_wrong m_text m_rule m_acts → Q o0 o1 o2) p0 m_read m_length m_top m_at m_wrong m_text m_rule m_acts) : wp_X10_readAct Q p0 m_read m_length m_top m_at m_wrong m_text m_rule m_acts := dt_X10_readAct h (fun o eo hp => hp eo)
noncomputable def bd_X10_lay_b2_2 (m_now : Nat → Int32) (x2 : Int32) (c : Int32) (s : (Nat → Int32)) : (Nat → Int32) := (upd s (x2 + c).toNatClampNeg (m_now c.toNatClampNeg))
noncomputable def ex_X10_lay_b2_2 {R : Type} (po : (Nat → Int32) → R) (m_now : Nat → Int32) (x2 : Int32) (c : Int32) (s : (Nat → Int32)) : R := po s
set_option maxHeartbeats 200000 in
set_option maxRecDepth 10000 in
theorem dl_X10_lay_b2_2 {P Q : (Nat → Int32) → Prop} {m_now : Nat → Int32} {x2 : Int32} {a : (Nat → Int32)} {i : Nat} (hi0 : i < 2147483648) (hE : ∀ (c : Int32) (s : (Nat → Int32)), c = nI (i + (Int32.toInt 21 - ((i : Nat) : Int)).toNat) → s = itr (bd_X10_lay_b2_2 m_now x2) a i (Int32.toInt 21 - ((i : Nat) : Int)).toNat → (P s) → (Q s)) : ∀ (n k : Nat) (c : Int32), c = nI (i + k) → k ≤ (Int32.toInt 21 - ((i : Nat) : Int)).toNat → wb_X10_lay_b2_2 P m_now n x2 c (itr (bd_X10_lay_b2_2 m_now x2) a i k) → wb_X10_lay_b2_2 Q m_now n x2 c (itr (bd_X10_lay_b2_2 m_now x2) a i k) := by
  intro n
  induction n with
  | zero => intro k c hc hk h; exact False.elim h
  | succ n ih =>
    intro k c hc hk h
    have hr := tp_r 21
    have hi : Int32.toInt c = ((i + k : Nat) : Int) := by rw [hc]; exact nI_toInt (by omega)
    refine And.intro (fun t0 => ?_) (fun t0 => ?_)
    · have h := And.left h t0
      have t1 := (fa_le _ _).mp t0
      have hk2 : k = (Int32.toInt 21 - ((i : Nat) : Int)).toNat := by omega
      subst hk2
      exact hE _ _ hc rfl h
    · have h := And.right h t0
      have t1 := mt (fa_le _ _).mpr t0
      have hs : ∀ o : (Nat → Int32), o = itr (bd_X10_lay_b2_2 m_now x2) a i (k + 1) → wb_X10_lay_b2_2 P m_now n x2 (c + 1) o → wb_X10_lay_b2_2 Q m_now n x2 (c + 1) o := by
        intro o eo h9
        have q := ih (k + 1) (c + 1) (by rw [hc]; exact nI_1 _) (by omega)
        rw [← eo] at q
        exact q h9
      rw [itr_s, ← hc, bd_X10_lay_b2_2] at hs
      refine ae ?_
      have h := h _ rfl
      refine And.intro (And.left h) ?_
      have h := And.right h
      refine ae ?_
      have h := h _ rfl
      refine And.intro (And.left h) ?_
      have h := And.right h
      refine ae ?_
      have h := h _ rfl
      have q9 := hs _ rfl
      exact q9 h
noncomputable def F_X10_lay_b2 (p2 : Int32) (m_now : Nat → Int32) (m_aside : Nat → Int32) : (Nat → Int32) := ex_X10_lay_b2_2 (fun o0 => o0) m_now p2 (nI (0 + (Int32.toInt 21 - ((0 : Nat) : Int)).toNat)) (itr (bd_X10_lay_b2_2 m_now p2) m_aside 0 (Int32.toInt 21 - ((0 : Nat) : Int)).toNat)
set_option maxHeartbeats 200000 in
set_option maxRecDepth 10000 in
theorem dt_X10_lay_b2 {P Q : (Nat → Int32) → Prop} {p2 : Int32} {m_now : Nat → Int32} {m_aside : Nat → Int32} (h : wp_X10_lay_b2 P p2 m_now m_aside) (hq : ∀ o : (Nat → Int32), o = F_X10_lay_b2 p2 m_now m_aside → P o → Q o) : wp_X10_lay_b2 Q p2 m_now m_aside := by
  rw [F_X10_lay_b2] at hq
  obtain ⟨n1, h⟩ := h
  refine ⟨n1, dl_X10_lay_b2_2 (a := m_aside) (i := 0) (by decide) ?_ n1 0 0 (by decide) (Nat.zero_le _) h⟩
  intro cc2 s3 ec4 es5 h
  rw [← ec4, ← es5, ex_X10_lay_b2_2] at hq
  have q9 := hq _ rfl
  exact q9 h
theorem du_X10_lay_b2 {P Q : (Nat → Int32) → Prop} {p2 : Int32} {m_now : Nat → Int32} {m_aside : Nat → Int32} (h : wp_X10_lay_b2 P p2 m_now m_aside) (hq : P (F_X10_lay_b2 p2 m_now m_aside) → Q (F_X10_lay_b2 p2 m_now m_aside)) : wp_X10_lay_b2 Q p2 m_now m_aside := dt_X10_lay_b2 h (fun o eo => by rw [eo]; exact hq)
theorem dw_X10_lay_b2 {Q : (Nat → Int32) → Prop} {p2 : Int32} {m_now : Nat → Int32} {m_aside : Nat → Int32} (h : wp_X10_lay_b2 (fun o0 => o0 = F_X10_lay_b2 p2 m_now m_aside → Q o0) p2 m_now m_aside) : wp_X10_lay_b2 Q p2 m_now m_aside := dt_X10_lay_b2 h (fun o eo hp => hp eo)
noncomputable def bd_X10_lay_b3_2 (m_aside : Nat → Int32) (x2 : Int32) (c : Int32) (s : (Nat → Int32)) : (Nat → Int32) := (upd s (x2 + c).toNatClampNeg (m_aside c.toNatClampNeg))
noncomputable def ex_X10_lay_b3_2 {R : Type} (po : (Nat → Int32) → R) (m_aside : Nat → Int32) (x2 : Int32) (c : Int32) (s : (Nat → Int32)) : R := po s
set_option maxHeartbeats 200000 in
set_option maxRecDepth 10000 in
theorem dl_X10_lay_b3_2 {P Q : (Nat → Int32) → Prop} {m_aside : Nat → Int32} {x2 : Int32} {a : (Nat → Int32)} {i : Nat} (hi0 : i < 2147483648) (hE : ∀ (c : Int32) (s : (Nat → Int32)), c = nI (i + (Int32.toInt 21 - ((i : Nat) : Int)).toNat) → s = itr (bd_X10_lay_b3_2 m_aside x2) a i (Int32.toInt 21 - ((i : Nat) : Int)).toNat → (P s) → (Q s)) : ∀ (n k : Nat) (c : Int32), c = nI (i + k) → k ≤ (Int32.toInt 21 - ((i : Nat) : Int)).toNat → wb_X10_lay_b3_2 P m_aside n x2 c (itr (bd_X10_lay_b3_2 m_aside x2) a i k) → wb_X10_lay_b3_2 Q m_aside n x2 c (itr (bd_X10_lay_b3_2 m_aside x2) a i k) := by
  intro n
  induction n with
  | zero => intro k c hc hk h; exact False.elim h
  | succ n ih =>
    intro k c hc hk h
    have hr := tp_r 21
    have hi : Int32.toInt c = ((i + k : Nat) : Int) := by rw [hc]; exact nI_toInt (by omega)
    refine And.intro (fun t0 => ?_) (fun t0 => ?_)
    · have h := And.left h t0
      have t1 := (fa_le _ _).mp t0
      have hk2 : k = (Int32.toInt 21 - ((i : Nat) : Int)).toNat := by omega
      subst hk2
      exact hE _ _ hc rfl h
    · have h := And.right h t0
      have t1 := mt (fa_le _ _).mpr t0
      have hs : ∀ o : (Nat → Int32), o = itr (bd_X10_lay_b3_2 m_aside x2) a i (k + 1) → wb_X10_lay_b3_2 P m_aside n x2 (c + 1) o → wb_X10_lay_b3_2 Q m_aside n x2 (c + 1) o := by
        intro o eo h9
        have q := ih (k + 1) (c + 1) (by rw [hc]; exact nI_1 _) (by omega)
        rw [← eo] at q
        exact q h9
      rw [itr_s, ← hc, bd_X10_lay_b3_2] at hs
      refine ae ?_
      have h := h _ rfl
      refine And.intro (And.left h) ?_
      have h := And.right h
      refine ae ?_
      have h := h _ rfl
      refine And.intro (And.left h) ?_
      have h := And.right h
      refine ae ?_
      have h := h _ rfl
      have q9 := hs _ rfl
      exact q9 h
noncomputable def F_X10_lay_b3 (p2 : Int32) (m_undos : Nat → Int32) (m_aside : Nat → Int32) : (Nat → Int32) := ex_X10_lay_b3_2 (fun o0 => o0) m_aside p2 (nI (0 + (Int32.toInt 21 - ((0 : Nat) : Int)).toNat)) (itr (bd_X10_lay_b3_2 m_aside p2) m_undos 0 (Int32.toInt 21 - ((0 : Nat) : Int)).toNat)
set_option maxHeartbeats 200000 in
set_option maxRecDepth 10000 in
theorem dt_X10_lay_b3 {P Q : (Nat → Int32) → Prop} {p2 : Int32} {m_undos : Nat → Int32} {m_aside : Nat → Int32} (h : wp_X10_lay_b3 P p2 m_undos m_aside) (hq : ∀ o : (Nat → Int32), o = F_X10_lay_b3 p2 m_undos m_aside → P o → Q o) : wp_X10_lay_b3 Q p2 m_undos m_aside := by
  rw [F_X10_lay_b3] at hq
  obtain ⟨n1, h⟩ := h
  refine ⟨n1, dl_X10_lay_b3_2 (a := m_undos) (i := 0) (by decide) ?_ n1 0 0 (by decide) (Nat.zero_le _) h⟩
  intro cc2 s3 ec4 es5 h
  rw [← ec4, ← es5, ex_X10_lay_b3_2] at hq
  have q9 := hq _ rfl
  exact q9 h
theorem du_X10_lay_b3 {P Q : (Nat → Int32) → Prop} {p2 : Int32} {m_undos : Nat → Int32} {m_aside : Nat → Int32} (h : wp_X10_lay_b3 P p2 m_undos m_aside) (hq : P (F_X10_lay_b3 p2 m_undos m_aside) → Q (F_X10_lay_b3 p2 m_undos m_aside)) : wp_X10_lay_b3 Q p2 m_undos m_aside := dt_X10_lay_b3 h (fun o eo => by rw [eo]; exact hq)
theorem dw_X10_lay_b3 {Q : (Nat → Int32) → Prop} {p2 : Int32} {m_undos : Nat → Int32} {m_aside : Nat → Int32} (h : wp_X10_lay_b3 (fun o0 => o0 = F_X10_lay_b3 p2 m_undos m_aside → Q o0) p2 m_undos m_aside) : wp_X10_lay_b3 Q p2 m_undos m_aside := dt_X10_lay_b3 h (fun o eo hp => hp eo)
noncomputable def bd_X10_remember_b2_11 (m_aside : Nat → Int32) (m_undoMany : Int32) (c : Int32) (s : (Nat → Int32)) : (Nat → Int32) := (upd s c.toNatClampNeg (s (c + 21).toNatClampNeg))
noncomputable def j_X10_remember_b2_49 {R : Type} (po : Int32 → (Nat → Int32) → R) (m_aside : Nat → Int32) (m_undoMany : Int32) (m_undos : Nat → Int32) : R := po (m_undoMany + 1) (F_X10_lay_b3 (21 * m_undoMany) m_undos m_aside)
noncomputable def ex_X10_remember_b2_11 {R : Type} (po : Int32 → (Nat → Int32) → R) (m_aside : Nat → Int32) (m_undoMany : Int32) (c : Int32) (s : (Nat → Int32)) : R := j_X10_remember_b2_49 po m_aside (m_undoMany - 1) s
set_option maxHeartbeats 200000 in
set_option maxRecDepth 10000 in
theorem dl_X10_remember_b2_11 {P Q : Int32 → (Nat → Int32) → Prop} {m_aside : Nat → Int32} {m_undoMany : Int32} {a : (Nat → Int32)} {i : Nat} (hi0 : i < 2147483648) (hE : ∀ (c : Int32) (s : (Nat → Int32)), c = nI (i + (Int32.toInt 231 - ((i : Nat) : Int)).toNat) → s = itr (bd_X10_remember_b2_11 m_aside m_undoMany) a i (Int32.toInt 231 - ((i : Nat) : Int)).toNat → (∀ v_4 : Int32, v_4 = m_undoMany - 1 → ws_X10_remember_b2_49 P m_aside v_4 s) → (∀ v_4 : Int32, v_4 = m_undoMany - 1 → ws_X10_remember_b2_49 Q m_aside v_4 s)) : ∀ (n k : Nat) (c : Int32), c = nI (i + k) → k ≤ (Int32.toInt 231 - ((i : Nat) : Int)).toNat → wb_X10_remember_b2_11 P m_aside n c m_undoMany (itr (bd_X10_remember_b2_11 m_aside m_undoMany) a i k) → wb_X10_remember_b2_11 Q m_aside n c m_undoMany (itr (bd_X10_remember_b2_11 m_aside m_undoMany) a i k) := by
  intro n
  induction n with
  | zero => intro k c hc hk h; exact False.elim h
  | succ n ih =>
    intro k c hc hk h
    have hr := tp_r 231
    have hi : Int32.toInt c = ((i + k : Nat) : Int) := by rw [hc]; exact nI_toInt (by omega)
    refine And.intro (fun t0 => ?_) (fun t0 => ?_)
    · have h := And.left h t0
      have t1 := (fa_le _ _).mp t0
      have hk2 : k = (Int32.toInt 231 - ((i : Nat) : Int)).toNat := by omega
      subst hk2
      exact hE _ _ hc rfl h
    · have h := And.right h t0
      have t1 := mt (fa_le _ _).mpr t0
      have hs : ∀ o : (Nat → Int32), o = itr (bd_X10_remember_b2_11 m_aside m_undoMany) a i (k + 1) → wb_X10_remember_b2_11 P m_aside n (c + 1) m_undoMany o → wb_X10_remember_b2_11 Q m_aside n (c + 1) m_undoMany o := by
        intro o eo h9
        have q := ih (k + 1) (c + 1) (by rw [hc]; exact nI_1 _) (by omega)
        rw [← eo] at q
        exact q h9
      rw [itr_s, ← hc, bd_X10_remember_b2_11] at hs
      refine ae ?_
      have h := h _ rfl
      refine And.intro (And.left h) ?_
      have h := And.right h
      refine ae ?_
      have h := h _ rfl
      refine And.intro (And.left h) ?_
      have h := And.right h
      refine ae ?_
      have h := h _ rfl
      have q9 := hs _ rfl
      exact q9 h
noncomputable def F_X10_remember_b2 (m_undoMany : Int32) (m_undos : Nat → Int32) (m_aside : Nat → Int32) : Int32 × (Nat → Int32) := if m_undoMany = 12 then (ex_X10_remember_b2_11 (fun o0 o1 => (o0, o1)) m_aside m_undoMany (nI (0 + (Int32.toInt 231 - ((0 : Nat) : Int)).toNat)) (itr (bd_X10_remember_b2_11 m_aside m_undoMany) m_undos 0 (Int32.toInt 231 - ((0 : Nat) : Int)).toNat)) else (j_X10_remember_b2_49 (fun o0 o1 => (o0, o1)) m_aside m_undoMany m_undos)
set_option maxHeartbeats 200000 in
set_option maxRecDepth 10000 in
theorem dt_X10_remember_b2 {P Q : Int32 → (Nat → Int32) → Prop} {m_undoMany : Int32} {m_undos : Nat → Int32} {m_aside : Nat → Int32} (h : wp_X10_remember_b2 P m_undoMany m_undos m_aside) (hq : ∀ o : Int32 × (Nat → Int32), o = F_X10_remember_b2 m_undoMany m_undos m_aside → P o.1 o.2 → Q o.1 o.2) : wp_X10_remember_b2 Q m_undoMany m_undos m_aside := by
  rw [F_X10_remember_b2] at hq
  refine And.intro (fun c1 => ?_) (fun c1 => ?_)
  · have h := And.left h c1
    rw [if_neg c1] at hq
    rw [j_X10_remember_b2_49] at hq
    unfold ws_X10_remember_b2_49 at h ⊢
    refine ae ?_
    have h := h _ rfl
    refine du_X10_lay_b3 h ?_
    intro h
    refine ae ?_
    have h := h _ rfl
    have q9 := hq _ rfl
    dsimp only at q9
    exact q9 h
  · have h := And.right h c1
    rw [if_pos c1] at hq
    obtain ⟨n2, h⟩ := h
    refine ⟨n2, dl_X10_remember_b2_11 (a := m_undos) (i := 0) (by decide) ?_ n2 0 0 (by decide) (Nat.zero_le _) h⟩
    intro cc3 s4 ec5 es6 h
    rw [← ec5, ← es6, ex_X10_remember_b2_11] at hq
    refine ae ?_
    have h := h _ rfl
    rw [j_X10_remember_b2_49] at hq
    unfold ws_X10_remember_b2_49 at h ⊢
    refine ae ?_
    have h := h _ rfl
    refine du_X10_lay_b3 h ?_
    intro h
    refine ae ?_
    have h := h _ rfl
    have q9 := hq _ rfl
    dsimp only at q9
    exact q9 h
theorem du_X10_remember_b2 {P Q : Int32 → (Nat → Int32) → Prop} {m_undoMany : Int32} {m_undos : Nat → Int32} {m_aside : Nat → Int32} (h : wp_X10_remember_b2 P m_undoMany m_undos m_aside) (hq : P (F_X10_remember_b2 m_undoMany m_undos m_aside).1 (F_X10_remember_b2 m_undoMany m_undos m_aside).2 → Q (F_X10_remember_b2 m_undoMany m_undos m_aside).1 (F_X10_remember_b2 m_undoMany m_undos m_aside).2) : wp_X10_remember_b2 Q m_undoMany m_undos m_aside := dt_X10_remember_b2 h (fun o eo => by rw [eo]; exact hq)
theorem dw_X10_remember_b2 {Q : Int32 → (Nat → Int32) → Prop} {m_undoMany : Int32} {m_undos : Nat → Int32} {m_aside : Nat → Int32} (h : wp_X10_remember_b2 (fun o0 o1 => (o0, o1) = F_X10_remember_b2 m_undoMany m_undos m_aside → Q o0 o1) m_undoMany m_undos m_aside) : wp_X10_remember_b2 Q m_undoMany m_undos m_aside := dt_X10_remember_b2 h (fun o eo hp => hp eo)
noncomputable def bd_X10_undo_26 (m_undos : Nat → Int32) (m_thrown : Int32) (m_undoMany : Int32) (c : Int32) (s : (Nat → Int32)) : (Nat → Int32) := (upd s c.toNatClampNeg (m_undos ((21 * m_undoMany) + c).toNatClampNeg))
noncomputable def ex_X10_undo_26 {R : Type} (po : Int32 → Int32 → Int32 → (Nat → Int32) → R) (m_undos : Nat → Int32) (m_thrown : Int32) (m_undoMany : Int32) (c : Int32) (s : (Nat → Int32)) : R := po m_undoMany m_thrown m_undoMany s
set_option maxHeartbeats 200000 in
set_option maxRecDepth 10000 in
theorem dl_X10_undo_26 {P Q : Int32 → Int32 → Int32 → (Nat → Int32) → Prop} {m_undos : Nat → Int32} {m_thrown : Int32} {m_undoMany : Int32} {a : (Nat → Int32)} {i : Nat} (hi0 : i < 2147483648) (hE : ∀ (c : Int32) (s : (Nat → Int32)), c = nI (i + (Int32.toInt 21 - ((i : Nat) : Int)).toNat) → s = itr (bd_X10_undo_26 m_undos m_thrown m_undoMany) a i (Int32.toInt 21 - ((i : Nat) : Int)).toNat → (P m_undoMany m_thrown m_undoMany s) → (Q m_undoMany m_thrown m_undoMany s)) : ∀ (n k : Nat) (c : Int32), c = nI (i + k) → k ≤ (Int32.toInt 21 - ((i : Nat) : Int)).toNat → wb_X10_undo_26 P m_undos n c m_thrown m_undoMany (itr (bd_X10_undo_26 m_undos m_thrown m_undoMany) a i k) → wb_X10_undo_26 Q m_undos n c m_thrown m_undoMany (itr (bd_X10_undo_26 m_undos m_thrown m_undoMany) a i k) := by
  intro n
  induction n with
  | zero => intro k c hc hk h; exact False.elim h
  | succ n ih =>
    intro k c hc hk h
    have hr := tp_r 21
    have hi : Int32.toInt c = ((i + k : Nat) : Int) := by rw [hc]; exact nI_toInt (by omega)
    refine And.intro (fun t0 => ?_) (fun t0 => ?_)
    · have h := And.left h t0
      have t1 := (fa_le _ _).mp t0
      have hk2 : k = (Int32.toInt 21 - ((i : Nat) : Int)).toNat := by omega
      subst hk2
      exact hE _ _ hc rfl h
    · have h := And.right h t0
      have t1 := mt (fa_le _ _).mpr t0
      have hs : ∀ o : (Nat → Int32), o = itr (bd_X10_undo_26 m_undos m_thrown m_undoMany) a i (k + 1) → wb_X10_undo_26 P m_undos n (c + 1) m_thrown m_undoMany o → wb_X10_undo_26 Q m_undos n (c + 1) m_thrown m_undoMany o := by
        intro o eo h9
        have q := ih (k + 1) (c + 1) (by rw [hc]; exact nI_1 _) (by omega)
        rw [← eo] at q
        exact q h9
      rw [itr_s, ← hc, bd_X10_undo_26] at hs
      refine ae ?_
      have h := h _ rfl
      refine ae ?_
      have h := h _ rfl
      refine And.intro (And.left h) ?_
      have h := And.right h
      refine ae ?_
      have h := h _ rfl
      refine And.intro (And.left h) ?_
      have h := And.right h
      refine ae ?_
      have h := h _ rfl
      have q9 := hs _ rfl
      exact q9 h
noncomputable def F_X10_undo (m_thrown : Int32) (m_undoMany : Int32) (m_now : Nat → Int32) (m_undos : Nat → Int32) : Int32 × Int32 × Int32 × (Nat → Int32) := if m_undoMany = 0 then ((-1), 0, m_undoMany, m_now) else (ex_X10_undo_26 (fun o0 o1 o2 o3 => (o0, o1, o2, o3)) m_undos 0 (m_undoMany - 1) (nI (0 + (Int32.toInt 21 - ((0 : Nat) : Int)).toNat)) (itr (bd_X10_undo_26 m_undos 0 (m_undoMany - 1)) m_now 0 (Int32.toInt 21 - ((0 : Nat) : Int)).toNat))
set_option maxHeartbeats 200000 in
set_option maxRecDepth 10000 in
theorem dt_X10_undo {P Q : Int32 → Int32 → Int32 → (Nat → Int32) → Prop} {m_thrown : Int32} {m_undoMany : Int32} {m_now : Nat → Int32} {m_undos : Nat → Int32} (h : wp_X10_undo P m_thrown m_undoMany m_now m_undos) (hq : ∀ o : Int32 × Int32 × Int32 × (Nat → Int32), o = F_X10_undo m_thrown m_undoMany m_now m_undos → P o.1 o.2.1 o.2.2.1 o.2.2.2 → Q o.1 o.2.1 o.2.2.1 o.2.2.2) : wp_X10_undo Q m_thrown m_undoMany m_now m_undos := by
  rw [F_X10_undo] at hq
  refine And.intro (fun c1 => ?_) (fun c1 => ?_)
  · have h := And.left h c1
    rw [if_neg c1] at hq
    refine ae ?_
    have h := h _ rfl
    obtain ⟨n2, h⟩ := h
    refine ⟨n2, dl_X10_undo_26 (a := m_now) (i := 0) (by decide) ?_ n2 0 0 (by decide) (Nat.zero_le _) h⟩
    intro cc3 s4 ec5 es6 h
    rw [← ec5, ← es6, ex_X10_undo_26] at hq
    have q9 := hq _ rfl
    dsimp only at q9
    exact q9 h
  · have h := And.right h c1
    rw [if_pos c1] at hq
    have q9 := hq _ rfl
    dsimp only at q9
    exact q9 h
theorem du_X10_undo {P Q : Int32 → Int32 → Int32 → (Nat → Int32) → Prop} {m_thrown : Int32} {m_undoMany : Int32} {m_now : Nat → Int32} {m_undos : Nat → Int32} (h : wp_X10_undo P m_thrown m_undoMany m_now m_undos) (hq : P (F_X10_undo m_thrown m_undoMany m_now m_undos).1 (F_X10_undo m_thrown m_undoMany m_now m_undos).2.1 (F_X10_undo m_thrown m_undoMany m_now m_undos).2.2.1 (F_X10_undo m_thrown m_undoMany m_now m_undos).2.2.2 → Q (F_X10_undo m_thrown m_undoMany m_now m_undos).1 (F_X10_undo m_thrown m_undoMany m_now m_undos).2.1 (F_X10_undo m_thrown m_undoMany m_now m_undos).2.2.1 (F_X10_undo m_thrown m_undoMany m_now m_undos).2.2.2) : wp_X10_undo Q m_thrown m_undoMany m_now m_undos := dt_X10_undo h (fun o eo => by rw [eo]; exact hq)
theorem dw_X10_undo {Q : Int32 → Int32 → Int32 → (Nat → Int32) → Prop} {m_thrown : Int32} {m_undoMany : Int32} {m_now : Nat → Int32} {m_undos : Nat → Int32} (h : wp_X10_undo (fun o0 o1 o2 o3 => (o0, o1, o2, o3) = F_X10_undo m_thrown m_undoMany m_now m_undos → Q o0 o1 o2 o3) m_thrown m_undoMany m_now m_undos) : wp_X10_undo Q m_thrown m_undoMany m_now m_undos := dt_X10_undo h (fun o eo hp => hp eo)
noncomputable def j_X10_handOf_31 {R : Type} (k4 : Int32 → Int32 → Int32 → R) (m_standings : Int32) (m_hand : Nat → Int32) (x1 : Int32) (x3 : Int32) (k0 : Int32) (k1 : Int32) : R := k4 x1 (k0 ||| k1) (x3 + 1)
noncomputable def bd_X10_handOf_4 (m_standings : Int32) (m_hand : Nat → Int32) (x1 : Int32) (c : Int32) (s : Int32) : Int32 := if (F_X10_has x1 c) = 0 then (j_X10_handOf_31 (fun q0 q1 q2 => q1) m_standings m_hand x1 c s 0) else (j_X10_handOf_31 (fun q0 q1 q2 => q1) m_standings m_hand x1 c s (m_hand c.toNatClampNeg))
noncomputable def ex_X10_handOf_4 {R : Type} (po : Int32 → R) (m_standings : Int32) (m_hand : Nat → Int32) (x1 : Int32) (c : Int32) (s : Int32) : R := po s
set_option maxHeartbeats 200000 in
set_option maxRecDepth 10000 in
theorem dl_X10_handOf_4 {P Q : Int32 → Prop} {m_standings : Int32} {m_hand : Nat → Int32} {x1 : Int32} {a : Int32} {i : Nat} (hi0 : i < 2147483648) (hE : ∀ (c : Int32) (s : Int32), c = nI (i + (Int32.toInt m_standings - ((i : Nat) : Int)).toNat) → s = itr (bd_X10_handOf_4 m_standings m_hand x1) a i (Int32.toInt m_standings - ((i : Nat) : Int)).toNat → (P s) → (Q s)) : ∀ (n k : Nat) (c : Int32), c = nI (i + k) → k ≤ (Int32.toInt m_standings - ((i : Nat) : Int)).toNat → wb_X10_handOf_4 P m_standings m_hand n x1 (itr (bd_X10_handOf_4 m_standings m_hand x1) a i k) c → wb_X10_handOf_4 Q m_standings m_hand n x1 (itr (bd_X10_handOf_4 m_standings m_hand x1) a i k) c := by
  intro n
  induction n with
  | zero => intro k c hc hk h; exact False.elim h
  | succ n ih =>
    intro k c hc hk h
    have hr := tp_r m_standings
    have hi : Int32.toInt c = ((i + k : Nat) : Int) := by rw [hc]; exact nI_toInt (by omega)
    refine And.intro (fun t0 => ?_) (fun t0 => ?_)
    · have h := And.left h t0
      have t1 := (fa_le _ _).mp t0
      have hk2 : k = (Int32.toInt m_standings - ((i : Nat) : Int)).toNat := by omega
      subst hk2
      exact hE _ _ hc rfl h
    · have h := And.right h t0
      have t1 := mt (fa_le _ _).mpr t0
      have hs : ∀ o : Int32, o = itr (bd_X10_handOf_4 m_standings m_hand x1) a i (k + 1) → wb_X10_handOf_4 P m_standings m_hand n x1 o (c + 1) → wb_X10_handOf_4 Q m_standings m_hand n x1 o (c + 1) := by
        intro o eo h9
        have q := ih (k + 1) (c + 1) (by rw [hc]; exact nI_1 _) (by omega)
        rw [← eo] at q
        exact q h9
      rw [itr_s, ← hc, bd_X10_handOf_4] at hs
      refine du_X10_has h ?_
      intro h
      refine And.intro (fun c1 => ?_) (fun c1 => ?_)
      · have h := And.left h c1
        rw [if_pos c1] at hs
        rw [j_X10_handOf_31] at hs
        unfold ws_X10_handOf_31 at h ⊢
        refine ae ?_
        have h := h _ rfl
        refine ae ?_
        have h := h _ rfl
        have q9 := hs _ rfl
        exact q9 h
      · have h := And.right h c1
        rw [if_neg c1] at hs
        refine And.intro (And.left h) ?_
        have h := And.right h
        refine ae ?_
        have h := h _ rfl
        rw [j_X10_handOf_31] at hs
        unfold ws_X10_handOf_31 at h ⊢
        refine ae ?_
        have h := h _ rfl
        refine ae ?_
        have h := h _ rfl
        have q9 := hs _ rfl
        exact q9 h
noncomputable def F_X10_handOf (p0 : Int32) (m_standings : Int32) (m_hand : Nat → Int32) : Int32 := ex_X10_handOf_4 (fun o0 => o0) m_standings m_hand p0 (nI (0 + (Int32.toInt m_standings - ((0 : Nat) : Int)).toNat)) (itr (bd_X10_handOf_4 m_standings m_hand p0) 0 0 (Int32.toInt m_standings - ((0 : Nat) : Int)).toNat)
set_option maxHeartbeats 200000 in
set_option maxRecDepth 10000 in
theorem dt_X10_handOf {P Q : Int32 → Prop} {p0 : Int32} {m_standings : Int32} {m_hand : Nat → Int32} (h : wp_X10_handOf P p0 m_standings m_hand) (hq : ∀ o : Int32, o = F_X10_handOf p0 m_standings m_hand → P o → Q o) : wp_X10_handOf Q p0 m_standings m_hand := by
  rw [F_X10_handOf] at hq
  obtain ⟨n1, h⟩ := h
  refine ⟨n1, dl_X10_handOf_4 (a := 0) (i := 0) (by decide) ?_ n1 0 0 (by decide) (Nat.zero_le _) h⟩
  intro cc2 s3 ec4 es5 h
  rw [← ec4, ← es5, ex_X10_handOf_4] at hq
  have q9 := hq _ rfl
  exact q9 h
theorem du_X10_handOf {P Q : Int32 → Prop} {p0 : Int32} {m_standings : Int32} {m_hand : Nat → Int32} (h : wp_X10_handOf P p0 m_standings m_hand) (hq : P (F_X10_handOf p0 m_standings m_hand) → Q (F_X10_handOf p0 m_standings m_hand)) : wp_X10_handOf Q p0 m_standings m_hand := dt_X10_handOf h (fun o eo => by rw [eo]; exact hq)
theorem dw_X10_handOf {Q : Int32 → Prop} {p0 : Int32} {m_standings : Int32} {m_hand : Nat → Int32} (h : wp_X10_handOf (fun o0 => o0 = F_X10_handOf p0 m_standings m_hand → Q o0) p0 m_standings m_hand) : wp_X10_handOf Q p0 m_standings m_hand := dt_X10_handOf h (fun o eo hp => hp eo)
noncomputable def F_X10_hereWanted (m_fruits : Int32) (m_now : Nat → Int32) (m_x : Nat → Int32) (m_height : Nat → Int32) (m_ripe : Nat → Int32) (m_foot : Nat → Int32) (m_fork : Nat → Int32) (m_told : Nat → Int32) : Int32 := (((F_X10_which 0 m_fruits m_now) &&& (F_X10_ripeOnes (m_now (19 : Int32).toNatClampNeg) m_fruits m_ripe)) &&& (F_X10_byHand (m_now (17 : Int32).toNatClampNeg) m_fruits m_now m_x m_height m_foot m_fork m_told))
set_option maxHeartbeats 200000 in
set_option maxRecDepth 10000 in
theorem dt_X10_hereWanted {P Q : Int32 → Prop} {m_fruits : Int32} {m_now : Nat → Int32} {m_x : Nat → Int32} {m_height : Nat → Int32} {m_ripe : Nat → Int32} {m_foot : Nat → Int32} {m_fork : Nat → Int32} {m_told : Nat → Int32} (h : wp_X10_hereWanted P m_fruits m_now m_x m_height m_ripe m_foot m_fork m_told) (hq : ∀ o : Int32, o = F_X10_hereWanted m_fruits m_now m_x m_height m_ripe m_foot m_fork m_told → P o → Q o) : wp_X10_hereWanted Q m_fruits m_now m_x m_height m_ripe m_foot m_fork m_told := by
  rw [F_X10_hereWanted] at hq
  refine du_X10_which h ?_
  intro h
  refine ae ?_
  have h := h _ rfl
  refine du_X10_ripeOnes h ?_
  intro h
  refine ae ?_
  have h := h _ rfl
  refine ae ?_
  have h := h _ rfl
  refine du_X10_byHand h ?_
  intro h
  have q9 := hq _ rfl
  exact q9 h
theorem du_X10_hereWanted {P Q : Int32 → Prop} {m_fruits : Int32} {m_now : Nat → Int32} {m_x : Nat → Int32} {m_height : Nat → Int32} {m_ripe : Nat → Int32} {m_foot : Nat → Int32} {m_fork : Nat → Int32} {m_told : Nat → Int32} (h : wp_X10_hereWanted P m_fruits m_now m_x m_height m_ripe m_foot m_fork m_told) (hq : P (F_X10_hereWanted m_fruits m_now m_x m_height m_ripe m_foot m_fork m_told) → Q (F_X10_hereWanted m_fruits m_now m_x m_height m_ripe m_foot m_fork m_told)) : wp_X10_hereWanted Q m_fruits m_now m_x m_height m_ripe m_foot m_fork m_told := dt_X10_hereWanted h (fun o eo => by rw [eo]; exact hq)
theorem dw_X10_hereWanted {Q : Int32 → Prop} {m_fruits : Int32} {m_now : Nat → Int32} {m_x : Nat → Int32} {m_height : Nat → Int32} {m_ripe : Nat → Int32} {m_foot : Nat → Int32} {m_fork : Nat → Int32} {m_told : Nat → Int32} (h : wp_X10_hereWanted (fun o0 => o0 = F_X10_hereWanted m_fruits m_now m_x m_height m_ripe m_foot m_fork m_told → Q o0) m_fruits m_now m_x m_height m_ripe m_foot m_fork m_told) : wp_X10_hereWanted Q m_fruits m_now m_x m_height m_ripe m_foot m_fork m_told := dt_X10_hereWanted h (fun o eo hp => hp eo)
noncomputable def bd_X10_lay_b4_2 (m_now : Nat → Int32) (x2 : Int32) (c : Int32) (s : (Nat → Int32)) : (Nat → Int32) := (upd s (x2 + c).toNatClampNeg (m_now c.toNatClampNeg))
noncomputable def ex_X10_lay_b4_2 {R : Type} (po : (Nat → Int32) → R) (m_now : Nat → Int32) (x2 : Int32) (c : Int32) (s : (Nat → Int32)) : R := po s
set_option maxHeartbeats 200000 in
set_option maxRecDepth 10000 in
theorem dl_X10_lay_b4_2 {P Q : (Nat → Int32) → Prop} {m_now : Nat → Int32} {x2 : Int32} {a : (Nat → Int32)} {i : Nat} (hi0 : i < 2147483648) (hE : ∀ (c : Int32) (s : (Nat → Int32)), c = nI (i + (Int32.toInt 21 - ((i : Nat) : Int)).toNat) → s = itr (bd_X10_lay_b4_2 m_now x2) a i (Int32.toInt 21 - ((i : Nat) : Int)).toNat → (P s) → (Q s)) : ∀ (n k : Nat) (c : Int32), c = nI (i + k) → k ≤ (Int32.toInt 21 - ((i : Nat) : Int)).toNat → wb_X10_lay_b4_2 P m_now n x2 c (itr (bd_X10_lay_b4_2 m_now x2) a i k) → wb_X10_lay_b4_2 Q m_now n x2 c (itr (bd_X10_lay_b4_2 m_now x2) a i k) := by
  intro n
  induction n with
  | zero => intro k c hc hk h; exact False.elim h
  | succ n ih =>
    intro k c hc hk h
    have hr := tp_r 21
    have hi : Int32.toInt c = ((i + k : Nat) : Int) := by rw [hc]; exact nI_toInt (by omega)
    refine And.intro (fun t0 => ?_) (fun t0 => ?_)
    · have h := And.left h t0
      have t1 := (fa_le _ _).mp t0
      have hk2 : k = (Int32.toInt 21 - ((i : Nat) : Int)).toNat := by omega
      subst hk2
      exact hE _ _ hc rfl h
    · have h := And.right h t0
      have t1 := mt (fa_le _ _).mpr t0
      have hs : ∀ o : (Nat → Int32), o = itr (bd_X10_lay_b4_2 m_now x2) a i (k + 1) → wb_X10_lay_b4_2 P m_now n x2 (c + 1) o → wb_X10_lay_b4_2 Q m_now n x2 (c + 1) o := by
        intro o eo h9
        have q := ih (k + 1) (c + 1) (by rw [hc]; exact nI_1 _) (by omega)
        rw [← eo] at q
        exact q h9
      rw [itr_s, ← hc, bd_X10_lay_b4_2] at hs
      refine ae ?_
      have h := h _ rfl
      refine And.intro (And.left h) ?_
      have h := And.right h
      refine ae ?_
      have h := h _ rfl
      refine And.intro (And.left h) ?_
      have h := And.right h
      refine ae ?_
      have h := h _ rfl
      have q9 := hs _ rfl
      exact q9 h
noncomputable def F_X10_lay_b4 (p2 : Int32) (m_now : Nat → Int32) (m_kept : Nat → Int32) : (Nat → Int32) := ex_X10_lay_b4_2 (fun o0 => o0) m_now p2 (nI (0 + (Int32.toInt 21 - ((0 : Nat) : Int)).toNat)) (itr (bd_X10_lay_b4_2 m_now p2) m_kept 0 (Int32.toInt 21 - ((0 : Nat) : Int)).toNat)
set_option maxHeartbeats 200000 in
set_option maxRecDepth 10000 in
theorem dt_X10_lay_b4 {P Q : (Nat → Int32) → Prop} {p2 : Int32} {m_now : Nat → Int32} {m_kept : Nat → Int32} (h : wp_X10_lay_b4 P p2 m_now m_kept) (hq : ∀ o : (Nat → Int32), o = F_X10_lay_b4 p2 m_now m_kept → P o → Q o) : wp_X10_lay_b4 Q p2 m_now m_kept := by
  rw [F_X10_lay_b4] at hq
  obtain ⟨n1, h⟩ := h
  refine ⟨n1, dl_X10_lay_b4_2 (a := m_kept) (i := 0) (by decide) ?_ n1 0 0 (by decide) (Nat.zero_le _) h⟩
  intro cc2 s3 ec4 es5 h
  rw [← ec4, ← es5, ex_X10_lay_b4_2] at hq
  have q9 := hq _ rfl
  exact q9 h
theorem du_X10_lay_b4 {P Q : (Nat → Int32) → Prop} {p2 : Int32} {m_now : Nat → Int32} {m_kept : Nat → Int32} (h : wp_X10_lay_b4 P p2 m_now m_kept) (hq : P (F_X10_lay_b4 p2 m_now m_kept) → Q (F_X10_lay_b4 p2 m_now m_kept)) : wp_X10_lay_b4 Q p2 m_now m_kept := dt_X10_lay_b4 h (fun o eo => by rw [eo]; exact hq)
theorem dw_X10_lay_b4 {Q : (Nat → Int32) → Prop} {p2 : Int32} {m_now : Nat → Int32} {m_kept : Nat → Int32} (h : wp_X10_lay_b4 (fun o0 => o0 = F_X10_lay_b4 p2 m_now m_kept → Q o0) p2 m_now m_kept) : wp_X10_lay_b4 Q p2 m_now m_kept := dt_X10_lay_b4 h (fun o eo hp => hp eo)
noncomputable def F_X10_keep (p0 : Int32) (m_thrown : Int32) (m_came : Int32) (m_now : Nat → Int32) (m_kept : Nat → Int32) (m_isKept : Nat → Int32) (m_keptCame : Nat → Int32) : Int32 × Int32 × (Nat → Int32) × (Nat → Int32) × (Nat → Int32) := if (F_X10_in p0 0 1) = 0 then (0, 0, m_kept, m_isKept, m_keptCame) else (1, 0, (F_X10_lay_b4 (21 * p0) m_now m_kept), (upd m_isKept p0.toNatClampNeg (vp_nar .boolean 1)), (upd m_keptCame p0.toNatClampNeg m_came))
set_option maxHeartbeats 200000 in
set_option maxRecDepth 10000 in
theorem dt_X10_keep {P Q : Int32 → Int32 → (Nat → Int32) → (Nat → Int32) → (Nat → Int32) → Prop} {p0 : Int32} {m_thrown : Int32} {m_came : Int32} {m_now : Nat → Int32} {m_kept : Nat → Int32} {m_isKept : Nat → Int32} {m_keptCame : Nat → Int32} (h : wp_X10_keep P p0 m_thrown m_came m_now m_kept m_isKept m_keptCame) (hq : ∀ o : Int32 × Int32 × (Nat → Int32) × (Nat → Int32) × (Nat → Int32), o = F_X10_keep p0 m_thrown m_came m_now m_kept m_isKept m_keptCame → P o.1 o.2.1 o.2.2.1 o.2.2.2.1 o.2.2.2.2 → Q o.1 o.2.1 o.2.2.1 o.2.2.2.1 o.2.2.2.2) : wp_X10_keep Q p0 m_thrown m_came m_now m_kept m_isKept m_keptCame := by
  rw [F_X10_keep] at hq
  refine du_X10_in h ?_
  intro h
  refine And.intro (fun c1 => ?_) (fun c1 => ?_)
  · have h := And.left h c1
    rw [if_neg c1] at hq
    refine And.intro (And.left h) ?_
    have h := And.right h
    refine And.intro (And.left h) ?_
    have h := And.right h
    refine ae ?_
    have h := h _ rfl
    refine du_X10_lay_b4 h ?_
    intro h
    have q9 := hq _ rfl
    dsimp only at q9
    exact q9 h
  · have h := And.right h c1
    rw [if_pos c1] at hq
    have q9 := hq _ rfl
    dsimp only at q9
    exact q9 h
theorem du_X10_keep {P Q : Int32 → Int32 → (Nat → Int32) → (Nat → Int32) → (Nat → Int32) → Prop} {p0 : Int32} {m_thrown : Int32} {m_came : Int32} {m_now : Nat → Int32} {m_kept : Nat → Int32} {m_isKept : Nat → Int32} {m_keptCame : Nat → Int32} (h : wp_X10_keep P p0 m_thrown m_came m_now m_kept m_isKept m_keptCame) (hq : P (F_X10_keep p0 m_thrown m_came m_now m_kept m_isKept m_keptCame).1 (F_X10_keep p0 m_thrown m_came m_now m_kept m_isKept m_keptCame).2.1 (F_X10_keep p0 m_thrown m_came m_now m_kept m_isKept m_keptCame).2.2.1 (F_X10_keep p0 m_thrown m_came m_now m_kept m_isKept m_keptCame).2.2.2.1 (F_X10_keep p0 m_thrown m_came m_now m_kept m_isKept m_keptCame).2.2.2.2 → Q (F_X10_keep p0 m_thrown m_came m_now m_kept m_isKept m_keptCame).1 (F_X10_keep p0 m_thrown m_came m_now m_kept m_isKept m_keptCame).2.1 (F_X10_keep p0 m_thrown m_came m_now m_kept m_isKept m_keptCame).2.2.1 (F_X10_keep p0 m_thrown m_came m_now m_kept m_isKept m_keptCame).2.2.2.1 (F_X10_keep p0 m_thrown m_came m_now m_kept m_isKept m_keptCame).2.2.2.2) : wp_X10_keep Q p0 m_thrown m_came m_now m_kept m_isKept m_keptCame := dt_X10_keep h (fun o eo => by rw [eo]; exact hq)
theorem dw_X10_keep {Q : Int32 → Int32 → (Nat → Int32) → (Nat → Int32) → (Nat → Int32) → Prop} {p0 : Int32} {m_thrown : Int32} {m_came : Int32} {m_now : Nat → Int32} {m_kept : Nat → Int32} {m_isKept : Nat → Int32} {m_keptCame : Nat → Int32} (h : wp_X10_keep (fun o0 o1 o2 o3 o4 => (o0, o1, o2, o3, o4) = F_X10_keep p0 m_thrown m_came m_now m_kept m_isKept m_keptCame → Q o0 o1 o2 o3 o4) p0 m_thrown m_came m_now m_kept m_isKept m_keptCame) : wp_X10_keep Q p0 m_thrown m_came m_now m_kept m_isKept m_keptCame := dt_X10_keep h (fun o eo hp => hp eo)
noncomputable def bd_X10_again_40 (m_came : Int32) (m_kept : Nat → Int32) (m_isKept : Nat → Int32) (m_keptCame : Nat → Int32) (x1 : Int32) (m_thrown : Int32) (m_undoMany : Int32) (c : Int32) (s : (Nat → Int32)) : (Nat → Int32) := (upd s c.toNatClampNeg (m_kept ((21 * x1) + c).toNatClampNeg))
noncomputable def ex_X10_again_40 {R : Type} (po : Int32 → Int32 → Int32 → (Nat → Int32) → R) (m_came : Int32) (m_kept : Nat → Int32) (m_isKept : Nat → Int32) (m_keptCame : Nat → Int32) (x1 : Int32) (m_thrown : Int32) (m_undoMany : Int32) (c : Int32) (s : (Nat → Int32)) : R := po 1 m_thrown 0 s
set_option maxHeartbeats 200000 in
set_option maxRecDepth 10000 in
theorem dl_X10_again_40 {P Q : Int32 → Int32 → Int32 → (Nat → Int32) → Prop} {m_came : Int32} {m_kept : Nat → Int32} {m_isKept : Nat → Int32} {m_keptCame : Nat → Int32} {x1 : Int32} {m_thrown : Int32} {m_undoMany : Int32} {a : (Nat → Int32)} {i : Nat} (hi0 : i < 2147483648) (hE : ∀ (c : Int32) (s : (Nat → Int32)), c = nI (i + (Int32.toInt 21 - ((i : Nat) : Int)).toNat) → s = itr (bd_X10_again_40 m_came m_kept m_isKept m_keptCame x1 m_thrown m_undoMany) a i (Int32.toInt 21 - ((i : Nat) : Int)).toNat → (P 1 m_thrown 0 s) → (Q 1 m_thrown 0 s)) : ∀ (n k : Nat) (c : Int32), c = nI (i + k) → k ≤ (Int32.toInt 21 - ((i : Nat) : Int)).toNat → wb_X10_again_40 P m_came m_kept m_isKept m_keptCame n x1 c m_thrown m_undoMany (itr (bd_X10_again_40 m_came m_kept m_isKept m_keptCame x1 m_thrown m_undoMany) a i k) → wb_X10_again_40 Q m_came m_kept m_isKept m_keptCame n x1 c m_thrown m_undoMany (itr (bd_X10_again_40 m_came m_kept m_isKept m_keptCame x1 m_thrown m_undoMany) a i k) := by
  intro n
  induction n with
  | zero => intro k c hc hk h; exact False.elim h
  | succ n ih =>
    intro k c hc hk h
    have hr := tp_r 21
    have hi : Int32.toInt c = ((i + k : Nat) : Int) := by rw [hc]; exact nI_toInt (by omega)
    refine And.intro (fun t0 => ?_) (fun t0 => ?_)
    · have h := And.left h t0
      have t1 := (fa_le _ _).mp t0
      have hk2 : k = (Int32.toInt 21 - ((i : Nat) : Int)).toNat := by omega
      subst hk2
      exact hE _ _ hc rfl h
    · have h := And.right h t0
      have t1 := mt (fa_le _ _).mpr t0
      have hs : ∀ o : (Nat → Int32), o = itr (bd_X10_again_40 m_came m_kept m_isKept m_keptCame x1 m_thrown m_undoMany) a i (k + 1) → wb_X10_again_40 P m_came m_kept m_isKept m_keptCame n x1 (c + 1) m_thrown m_undoMany o → wb_X10_again_40 Q m_came m_kept m_isKept m_keptCame n x1 (c + 1) m_thrown m_undoMany o := by
        intro o eo h9
        have q := ih (k + 1) (c + 1) (by rw [hc]; exact nI_1 _) (by omega)
        rw [← eo] at q
        exact q h9
      rw [itr_s, ← hc, bd_X10_again_40] at hs
      refine ae ?_
      have h := h _ rfl
      refine ae ?_
      have h := h _ rfl
      refine And.intro (And.left h) ?_
      have h := And.right h
      refine ae ?_
      have h := h _ rfl
      refine And.intro (And.left h) ?_
      have h := And.right h
      refine ae ?_
      have h := h _ rfl
      have q9 := hs _ rfl
      exact q9 h
noncomputable def F_X10_again (p0 : Int32) (m_thrown : Int32) (m_undoMany : Int32) (m_came : Int32) (m_now : Nat → Int32) (m_kept : Nat → Int32) (m_isKept : Nat → Int32) (m_keptCame : Nat → Int32) : Int32 × Int32 × Int32 × (Nat → Int32) := if (F_X10_in p0 0 1) = 0 then (0, 0, m_undoMany, m_now) else (if (m_isKept p0.toNatClampNeg) = 0 then (0, 0, m_undoMany, m_now) else (if (m_keptCame p0.toNatClampNeg) = m_came then (ex_X10_again_40 (fun o0 o1 o2 o3 => (o0, o1, o2, o3)) m_came m_kept m_isKept m_keptCame p0 0 m_undoMany (nI (0 + (Int32.toInt 21 - ((0 : Nat) : Int)).toNat)) (itr (bd_X10_again_40 m_came m_kept m_isKept m_keptCame p0 0 m_undoMany) m_now 0 (Int32.toInt 21 - ((0 : Nat) : Int)).toNat)) else (0, 0, m_undoMany, m_now)))
set_option maxHeartbeats 200000 in
set_option maxRecDepth 10000 in
theorem dt_X10_again {P Q : Int32 → Int32 → Int32 → (Nat → Int32) → Prop} {p0 : Int32} {m_thrown : Int32} {m_undoMany : Int32} {m_came : Int32} {m_now : Nat → Int32} {m_kept : Nat → Int32} {m_isKept : Nat → Int32} {m_keptCame : Nat → Int32} (h : wp_X10_again P p0 m_thrown m_undoMany m_came m_now m_kept m_isKept m_keptCame) (hq : ∀ o : Int32 × Int32 × Int32 × (Nat → Int32), o = F_X10_again p0 m_thrown m_undoMany m_came m_now m_kept m_isKept m_keptCame → P o.1 o.2.1 o.2.2.1 o.2.2.2 → Q o.1 o.2.1 o.2.2.1 o.2.2.2) : wp_X10_again Q p0 m_thrown m_undoMany m_came m_now m_kept m_isKept m_keptCame := by
  rw [F_X10_again] at hq
  refine du_X10_in h ?_
  intro h
  refine And.intro (fun c1 => ?_) (fun c1 => ?_)
  · have h := And.left h c1
    rw [if_pos c1] at hq
    have q9 := hq _ rfl
    dsimp only at q9
    exact q9 h
  · have h := And.right h c1
    rw [if_neg c1] at hq
    refine And.intro (And.left h) ?_
    have h := And.right h
    refine And.intro (fun c2 => ?_) (fun c2 => ?_)
    · have h := And.left h c2
      rw [if_pos c2] at hq
      have q9 := hq _ rfl
      dsimp only at q9
      exact q9 h
    · have h := And.right h c2
      rw [if_neg c2] at hq
      refine And.intro (And.left h) ?_
      have h := And.right h
      refine ae ?_
      have h := h _ rfl
      refine And.intro (fun c3 => ?_) (fun c3 => ?_)
      · have h := And.left h c3
        rw [if_pos c3] at hq
        obtain ⟨n4, h⟩ := h
        refine ⟨n4, dl_X10_again_40 (a := m_now) (i := 0) (by decide) ?_ n4 0 0 (by decide) (Nat.zero_le _) h⟩
        intro cc5 s6 ec7 es8 h
        rw [← ec7, ← es8, ex_X10_again_40] at hq
        have q9 := hq _ rfl
        dsimp only at q9
        exact q9 h
      · have h := And.right h c3
        rw [if_neg c3] at hq
        have q9 := hq _ rfl
        dsimp only at q9
        exact q9 h
theorem du_X10_again {P Q : Int32 → Int32 → Int32 → (Nat → Int32) → Prop} {p0 : Int32} {m_thrown : Int32} {m_undoMany : Int32} {m_came : Int32} {m_now : Nat → Int32} {m_kept : Nat → Int32} {m_isKept : Nat → Int32} {m_keptCame : Nat → Int32} (h : wp_X10_again P p0 m_thrown m_undoMany m_came m_now m_kept m_isKept m_keptCame) (hq : P (F_X10_again p0 m_thrown m_undoMany m_came m_now m_kept m_isKept m_keptCame).1 (F_X10_again p0 m_thrown m_undoMany m_came m_now m_kept m_isKept m_keptCame).2.1 (F_X10_again p0 m_thrown m_undoMany m_came m_now m_kept m_isKept m_keptCame).2.2.1 (F_X10_again p0 m_thrown m_undoMany m_came m_now m_kept m_isKept m_keptCame).2.2.2 → Q (F_X10_again p0 m_thrown m_undoMany m_came m_now m_kept m_isKept m_keptCame).1 (F_X10_again p0 m_thrown m_undoMany m_came m_now m_kept m_isKept m_keptCame).2.1 (F_X10_again p0 m_thrown m_undoMany m_came m_now m_kept m_isKept m_keptCame).2.2.1 (F_X10_again p0 m_thrown m_undoMany m_came m_now m_kept m_isKept m_keptCame).2.2.2) : wp_X10_again Q p0 m_thrown m_undoMany m_came m_now m_kept m_isKept m_keptCame := dt_X10_again h (fun o eo => by rw [eo]; exact hq)
theorem dw_X10_again {Q : Int32 → Int32 → Int32 → (Nat → Int32) → Prop} {p0 : Int32} {m_thrown : Int32} {m_undoMany : Int32} {m_came : Int32} {m_now : Nat → Int32} {m_kept : Nat → Int32} {m_isKept : Nat → Int32} {m_keptCame : Nat → Int32} (h : wp_X10_again (fun o0 o1 o2 o3 => (o0, o1, o2, o3) = F_X10_again p0 m_thrown m_undoMany m_came m_now m_kept m_isKept m_keptCame → Q o0 o1 o2 o3) p0 m_thrown m_undoMany m_came m_now m_kept m_isKept m_keptCame) : wp_X10_again Q p0 m_thrown m_undoMany m_came m_now m_kept m_isKept m_keptCame := dt_X10_again h (fun o eo hp => hp eo)
