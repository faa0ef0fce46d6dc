set_option maxHeartbeats 8000000 in
set_option maxRecDepth 200000 in
theorem pl_end (xs : Nat → Int32) {x_acts : Nat → Int32} {tx_length : Int32} {tx_place : Int32} {tx_stop : Int32} {tx_signs : Nat → Int32} {pl_wanted : Int32} {pl_moves : Int32} {pl_picking : Int32} {pl_downs : Int32} {pl_near : Nat → Int32} {pl_seconds : Nat → Int32} {pl_many : Nat → Int32} {pl_load : Nat → Int32} {pl_best : Nat → Int32} {tr_fruits : Int32} {tr_standings : Int32} {tr_comingFruits : Int32} {tr_comingStandings : Int32} {tr_x : Nat → Int32} {tr_height : Nat → Int32} {tr_worth : Nat → Int32} {tr_ripe : Nat → Int32} {tr_foot : Nat → Int32} {tr_fork : Nat → Int32} {tr_settings : Nat → Int32} {no_apron : Int32} {no_basket : Int32} {no_ground : Int32} {no_bruised : Int32} {no_ladder : Int32} {no_helper : Int32} {no_today : Int32} {no_clock : Int32} {ru_length : Int32} {ru_drafted : Int32} {ru_waits : Int32} {ru_open : Int32} {ru_compared : Int32} {ru_wantsThing : Int32} {ru_given : Nat → Int32} {ru_waiting : Nat → Int32} {ru_stack : Nat → Int32} {ru_program : Nat → Int32} {ru_draft : Nat → Int32} {pa_undoable : Int32} {pa_free : Int32} {pa_cells : Nat → Int32} {pa_keptCells : Nat → Int32} {pa_isKept : Nat → Int32} {ro_size : Int32} {ro_numbers : Nat → Int32} {mk_many : Int32} {mk_at : Nat → Int32} {mk_rows : Nat → Int32} {m_fruits : Int32} {m_standings : Int32} {m_typed : Int32} {m_rowMany : Int32} {m_thrown : Int32} {m_read : Nat} {m_length : Int32} {m_top : Int32} {m_at : Int32} {m_wrong : Int32} {m_newFruitMany : Int32} {m_newStandingMany : Int32} {m_ruleSize : Int32} {m_isAsked : Int32} {m_askedFruit : Int32} {m_askedStanding : Int32} {m_askedHook : Int32} {m_askedApron : Int32} {m_undoMany : Int32} {m_picked : Int32} {m_wanted : Int32} {m_workMoves : Int32} {m_workPicks : Int32} {m_workDowns : Int32} {m_drawn : Int32} {m_came : Int32} {m_now : Nat → Int32} {m_x : Nat → Int32} {m_height : Nat → Int32} {m_worth : Nat → Int32} {m_ripe : Nat → Int32} {m_foot : Nat → Int32} {m_fork : Nat → Int32} {m_told : Nat → Int32} {m_text : Nat → Int32} {m_row : Nat → Int32} {m_newFruits : Nat → Int32} {m_newStandings : Nat → Int32} {m_rule : Nat → Int32} {m_undos : Nat → Int32} {m_aside : Nat → Int32} {m_acts : Nat → Int32} {m_hand : Nat → Int32} {m_moves : Nat → Int32} {m_handSeconds : Nat → Int32} {m_load : Nat → Int32} {m_grass : Nat → Int32} {m_rows : Nat → Int32} {m_kept : Nat → Int32} {m_isKept : Nat → Int32} {m_keptCame : Nat → Int32} {lo : Nat → Int64} : ws_law_1600 5 xs (wb_law 5 xs 1) 0 x_acts tx_length tx_place tx_stop tx_signs pl_wanted pl_moves pl_picking pl_downs pl_near pl_seconds pl_many pl_load pl_best tr_fruits tr_standings tr_comingFruits tr_comingStandings tr_x tr_height tr_worth tr_ripe tr_foot tr_fork tr_settings no_apron no_basket no_ground no_bruised no_ladder no_helper no_today no_clock ru_length ru_drafted ru_waits ru_open ru_compared ru_wantsThing ru_given ru_waiting ru_stack ru_program ru_draft pa_undoable pa_free pa_cells pa_keptCells pa_isKept ro_size ro_numbers mk_many mk_at mk_rows m_fruits m_standings m_typed m_rowMany m_thrown m_read m_length m_top m_at m_wrong m_newFruitMany m_newStandingMany m_ruleSize m_isAsked m_askedFruit m_askedStanding m_askedHook m_askedApron m_undoMany m_picked m_wanted m_workMoves m_workPicks m_workDowns m_drawn m_came m_now m_x m_height m_worth m_ripe m_foot m_fork m_told m_text m_row m_newFruits m_newStandings m_rule m_undos m_aside m_acts m_hand m_moves m_handSeconds m_load m_grass m_rows m_kept m_isKept m_keptCame lo := by
  intro v e
  obtain rfl : v = 5 := e.trans (by decide)
  intro v1 e1
  refine br_t ?_ trivial
  rw [e1]
  decide
set_option maxHeartbeats 8000000 in
set_option maxRecDepth 200000 in
theorem pc_0 (xs : Nat → Int32) : ws_law_256 5 xs (wb_law 5 xs 1) 0 (fun _ => 0) 0 0 0 (fun _ => 0) 0 0 0 0 (fun _ => 0) (fun _ => 0) (fun _ => 0) (fun _ => 0) (fun _ => 0) 0 0 0 0 (fun _ => 0) (fun _ => 0) (fun _ => 0) (fun _ => 0) (fun _ => 0) (fun _ => 0) (upd (upd (upd (upd (upd (fun _ => 0) (0 : Int32).toNatClampNeg 8) (1 : Int32).toNatClampNeg 3) (2 : Int32).toNatClampNeg 5) (3 : Int32).toNatClampNeg 1) (4 : Int32).toNatClampNeg 6) 0 0 0 0 (-1) 0 0 0 0 0 0 0 0 0 (fun _ => 0) (fun _ => 0) (fun _ => 0) (fun _ => 0) (fun _ => 0) 0 0 (fun _ => 0) (fun _ => 0) (fun _ => 0) 0 (fun _ => 0) 0 (fun _ => 0) (fun _ => 0) 0 0 0 0 0 0 0 0 0 0 0 0 0 0 0 0 0 0 0 0 0 0 0 0 0 0 (upd (fun _ => 0) (17 : Int32).toNatClampNeg (-1)) (fun _ => 0) (fun _ => 0) (fun _ => 0) (fun _ => 0) (fun _ => 0) (fun _ => 0) (upd (upd (upd (upd (upd (fun _ => 0) (0 : Int32).toNatClampNeg 8) (1 : Int32).toNatClampNeg 3) (2 : Int32).toNatClampNeg 5) (3 : Int32).toNatClampNeg 1) (4 : Int32).toNatClampNeg 6) (fun _ => 0) (fun _ => 0) (fun _ => 0) (fun _ => 0) (fun _ => 0) (fun _ => 0) (fun _ => 0) (fun _ => 0) (fun _ => 0) (fun _ => 0) (fun _ => 0) (fun _ => 0) (fun _ => 0) (fun _ => 0) (fun _ => 0) (fun _ => 0) (fun _ => 0) (fun _ => 0) := by
  intro va0 ea0; obtain rfl : va0 = 1 := ea0.trans (by decide); refine And.intro (g_in (by decide +kernel)) ?_; intro wa0 fa0; subst fa0
  refine fx_sign _ _ (fun r hr o0 o1 => ?_)
  intro vb0 eb0; obtain rfl : vb0 = 1 := eb0.trans (by decide); refine And.intro (g_in (by decide +kernel)) ?_; intro wb0 fb0; subst fb0
  refine fm_sign _ _ (fun r2 hr2 q0 q1 q2 => ?_)
  refine br_t (hr.trans hr2.symm) ?_
  exact pl_end xs
set_option maxHeartbeats 8000000 in
set_option maxRecDepth 200000 in
theorem pc_1 (xs : Nat → Int32) : ws_law_281 5 xs (wb_law 5 xs 1) 0 (fun _ => 0) 0 0 0 (fun _ => 0) 0 0 0 0 (fun _ => 0) (fun _ => 0) (fun _ => 0) (fun _ => 0) (fun _ => 0) 0 0 0 0 (fun _ => 0) (fun _ => 0) (fun _ => 0) (fun _ => 0) (fun _ => 0) (fun _ => 0) (upd (upd (upd (upd (upd (fun _ => 0) (0 : Int32).toNatClampNeg 8) (1 : Int32).toNatClampNeg 3) (2 : Int32).toNatClampNeg 5) (3 : Int32).toNatClampNeg 1) (4 : Int32).toNatClampNeg 6) 0 0 0 0 (-1) 0 0 0 0 0 0 0 0 0 (fun _ => 0) (fun _ => 0) (fun _ => 0) (fun _ => 0) (fun _ => 0) 0 0 (fun _ => 0) (fun _ => 0) (fun _ => 0) 0 (fun _ => 0) 0 (fun _ => 0) (fun _ => 0) 0 0 0 0 0 0 0 0 0 0 0 0 0 0 0 0 0 0 0 0 0 0 0 0 0 0 (upd (fun _ => 0) (17 : Int32).toNatClampNeg (-1)) (fun _ => 0) (fun _ => 0) (fun _ => 0) (fun _ => 0) (fun _ => 0) (fun _ => 0) (upd (upd (upd (upd (upd (fun _ => 0) (0 : Int32).toNatClampNeg 8) (1 : Int32).toNatClampNeg 3) (2 : Int32).toNatClampNeg 5) (3 : Int32).toNatClampNeg 1) (4 : Int32).toNatClampNeg 6) (fun _ => 0) (fun _ => 0) (fun _ => 0) (fun _ => 0) (fun _ => 0) (fun _ => 0) (fun _ => 0) (fun _ => 0) (fun _ => 0) (fun _ => 0) (fun _ => 0) (fun _ => 0) (fun _ => 0) (fun _ => 0) (fun _ => 0) (fun _ => 0) (fun _ => 0) (fun _ => 0) := by
  intro va0 ea0; obtain rfl : va0 = 1 := ea0.trans (by decide); refine And.intro (g_in (by decide +kernel)) ?_; intro wa0 fa0; subst fa0
  refine fx_end _ _ (fun r hr o0 => ?_)
  intro vb0 eb0; obtain rfl : vb0 = 1 := eb0.trans (by decide); refine And.intro (g_in (by decide +kernel)) ?_; intro wb0 fb0; subst fb0
  refine fm_end _ _ (fun r2 hr2 q0 q1 => ?_)
  refine br_t (hr.trans hr2.symm) ?_
  exact pl_end xs
set_option maxHeartbeats 8000000 in
set_option maxRecDepth 200000 in
theorem pc_2 (xs : Nat → Int32) : ws_law_306 5 xs (wb_law 5 xs 1) 0 (fun _ => 0) 0 0 0 (fun _ => 0) 0 0 0 0 (fun _ => 0) (fun _ => 0) (fun _ => 0) (fun _ => 0) (fun _ => 0) 0 0 0 0 (fun _ => 0) (fun _ => 0) (fun _ => 0) (fun _ => 0) (fun _ => 0) (fun _ => 0) (upd (upd (upd (upd (upd (fun _ => 0) (0 : Int32).toNatClampNeg 8) (1 : Int32).toNatClampNeg 3) (2 : Int32).toNatClampNeg 5) (3 : Int32).toNatClampNeg 1) (4 : Int32).toNatClampNeg 6) 0 0 0 0 (-1) 0 0 0 0 0 0 0 0 0 (fun _ => 0) (fun _ => 0) (fun _ => 0) (fun _ => 0) (fun _ => 0) 0 0 (fun _ => 0) (fun _ => 0) (fun _ => 0) 0 (fun _ => 0) 0 (fun _ => 0) (fun _ => 0) 0 0 0 0 0 0 0 0 0 0 0 0 0 0 0 0 0 0 0 0 0 0 0 0 0 0 (upd (fun _ => 0) (17 : Int32).toNatClampNeg (-1)) (fun _ => 0) (fun _ => 0) (fun _ => 0) (fun _ => 0) (fun _ => 0) (fun _ => 0) (upd (upd (upd (upd (upd (fun _ => 0) (0 : Int32).toNatClampNeg 8) (1 : Int32).toNatClampNeg 3) (2 : Int32).toNatClampNeg 5) (3 : Int32).toNatClampNeg 1) (4 : Int32).toNatClampNeg 6) (fun _ => 0) (fun _ => 0) (fun _ => 0) (fun _ => 0) (fun _ => 0) (fun _ => 0) (fun _ => 0) (fun _ => 0) (fun _ => 0) (fun _ => 0) (fun _ => 0) (fun _ => 0) (fun _ => 0) (fun _ => 0) (fun _ => 0) (fun _ => 0) (fun _ => 0) (fun _ => 0) := by
  refine fx_orchard _ (fun r hr o0 o1 o2 o3 o4 o5 o6 o7 o8 o9 o10 o11 o12 o13 o14 => ?_)
  refine fm_orchard _ (fun r2 hr2 q0 q1 q2 q3 q4 q5 q6 q7 q8 q9 q10 q11 q12 q13 q14 q15 q16 q17 q18 q19 q20 q21 => ?_)
  refine br_t (hr.trans hr2.symm) ?_
  exact pl_end xs
set_option maxHeartbeats 8000000 in
set_option maxRecDepth 200000 in
theorem pc_3 (xs : Nat → Int32) : ws_law_319 5 xs (wb_law 5 xs 1) 0 (fun _ => 0) 0 0 0 (fun _ => 0) 0 0 0 0 (fun _ => 0) (fun _ => 0) (fun _ => 0) (fun _ => 0) (fun _ => 0) 0 0 0 0 (fun _ => 0) (fun _ => 0) (fun _ => 0) (fun _ => 0) (fun _ => 0) (fun _ => 0) (upd (upd (upd (upd (upd (fun _ => 0) (0 : Int32).toNatClampNeg 8) (1 : Int32).toNatClampNeg 3) (2 : Int32).toNatClampNeg 5) (3 : Int32).toNatClampNeg 1) (4 : Int32).toNatClampNeg 6) 0 0 0 0 (-1) 0 0 0 0 0 0 0 0 0 (fun _ => 0) (fun _ => 0) (fun _ => 0) (fun _ => 0) (fun _ => 0) 0 0 (fun _ => 0) (fun _ => 0) (fun _ => 0) 0 (fun _ => 0) 0 (fun _ => 0) (fun _ => 0) 0 0 0 0 0 0 0 0 0 0 0 0 0 0 0 0 0 0 0 0 0 0 0 0 0 0 (upd (fun _ => 0) (17 : Int32).toNatClampNeg (-1)) (fun _ => 0) (fun _ => 0) (fun _ => 0) (fun _ => 0) (fun _ => 0) (fun _ => 0) (upd (upd (upd (upd (upd (fun _ => 0) (0 : Int32).toNatClampNeg 8) (1 : Int32).toNatClampNeg 3) (2 : Int32).toNatClampNeg 5) (3 : Int32).toNatClampNeg 1) (4 : Int32).toNatClampNeg 6) (fun _ => 0) (fun _ => 0) (fun _ => 0) (fun _ => 0) (fun _ => 0) (fun _ => 0) (fun _ => 0) (fun _ => 0) (fun _ => 0) (fun _ => 0) (fun _ => 0) (fun _ => 0) (fun _ => 0) (fun _ => 0) (fun _ => 0) (fun _ => 0) (fun _ => 0) (fun _ => 0) := by
  refine fx_rule _ (fun r hr o0 o1 o2 o3 o4 o5 o6 o7 o8 o9 o10 o11 => ?_)
  refine fm_rule _ (fun r2 hr2 q0 q1 q2 q3 q4 q5 q6 q7 q8 q9 => ?_)
  refine br_t (hr.trans hr2.symm) ?_
  exact pl_end xs
set_option maxHeartbeats 8000000 in
set_option maxRecDepth 200000 in
theorem pc_4 (xs : Nat → Int32) : ws_law_332 5 xs (wb_law 5 xs 1) 0 (fun _ => 0) 0 0 0 (fun _ => 0) 0 0 0 0 (fun _ => 0) (fun _ => 0) (fun _ => 0) (fun _ => 0) (fun _ => 0) 0 0 0 0 (fun _ => 0) (fun _ => 0) (fun _ => 0) (fun _ => 0) (fun _ => 0) (fun _ => 0) (upd (upd (upd (upd (upd (fun _ => 0) (0 : Int32).toNatClampNeg 8) (1 : Int32).toNatClampNeg 3) (2 : Int32).toNatClampNeg 5) (3 : Int32).toNatClampNeg 1) (4 : Int32).toNatClampNeg 6) 0 0 0 0 (-1) 0 0 0 0 0 0 0 0 0 (fun _ => 0) (fun _ => 0) (fun _ => 0) (fun _ => 0) (fun _ => 0) 0 0 (fun _ => 0) (fun _ => 0) (fun _ => 0) 0 (fun _ => 0) 0 (fun _ => 0) (fun _ => 0) 0 0 0 0 0 0 0 0 0 0 0 0 0 0 0 0 0 0 0 0 0 0 0 0 0 0 (upd (fun _ => 0) (17 : Int32).toNatClampNeg (-1)) (fun _ => 0) (fun _ => 0) (fun _ => 0) (fun _ => 0) (fun _ => 0) (fun _ => 0) (upd (upd (upd (upd (upd (fun _ => 0) (0 : Int32).toNatClampNeg 8) (1 : Int32).toNatClampNeg 3) (2 : Int32).toNatClampNeg 5) (3 : Int32).toNatClampNeg 1) (4 : Int32).toNatClampNeg 6) (fun _ => 0) (fun _ => 0) (fun _ => 0) (fun _ => 0) (fun _ => 0) (fun _ => 0) (fun _ => 0) (fun _ => 0) (fun _ => 0) (fun _ => 0) (fun _ => 0) (fun _ => 0) (fun _ => 0) (fun _ => 0) (fun _ => 0) (fun _ => 0) (fun _ => 0) (fun _ => 0) := by
  intro va0 ea0; obtain rfl : va0 = 1 := ea0.trans (by decide); refine And.intro (g_in (by decide +kernel)) ?_; intro wa0 fa0; subst fa0
  intro va1 ea1; obtain rfl : va1 = 2 := ea1.trans (by decide); refine And.intro (g_in (by decide +kernel)) ?_; intro wa1 fa1; subst fa1
  refine fxt_fruit _ _ _ _ ?_
  intro vb0 eb0; obtain rfl : vb0 = 1 := eb0.trans (by decide); refine And.intro (g_in (by decide +kernel)) ?_; intro wb0 fb0; subst fb0
  intro vb1 eb1; obtain rfl : vb1 = 2 := eb1.trans (by decide); refine And.intro (g_in (by decide +kernel)) ?_; intro wb1 fb1; subst fb1
  refine fmt_fruit _ _ _ (fun r2 => ?_)
  refine br_t rfl ?_
  refine And.intro (fun _ => ?_) (fun h9 => absurd h9 (by decide))
  exact pl_end xs
set_option maxHeartbeats 8000000 in
set_option maxRecDepth 200000 in
theorem pc_5 (xs : Nat → Int32) : ws_law_400 5 xs (wb_law 5 xs 1) 0 (fun _ => 0) 0 0 0 (fun _ => 0) 0 0 0 0 (fun _ => 0) (fun _ => 0) (fun _ => 0) (fun _ => 0) (fun _ => 0) 0 0 0 0 (fun _ => 0) (fun _ => 0) (fun _ => 0) (fun _ => 0) (fun _ => 0) (fun _ => 0) (upd (upd (upd (upd (upd (fun _ => 0) (0 : Int32).toNatClampNeg 8) (1 : Int32).toNatClampNeg 3) (2 : Int32).toNatClampNeg 5) (3 : Int32).toNatClampNeg 1) (4 : Int32).toNatClampNeg 6) 0 0 0 0 (-1) 0 0 0 0 0 0 0 0 0 (fun _ => 0) (fun _ => 0) (fun _ => 0) (fun _ => 0) (fun _ => 0) 0 0 (fun _ => 0) (fun _ => 0) (fun _ => 0) 0 (fun _ => 0) 0 (fun _ => 0) (fun _ => 0) 0 0 0 0 0 0 0 0 0 0 0 0 0 0 0 0 0 0 0 0 0 0 0 0 0 0 (upd (fun _ => 0) (17 : Int32).toNatClampNeg (-1)) (fun _ => 0) (fun _ => 0) (fun _ => 0) (fun _ => 0) (fun _ => 0) (fun _ => 0) (upd (upd (upd (upd (upd (fun _ => 0) (0 : Int32).toNatClampNeg 8) (1 : Int32).toNatClampNeg 3) (2 : Int32).toNatClampNeg 5) (3 : Int32).toNatClampNeg 1) (4 : Int32).toNatClampNeg 6) (fun _ => 0) (fun _ => 0) (fun _ => 0) (fun _ => 0) (fun _ => 0) (fun _ => 0) (fun _ => 0) (fun _ => 0) (fun _ => 0) (fun _ => 0) (fun _ => 0) (fun _ => 0) (fun _ => 0) (fun _ => 0) (fun _ => 0) (fun _ => 0) (fun _ => 0) (fun _ => 0) := by
  intro va0 ea0; obtain rfl : va0 = 1 := ea0.trans (by decide); refine And.intro (g_in (by decide +kernel)) ?_; intro wa0 fa0; subst fa0
  intro va1 ea1; obtain rfl : va1 = 2 := ea1.trans (by decide); refine And.intro (g_in (by decide +kernel)) ?_; intro wa1 fa1; subst fa1
  refine fxt_standing _ _ _ _ ?_
  intro vb0 eb0; obtain rfl : vb0 = 1 := eb0.trans (by decide); refine And.intro (g_in (by decide +kernel)) ?_; intro wb0 fb0; subst fb0
  intro vb1 eb1; obtain rfl : vb1 = 2 := eb1.trans (by decide); refine And.intro (g_in (by decide +kernel)) ?_; intro wb1 fb1; subst fb1
  refine fmt_standing _ _ _ (fun r2 => ?_)
  refine br_t rfl ?_
  refine And.intro (fun _ => ?_) (fun h9 => absurd h9 (by decide))
  exact pl_end xs
set_option maxHeartbeats 8000000 in
set_option maxRecDepth 200000 in
theorem pc_6 (xs : Nat → Int32) : ws_law_468 5 xs (wb_law 5 xs 1) 0 (fun _ => 0) 0 0 0 (fun _ => 0) 0 0 0 0 (fun _ => 0) (fun _ => 0) (fun _ => 0) (fun _ => 0) (fun _ => 0) 0 0 0 0 (fun _ => 0) (fun _ => 0) (fun _ => 0) (fun _ => 0) (fun _ => 0) (fun _ => 0) (upd (upd (upd (upd (upd (fun _ => 0) (0 : Int32).toNatClampNeg 8) (1 : Int32).toNatClampNeg 3) (2 : Int32).toNatClampNeg 5) (3 : Int32).toNatClampNeg 1) (4 : Int32).toNatClampNeg 6) 0 0 0 0 (-1) 0 0 0 0 0 0 0 0 0 (fun _ => 0) (fun _ => 0) (fun _ => 0) (fun _ => 0) (fun _ => 0) 0 0 (fun _ => 0) (fun _ => 0) (fun _ => 0) 0 (fun _ => 0) 0 (fun _ => 0) (fun _ => 0) 0 0 0 0 0 0 0 0 0 0 0 0 0 0 0 0 0 0 0 0 0 0 0 0 0 0 (upd (fun _ => 0) (17 : Int32).toNatClampNeg (-1)) (fun _ => 0) (fun _ => 0) (fun _ => 0) (fun _ => 0) (fun _ => 0) (fun _ => 0) (upd (upd (upd (upd (upd (fun _ => 0) (0 : Int32).toNatClampNeg 8) (1 : Int32).toNatClampNeg 3) (2 : Int32).toNatClampNeg 5) (3 : Int32).toNatClampNeg 1) (4 : Int32).toNatClampNeg 6) (fun _ => 0) (fun _ => 0) (fun _ => 0) (fun _ => 0) (fun _ => 0) (fun _ => 0) (fun _ => 0) (fun _ => 0) (fun _ => 0) (fun _ => 0) (fun _ => 0) (fun _ => 0) (fun _ => 0) (fun _ => 0) (fun _ => 0) (fun _ => 0) (fun _ => 0) (fun _ => 0) := by
  intro va0 ea0; obtain rfl : va0 = 1 := ea0.trans (by decide); refine And.intro (g_in (by decide +kernel)) ?_; intro wa0 fa0; subst fa0
  intro va1 ea1; obtain rfl : va1 = 2 := ea1.trans (by decide); refine And.intro (g_in (by decide +kernel)) ?_; intro wa1 fa1; subst fa1
  refine fx_set _ _ _ (fun r hr o0 => ?_)
  intro vb0 eb0; obtain rfl : vb0 = 1 := eb0.trans (by decide); refine And.intro (g_in (by decide +kernel)) ?_; intro wb0 fb0; subst fb0
  intro vb1 eb1; obtain rfl : vb1 = 2 := eb1.trans (by decide); refine And.intro (g_in (by decide +kernel)) ?_; intro wb1 fb1; subst fb1
  refine fm_set _ _ _ (fun r2 hr2 q0 q1 => ?_)
  refine br_t (hr.trans hr2.symm) ?_
  exact pl_end xs
set_option maxHeartbeats 8000000 in
set_option maxRecDepth 200000 in
theorem pc_7 (xs : Nat → Int32) : ws_law_505 5 xs (wb_law 5 xs 1) 0 (fun _ => 0) 0 0 0 (fun _ => 0) 0 0 0 0 (fun _ => 0) (fun _ => 0) (fun _ => 0) (fun _ => 0) (fun _ => 0) 0 0 0 0 (fun _ => 0) (fun _ => 0) (fun _ => 0) (fun _ => 0) (fun _ => 0) (fun _ => 0) (upd (upd (upd (upd (upd (fun _ => 0) (0 : Int32).toNatClampNeg 8) (1 : Int32).toNatClampNeg 3) (2 : Int32).toNatClampNeg 5) (3 : Int32).toNatClampNeg 1) (4 : Int32).toNatClampNeg 6) 0 0 0 0 (-1) 0 0 0 0 0 0 0 0 0 (fun _ => 0) (fun _ => 0) (fun _ => 0) (fun _ => 0) (fun _ => 0) 0 0 (fun _ => 0) (fun _ => 0) (fun _ => 0) 0 (fun _ => 0) 0 (fun _ => 0) (fun _ => 0) 0 0 0 0 0 0 0 0 0 0 0 0 0 0 0 0 0 0 0 0 0 0 0 0 0 0 (upd (fun _ => 0) (17 : Int32).toNatClampNeg (-1)) (fun _ => 0) (fun _ => 0) (fun _ => 0) (fun _ => 0) (fun _ => 0) (fun _ => 0) (upd (upd (upd (upd (upd (fun _ => 0) (0 : Int32).toNatClampNeg 8) (1 : Int32).toNatClampNeg 3) (2 : Int32).toNatClampNeg 5) (3 : Int32).toNatClampNeg 1) (4 : Int32).toNatClampNeg 6) (fun _ => 0) (fun _ => 0) (fun _ => 0) (fun _ => 0) (fun _ => 0) (fun _ => 0) (fun _ => 0) (fun _ => 0) (fun _ => 0) (fun _ => 0) (fun _ => 0) (fun _ => 0) (fun _ => 0) (fun _ => 0) (fun _ => 0) (fun _ => 0) (fun _ => 0) (fun _ => 0) := by
  intro va0 ea0; obtain rfl : va0 = 1 := ea0.trans (by decide); refine And.intro (g_in (by decide +kernel)) ?_; intro wa0 fa0; subst fa0
  intro va1 ea1; obtain rfl : va1 = 2 := ea1.trans (by decide); refine And.intro (g_in (by decide +kernel)) ?_; intro wa1 fa1; subst fa1
  intro va2 ea2; obtain rfl : va2 = 3 := ea2.trans (by decide); refine And.intro (g_in (by decide +kernel)) ?_; intro wa2 fa2; subst fa2
  intro va3 ea3; obtain rfl : va3 = 4 := ea3.trans (by decide); refine And.intro (g_in (by decide +kernel)) ?_; intro wa3 fa3; subst fa3
  refine fx_sheet _ _ _ _ _ (fun r hr o0 => ?_)
  intro vb0 eb0; obtain rfl : vb0 = 1 := eb0.trans (by decide); refine And.intro (g_in (by decide +kernel)) ?_; intro wb0 fb0; subst fb0
  intro vb1 eb1; obtain rfl : vb1 = 2 := eb1.trans (by decide); refine And.intro (g_in (by decide +kernel)) ?_; intro wb1 fb1; subst fb1
  intro vb2 eb2; obtain rfl : vb2 = 3 := eb2.trans (by decide); refine And.intro (g_in (by decide +kernel)) ?_; intro wb2 fb2; subst fb2
  intro vb3 eb3; obtain rfl : vb3 = 4 := eb3.trans (by decide); refine And.intro (g_in (by decide +kernel)) ?_; intro wb3 fb3; subst fb3
  refine fm_sheet _ _ _ _ _ (fun r2 hr2 q0 q1 => ?_)
  refine br_t (hr.trans hr2.symm) ?_
  exact pl_end xs
set_option maxHeartbeats 8000000 in
set_option maxRecDepth 200000 in
theorem pc_8 (xs : Nat → Int32) : ws_law_566 5 xs (wb_law 5 xs 1) 0 (fun _ => 0) 0 0 0 (fun _ => 0) 0 0 0 0 (fun _ => 0) (fun _ => 0) (fun _ => 0) (fun _ => 0) (fun _ => 0) 0 0 0 0 (fun _ => 0) (fun _ => 0) (fun _ => 0) (fun _ => 0) (fun _ => 0) (fun _ => 0) (upd (upd (upd (upd (upd (fun _ => 0) (0 : Int32).toNatClampNeg 8) (1 : Int32).toNatClampNeg 3) (2 : Int32).toNatClampNeg 5) (3 : Int32).toNatClampNeg 1) (4 : Int32).toNatClampNeg 6) 0 0 0 0 (-1) 0 0 0 0 0 0 0 0 0 (fun _ => 0) (fun _ => 0) (fun _ => 0) (fun _ => 0) (fun _ => 0) 0 0 (fun _ => 0) (fun _ => 0) (fun _ => 0) 0 (fun _ => 0) 0 (fun _ => 0) (fun _ => 0) 0 0 0 0 0 0 0 0 0 0 0 0 0 0 0 0 0 0 0 0 0 0 0 0 0 0 (upd (fun _ => 0) (17 : Int32).toNatClampNeg (-1)) (fun _ => 0) (fun _ => 0) (fun _ => 0) (fun _ => 0) (fun _ => 0) (fun _ => 0) (upd (upd (upd (upd (upd (fun _ => 0) (0 : Int32).toNatClampNeg 8) (1 : Int32).toNatClampNeg 3) (2 : Int32).toNatClampNeg 5) (3 : Int32).toNatClampNeg 1) (4 : Int32).toNatClampNeg 6) (fun _ => 0) (fun _ => 0) (fun _ => 0) (fun _ => 0) (fun _ => 0) (fun _ => 0) (fun _ => 0) (fun _ => 0) (fun _ => 0) (fun _ => 0) (fun _ => 0) (fun _ => 0) (fun _ => 0) (fun _ => 0) (fun _ => 0) (fun _ => 0) (fun _ => 0) (fun _ => 0) := by
  intro va0 ea0; obtain rfl : va0 = 1 := ea0.trans (by decide); refine And.intro (g_in (by decide +kernel)) ?_; intro wa0 fa0; subst fa0
  refine fx_move _ _ (fun r hr o0 o1 o2 o3 o4 o5 o6 => ?_)
  intro vb0 eb0; obtain rfl : vb0 = 1 := eb0.trans (by decide); refine And.intro (g_in (by decide +kernel)) ?_; intro wb0 fb0; subst fb0
  refine fm_move _ _ (fun r2 hr2 q0 q1 q2 q3 => ?_)
  refine br_t (hr.trans hr2.symm) ?_
  exact pl_end xs
set_option maxHeartbeats 8000000 in
set_option maxRecDepth 200000 in
theorem pc_9 (xs : Nat → Int32) : ws_law_591 5 xs (wb_law 5 xs 1) 0 (fun _ => 0) 0 0 0 (fun _ => 0) 0 0 0 0 (fun _ => 0) (fun _ => 0) (fun _ => 0) (fun _ => 0) (fun _ => 0) 0 0 0 0 (fun _ => 0) (fun _ => 0) (fun _ => 0) (fun _ => 0) (fun _ => 0) (fun _ => 0) (upd (upd (upd (upd (upd (fun _ => 0) (0 : Int32).toNatClampNeg 8) (1 : Int32).toNatClampNeg 3) (2 : Int32).toNatClampNeg 5) (3 : Int32).toNatClampNeg 1) (4 : Int32).toNatClampNeg 6) 0 0 0 0 (-1) 0 0 0 0 0 0 0 0 0 (fun _ => 0) (fun _ => 0) (fun _ => 0) (fun _ => 0) (fun _ => 0) 0 0 (fun _ => 0) (fun _ => 0) (fun _ => 0) 0 (fun _ => 0) 0 (fun _ => 0) (fun _ => 0) 0 0 0 0 0 0 0 0 0 0 0 0 0 0 0 0 0 0 0 0 0 0 0 0 0 0 (upd (fun _ => 0) (17 : Int32).toNatClampNeg (-1)) (fun _ => 0) (fun _ => 0) (fun _ => 0) (fun _ => 0) (fun _ => 0) (fun _ => 0) (upd (upd (upd (upd (upd (fun _ => 0) (0 : Int32).toNatClampNeg 8) (1 : Int32).toNatClampNeg 3) (2 : Int32).toNatClampNeg 5) (3 : Int32).toNatClampNeg 1) (4 : Int32).toNatClampNeg 6) (fun _ => 0) (fun _ => 0) (fun _ => 0) (fun _ => 0) (fun _ => 0) (fun _ => 0) (fun _ => 0) (fun _ => 0) (fun _ => 0) (fun _ => 0) (fun _ => 0) (fun _ => 0) (fun _ => 0) (fun _ => 0) (fun _ => 0) (fun _ => 0) (fun _ => 0) (fun _ => 0) := by
  intro va0 ea0; obtain rfl : va0 = 1 := ea0.trans (by decide); refine And.intro (g_in (by decide +kernel)) ?_; intro wa0 fa0; subst fa0
  refine fx_foot _ _ (fun r hr o0 o1 o2 o3 => ?_)
  intro vb0 eb0; obtain rfl : vb0 = 1 := eb0.trans (by decide); refine And.intro (g_in (by decide +kernel)) ?_; intro wb0 fb0; subst fb0
  refine fm_foot _ _ (fun r2 hr2 q0 q1 q2 q3 => ?_)
  refine br_t (hr.trans hr2.symm) ?_
  exact pl_end xs
set_option maxHeartbeats 8000000 in
set_option maxRecDepth 200000 in
theorem pc_10 (xs : Nat → Int32) : ws_law_616 5 xs (wb_law 5 xs 1) 0 (fun _ => 0) 0 0 0 (fun _ => 0) 0 0 0 0 (fun _ => 0) (fun _ => 0) (fun _ => 0) (fun _ => 0) (fun _ => 0) 0 0 0 0 (fun _ => 0) (fun _ => 0) (fun _ => 0) (fun _ => 0) (fun _ => 0) (fun _ => 0) (upd (upd (upd (upd (upd (fun _ => 0) (0 : Int32).toNatClampNeg 8) (1 : Int32).toNatClampNeg 3) (2 : Int32).toNatClampNeg 5) (3 : Int32).toNatClampNeg 1) (4 : Int32).toNatClampNeg 6) 0 0 0 0 (-1) 0 0 0 0 0 0 0 0 0 (fun _ => 0) (fun _ => 0) (fun _ => 0) (fun _ => 0) (fun _ => 0) 0 0 (fun _ => 0) (fun _ => 0) (fun _ => 0) 0 (fun _ => 0) 0 (fun _ => 0) (fun _ => 0) 0 0 0 0 0 0 0 0 0 0 0 0 0 0 0 0 0 0 0 0 0 0 0 0 0 0 (upd (fun _ => 0) (17 : Int32).toNatClampNeg (-1)) (fun _ => 0) (fun _ => 0) (fun _ => 0) (fun _ => 0) (fun _ => 0) (fun _ => 0) (upd (upd (upd (upd (upd (fun _ => 0) (0 : Int32).toNatClampNeg 8) (1 : Int32).toNatClampNeg 3) (2 : Int32).toNatClampNeg 5) (3 : Int32).toNatClampNeg 1) (4 : Int32).toNatClampNeg 6) (fun _ => 0) (fun _ => 0) (fun _ => 0) (fun _ => 0) (fun _ => 0) (fun _ => 0) (fun _ => 0) (fun _ => 0) (fun _ => 0) (fun _ => 0) (fun _ => 0) (fun _ => 0) (fun _ => 0) (fun _ => 0) (fun _ => 0) (fun _ => 0) (fun _ => 0) (fun _ => 0) := by
  intro va0 ea0; obtain rfl : va0 = 1 := ea0.trans (by decide); refine And.intro (g_in (by decide +kernel)) ?_; intro wa0 fa0; subst fa0
  intro va1 ea1; obtain rfl : va1 = 2 := ea1.trans (by decide); refine And.intro (g_in (by decide +kernel)) ?_; intro wa1 fa1; subst fa1
  refine fx_pick _ _ _ (fun r hr o0 o1 o2 o3 o4 o5 o6 o7 => ?_)
  intro vb0 eb0; obtain rfl : vb0 = 1 := eb0.trans (by decide); refine And.intro (g_in (by decide +kernel)) ?_; intro wb0 fb0; subst fb0
  intro vb1 eb1; obtain rfl : vb1 = 2 := eb1.trans (by decide); refine And.intro (g_in (by decide +kernel)) ?_; intro wb1 fb1; subst fb1
  refine fm_pick _ _ _ (fun r2 hr2 q0 q1 q2 q3 q4 q5 q6 q7 q8 q9 q10 q11 q12 q13 => ?_)
  refine br_t (hr.trans hr2.symm) ?_
  exact pl_end xs
set_option maxHeartbeats 8000000 in
set_option maxRecDepth 200000 in
theorem pc_11 (xs : Nat → Int32) : ws_law_653 5 xs (wb_law 5 xs 1) 0 (fun _ => 0) 0 0 0 (fun _ => 0) 0 0 0 0 (fun _ => 0) (fun _ => 0) (fun _ => 0) (fun _ => 0) (fun _ => 0) 0 0 0 0 (fun _ => 0) (fun _ => 0) (fun _ => 0) (fun _ => 0) (fun _ => 0) (fun _ => 0) (upd (upd (upd (upd (upd (fun _ => 0) (0 : Int32).toNatClampNeg 8) (1 : Int32).toNatClampNeg 3) (2 : Int32).toNatClampNeg 5) (3 : Int32).toNatClampNeg 1) (4 : Int32).toNatClampNeg 6) 0 0 0 0 (-1) 0 0 0 0 0 0 0 0 0 (fun _ => 0) (fun _ => 0) (fun _ => 0) (fun _ => 0) (fun _ => 0) 0 0 (fun _ => 0) (fun _ => 0) (fun _ => 0) 0 (fun _ => 0) 0 (fun _ => 0) (fun _ => 0) 0 0 0 0 0 0 0 0 0 0 0 0 0 0 0 0 0 0 0 0 0 0 0 0 0 0 (upd (fun _ => 0) (17 : Int32).toNatClampNeg (-1)) (fun _ => 0) (fun _ => 0) (fun _ => 0) (fun _ => 0) (fun _ => 0) (fun _ => 0) (upd (upd (upd (upd (upd (fun _ => 0) (0 : Int32).toNatClampNeg 8) (1 : Int32).toNatClampNeg 3) (2 : Int32).toNatClampNeg 5) (3 : Int32).toNatClampNeg 1) (4 : Int32).toNatClampNeg 6) (fun _ => 0) (fun _ => 0) (fun _ => 0) (fun _ => 0) (fun _ => 0) (fun _ => 0) (fun _ => 0) (fun _ => 0) (fun _ => 0) (fun _ => 0) (fun _ => 0) (fun _ => 0) (fun _ => 0) (fun _ => 0) (fun _ => 0) (fun _ => 0) (fun _ => 0) (fun _ => 0) := by
  refine fx_down _ (fun r hr o0 o1 o2 o3 o4 o5 => ?_)
  refine fm_down _ (fun r2 hr2 q0 q1 q2 q3 => ?_)
  refine br_t (hr.trans hr2.symm) ?_
  exact pl_end xs
set_option maxHeartbeats 8000000 in
set_option maxRecDepth 200000 in
theorem pc_12 (xs : Nat → Int32) : ws_law_666 5 xs (wb_law 5 xs 1) 0 (fun _ => 0) 0 0 0 (fun _ => 0) 0 0 0 0 (fun _ => 0) (fun _ => 0) (fun _ => 0) (fun _ => 0) (fun _ => 0) 0 0 0 0 (fun _ => 0) (fun _ => 0) (fun _ => 0) (fun _ => 0) (fun _ => 0) (fun _ => 0) (upd (upd (upd (upd (upd (fun _ => 0) (0 : Int32).toNatClampNeg 8) (1 : Int32).toNatClampNeg 3) (2 : Int32).toNatClampNeg 5) (3 : Int32).toNatClampNeg 1) (4 : Int32).toNatClampNeg 6) 0 0 0 0 (-1) 0 0 0 0 0 0 0 0 0 (fun _ => 0) (fun _ => 0) (fun _ => 0) (fun _ => 0) (fun _ => 0) 0 0 (fun _ => 0) (fun _ => 0) (fun _ => 0) 0 (fun _ => 0) 0 (fun _ => 0) (fun _ => 0) 0 0 0 0 0 0 0 0 0 0 0 0 0 0 0 0 0 0 0 0 0 0 0 0 0 0 (upd (fun _ => 0) (17 : Int32).toNatClampNeg (-1)) (fun _ => 0) (fun _ => 0) (fun _ => 0) (fun _ => 0) (fun _ => 0) (fun _ => 0) (upd (upd (upd (upd (upd (fun _ => 0) (0 : Int32).toNatClampNeg 8) (1 : Int32).toNatClampNeg 3) (2 : Int32).toNatClampNeg 5) (3 : Int32).toNatClampNeg 1) (4 : Int32).toNatClampNeg 6) (fun _ => 0) (fun _ => 0) (fun _ => 0) (fun _ => 0) (fun _ => 0) (fun _ => 0) (fun _ => 0) (fun _ => 0) (fun _ => 0) (fun _ => 0) (fun _ => 0) (fun _ => 0) (fun _ => 0) (fun _ => 0) (fun _ => 0) (fun _ => 0) (fun _ => 0) (fun _ => 0) := by
  refine fx_shake _ (fun r hr o0 o1 o2 o3 o4 o5 => ?_)
  refine fm_shake _ (fun r2 hr2 q0 q1 q2 q3 => ?_)
  refine br_t (hr.trans hr2.symm) ?_
  exact pl_end xs
set_option maxHeartbeats 8000000 in
set_option maxRecDepth 200000 in
theorem pc_13 (xs : Nat → Int32) : ws_law_679 5 xs (wb_law 5 xs 1) 0 (fun _ => 0) 0 0 0 (fun _ => 0) 0 0 0 0 (fun _ => 0) (fun _ => 0) (fun _ => 0) (fun _ => 0) (fun _ => 0) 0 0 0 0 (fun _ => 0) (fun _ => 0) (fun _ => 0) (fun _ => 0) (fun _ => 0) (fun _ => 0) (upd (upd (upd (upd (upd (fun _ => 0) (0 : Int32).toNatClampNeg 8) (1 : Int32).toNatClampNeg 3) (2 : Int32).toNatClampNeg 5) (3 : Int32).toNatClampNeg 1) (4 : Int32).toNatClampNeg 6) 0 0 0 0 (-1) 0 0 0 0 0 0 0 0 0 (fun _ => 0) (fun _ => 0) (fun _ => 0) (fun _ => 0) (fun _ => 0) 0 0 (fun _ => 0) (fun _ => 0) (fun _ => 0) 0 (fun _ => 0) 0 (fun _ => 0) (fun _ => 0) 0 0 0 0 0 0 0 0 0 0 0 0 0 0 0 0 0 0 0 0 0 0 0 0 0 0 (upd (fun _ => 0) (17 : Int32).toNatClampNeg (-1)) (fun _ => 0) (fun _ => 0) (fun _ => 0) (fun _ => 0) (fun _ => 0) (fun _ => 0) (upd (upd (upd (upd (upd (fun _ => 0) (0 : Int32).toNatClampNeg 8) (1 : Int32).toNatClampNeg 3) (2 : Int32).toNatClampNeg 5) (3 : Int32).toNatClampNeg 1) (4 : Int32).toNatClampNeg 6) (fun _ => 0) (fun _ => 0) (fun _ => 0) (fun _ => 0) (fun _ => 0) (fun _ => 0) (fun _ => 0) (fun _ => 0) (fun _ => 0) (fun _ => 0) (fun _ => 0) (fun _ => 0) (fun _ => 0) (fun _ => 0) (fun _ => 0) (fun _ => 0) (fun _ => 0) (fun _ => 0) := by
  refine fx_sleep _ (fun r hr o0 o1 o2 o3 o4 o5 o6 o7 => ?_)
  refine fm_sleep _ (fun r2 hr2 q0 q1 q2 q3 => ?_)
  refine br_t (hr.trans hr2.symm) ?_
  exact pl_end xs
set_option maxHeartbeats 8000000 in
set_option maxRecDepth 200000 in
theorem pc_14 (xs : Nat → Int32) : ws_law_692 5 xs (wb_law 5 xs 1) 0 (fun _ => 0) 0 0 0 (fun _ => 0) 0 0 0 0 (fun _ => 0) (fun _ => 0) (fun _ => 0) (fun _ => 0) (fun _ => 0) 0 0 0 0 (fun _ => 0) (fun _ => 0) (fun _ => 0) (fun _ => 0) (fun _ => 0) (fun _ => 0) (upd (upd (upd (upd (upd (fun _ => 0) (0 : Int32).toNatClampNeg 8) (1 : Int32).toNatClampNeg 3) (2 : Int32).toNatClampNeg 5) (3 : Int32).toNatClampNeg 1) (4 : Int32).toNatClampNeg 6) 0 0 0 0 (-1) 0 0 0 0 0 0 0 0 0 (fun _ => 0) (fun _ => 0) (fun _ => 0) (fun _ => 0) (fun _ => 0) 0 0 (fun _ => 0) (fun _ => 0) (fun _ => 0) 0 (fun _ => 0) 0 (fun _ => 0) (fun _ => 0) 0 0 0 0 0 0 0 0 0 0 0 0 0 0 0 0 0 0 0 0 0 0 0 0 0 0 (upd (fun _ => 0) (17 : Int32).toNatClampNeg (-1)) (fun _ => 0) (fun _ => 0) (fun _ => 0) (fun _ => 0) (fun _ => 0) (fun _ => 0) (upd (upd (upd (upd (upd (fun _ => 0) (0 : Int32).toNatClampNeg 8) (1 : Int32).toNatClampNeg 3) (2 : Int32).toNatClampNeg 5) (3 : Int32).toNatClampNeg 1) (4 : Int32).toNatClampNeg 6) (fun _ => 0) (fun _ => 0) (fun _ => 0) (fun _ => 0) (fun _ => 0) (fun _ => 0) (fun _ => 0) (fun _ => 0) (fun _ => 0) (fun _ => 0) (fun _ => 0) (fun _ => 0) (fun _ => 0) (fun _ => 0) (fun _ => 0) (fun _ => 0) (fun _ => 0) (fun _ => 0) := by
  refine fx_day _ (fun r hr o0 o1 o2 o3 o4 o5 o6 o7 o8 o9 o10 o11 o12 o13 o14 o15 o16 o17 o18 => ?_)
  refine fm_day _ (fun r2 hr2 q0 q1 q2 q3 q4 q5 q6 q7 q8 q9 q10 q11 q12 q13 q14 q15 q16 q17 q18 q19 => ?_)
  refine br_t (hr.trans hr2.symm) ?_
  exact pl_end xs
set_option maxHeartbeats 8000000 in
set_option maxRecDepth 200000 in
theorem pc_15 (xs : Nat → Int32) : ws_law_705 5 xs (wb_law 5 xs 1) 0 (fun _ => 0) 0 0 0 (fun _ => 0) 0 0 0 0 (fun _ => 0) (fun _ => 0) (fun _ => 0) (fun _ => 0) (fun _ => 0) 0 0 0 0 (fun _ => 0) (fun _ => 0) (fun _ => 0) (fun _ => 0) (fun _ => 0) (fun _ => 0) (upd (upd (upd (upd (upd (fun _ => 0) (0 : Int32).toNatClampNeg 8) (1 : Int32).toNatClampNeg 3) (2 : Int32).toNatClampNeg 5) (3 : Int32).toNatClampNeg 1) (4 : Int32).toNatClampNeg 6) 0 0 0 0 (-1) 0 0 0 0 0 0 0 0 0 (fun _ => 0) (fun _ => 0) (fun _ => 0) (fun _ => 0) (fun _ => 0) 0 0 (fun _ => 0) (fun _ => 0) (fun _ => 0) 0 (fun _ => 0) 0 (fun _ => 0) (fun _ => 0) 0 0 0 0 0 0 0 0 0 0 0 0 0 0 0 0 0 0 0 0 0 0 0 0 0 0 (upd (fun _ => 0) (17 : Int32).toNatClampNeg (-1)) (fun _ => 0) (fun _ => 0) (fun _ => 0) (fun _ => 0) (fun _ => 0) (fun _ => 0) (upd (upd (upd (upd (upd (fun _ => 0) (0 : Int32).toNatClampNeg 8) (1 : Int32).toNatClampNeg 3) (2 : Int32).toNatClampNeg 5) (3 : Int32).toNatClampNeg 1) (4 : Int32).toNatClampNeg 6) (fun _ => 0) (fun _ => 0) (fun _ => 0) (fun _ => 0) (fun _ => 0) (fun _ => 0) (fun _ => 0) (fun _ => 0) (fun _ => 0) (fun _ => 0) (fun _ => 0) (fun _ => 0) (fun _ => 0) (fun _ => 0) (fun _ => 0) (fun _ => 0) (fun _ => 0) (fun _ => 0) := by
  refine fx_undo _ (fun r hr o0 o1 o2 o3 o4 o5 o6 o7 o8 o9 => ?_)
  refine fm_undo _ (fun r2 hr2 q0 q1 q2 => ?_)
  refine br_t (hr.trans hr2.symm) ?_
  exact pl_end xs
set_option maxHeartbeats 8000000 in
set_option maxRecDepth 200000 in
theorem pc_16 (xs : Nat → Int32) : ws_law_718 5 xs (wb_law 5 xs 1) 0 (fun _ => 0) 0 0 0 (fun _ => 0) 0 0 0 0 (fun _ => 0) (fun _ => 0) (fun _ => 0) (fun _ => 0) (fun _ => 0) 0 0 0 0 (fun _ => 0) (fun _ => 0) (fun _ => 0) (fun _ => 0) (fun _ => 0) (fun _ => 0) (upd (upd (upd (upd (upd (fun _ => 0) (0 : Int32).toNatClampNeg 8) (1 : Int32).toNatClampNeg 3) (2 : Int32).toNatClampNeg 5) (3 : Int32).toNatClampNeg 1) (4 : Int32).toNatClampNeg 6) 0 0 0 0 (-1) 0 0 0 0 0 0 0 0 0 (fun _ => 0) (fun _ => 0) (fun _ => 0) (fun _ => 0) (fun _ => 0) 0 0 (fun _ => 0) (fun _ => 0) (fun _ => 0) 0 (fun _ => 0) 0 (fun _ => 0) (fun _ => 0) 0 0 0 0 0 0 0 0 0 0 0 0 0 0 0 0 0 0 0 0 0 0 0 0 0 0 (upd (fun _ => 0) (17 : Int32).toNatClampNeg (-1)) (fun _ => 0) (fun _ => 0) (fun _ => 0) (fun _ => 0) (fun _ => 0) (fun _ => 0) (upd (upd (upd (upd (upd (fun _ => 0) (0 : Int32).toNatClampNeg 8) (1 : Int32).toNatClampNeg 3) (2 : Int32).toNatClampNeg 5) (3 : Int32).toNatClampNeg 1) (4 : Int32).toNatClampNeg 6) (fun _ => 0) (fun _ => 0) (fun _ => 0) (fun _ => 0) (fun _ => 0) (fun _ => 0) (fun _ => 0) (fun _ => 0) (fun _ => 0) (fun _ => 0) (fun _ => 0) (fun _ => 0) (fun _ => 0) (fun _ => 0) (fun _ => 0) (fun _ => 0) (fun _ => 0) (fun _ => 0) := by
  intro va0 ea0; obtain rfl : va0 = 1 := ea0.trans (by decide); refine And.intro (g_in (by decide +kernel)) ?_; intro wa0 fa0; subst fa0
  refine fx_reached _ _ (fun r hr o0 o1 => ?_)
  intro vb0 eb0; obtain rfl : vb0 = 1 := eb0.trans (by decide); refine And.intro (g_in (by decide +kernel)) ?_; intro wb0 fb0; subst fb0
  refine fm_reached _ _ (fun r2 hr2 q0 q1 q2 => ?_)
  refine br_t (hr.trans hr2.symm) ?_
  exact pl_end xs
set_option maxHeartbeats 8000000 in
set_option maxRecDepth 200000 in
theorem pc_17 (xs : Nat → Int32) : ws_law_743 5 xs (wb_law 5 xs 1) 0 (fun _ => 0) 0 0 0 (fun _ => 0) 0 0 0 0 (fun _ => 0) (fun _ => 0) (fun _ => 0) (fun _ => 0) (fun _ => 0) 0 0 0 0 (fun _ => 0) (fun _ => 0) (fun _ => 0) (fun _ => 0) (fun _ => 0) (fun _ => 0) (upd (upd (upd (upd (upd (fun _ => 0) (0 : Int32).toNatClampNeg 8) (1 : Int32).toNatClampNeg 3) (2 : Int32).toNatClampNeg 5) (3 : Int32).toNatClampNeg 1) (4 : Int32).toNatClampNeg 6) 0 0 0 0 (-1) 0 0 0 0 0 0 0 0 0 (fun _ => 0) (fun _ => 0) (fun _ => 0) (fun _ => 0) (fun _ => 0) 0 0 (fun _ => 0) (fun _ => 0) (fun _ => 0) 0 (fun _ => 0) 0 (fun _ => 0) (fun _ => 0) 0 0 0 0 0 0 0 0 0 0 0 0 0 0 0 0 0 0 0 0 0 0 0 0 0 0 (upd (fun _ => 0) (17 : Int32).toNatClampNeg (-1)) (fun _ => 0) (fun _ => 0) (fun _ => 0) (fun _ => 0) (fun _ => 0) (fun _ => 0) (upd (upd (upd (upd (upd (fun _ => 0) (0 : Int32).toNatClampNeg 8) (1 : Int32).toNatClampNeg 3) (2 : Int32).toNatClampNeg 5) (3 : Int32).toNatClampNeg 1) (4 : Int32).toNatClampNeg 6) (fun _ => 0) (fun _ => 0) (fun _ => 0) (fun _ => 0) (fun _ => 0) (fun _ => 0) (fun _ => 0) (fun _ => 0) (fun _ => 0) (fun _ => 0) (fun _ => 0) (fun _ => 0) (fun _ => 0) (fun _ => 0) (fun _ => 0) (fun _ => 0) (fun _ => 0) (fun _ => 0) := by
  intro va0 ea0; obtain rfl : va0 = 1 := ea0.trans (by decide); refine And.intro (g_in (by decide +kernel)) ?_; intro wa0 fa0; subst fa0
  intro va1 ea1; obtain rfl : va1 = 2 := ea1.trans (by decide); refine And.intro (g_in (by decide +kernel)) ?_; intro wa1 fa1; subst fa1
  refine fx_from _ _ _ (fun r hr => ?_)
  intro vb0 eb0; obtain rfl : vb0 = 1 := eb0.trans (by decide); refine And.intro (g_in (by decide +kernel)) ?_; intro wb0 fb0; subst fb0
  intro vb1 eb1; obtain rfl : vb1 = 2 := eb1.trans (by decide); refine And.intro (g_in (by decide +kernel)) ?_; intro wb1 fb1; subst fb1
  refine fm_from _ _ _ (fun r2 hr2 q0 => ?_)
  refine br_t (hr.trans hr2.symm) ?_
  exact pl_end xs
set_option maxHeartbeats 8000000 in
set_option maxRecDepth 200000 in
theorem pc_18 (xs : Nat → Int32) : ws_law_780 5 xs (wb_law 5 xs 1) 0 (fun _ => 0) 0 0 0 (fun _ => 0) 0 0 0 0 (fun _ => 0) (fun _ => 0) (fun _ => 0) (fun _ => 0) (fun _ => 0) 0 0 0 0 (fun _ => 0) (fun _ => 0) (fun _ => 0) (fun _ => 0) (fun _ => 0) (fun _ => 0) (upd (upd (upd (upd (upd (fun _ => 0) (0 : Int32).toNatClampNeg 8) (1 : Int32).toNatClampNeg 3) (2 : Int32).toNatClampNeg 5) (3 : Int32).toNatClampNeg 1) (4 : Int32).toNatClampNeg 6) 0 0 0 0 (-1) 0 0 0 0 0 0 0 0 0 (fun _ => 0) (fun _ => 0) (fun _ => 0) (fun _ => 0) (fun _ => 0) 0 0 (fun _ => 0) (fun _ => 0) (fun _ => 0) 0 (fun _ => 0) 0 (fun _ => 0) (fun _ => 0) 0 0 0 0 0 0 0 0 0 0 0 0 0 0 0 0 0 0 0 0 0 0 0 0 0 0 (upd (fun _ => 0) (17 : Int32).toNatClampNeg (-1)) (fun _ => 0) (fun _ => 0) (fun _ => 0) (fun _ => 0) (fun _ => 0) (fun _ => 0) (upd (upd (upd (upd (upd (fun _ => 0) (0 : Int32).toNatClampNeg 8) (1 : Int32).toNatClampNeg 3) (2 : Int32).toNatClampNeg 5) (3 : Int32).toNatClampNeg 1) (4 : Int32).toNatClampNeg 6) (fun _ => 0) (fun _ => 0) (fun _ => 0) (fun _ => 0) (fun _ => 0) (fun _ => 0) (fun _ => 0) (fun _ => 0) (fun _ => 0) (fun _ => 0) (fun _ => 0) (fun _ => 0) (fun _ => 0) (fun _ => 0) (fun _ => 0) (fun _ => 0) (fun _ => 0) (fun _ => 0) := by
  refine fx_never _ (fun r hr o0 o1 => ?_)
  refine fm_never _ (fun r2 hr2 q0 q1 q2 => ?_)
  refine br_t (hr.trans hr2.symm) ?_
  exact pl_end xs
set_option maxHeartbeats 8000000 in
set_option maxRecDepth 200000 in
theorem pc_19 (xs : Nat → Int32) : ws_law_793 5 xs (wb_law 5 xs 1) 0 (fun _ => 0) 0 0 0 (fun _ => 0) 0 0 0 0 (fun _ => 0) (fun _ => 0) (fun _ => 0) (fun _ => 0) (fun _ => 0) 0 0 0 0 (fun _ => 0) (fun _ => 0) (fun _ => 0) (fun _ => 0) (fun _ => 0) (fun _ => 0) (upd (upd (upd (upd (upd (fun _ => 0) (0 : Int32).toNatClampNeg 8) (1 : Int32).toNatClampNeg 3) (2 : Int32).toNatClampNeg 5) (3 : Int32).toNatClampNeg 1) (4 : Int32).toNatClampNeg 6) 0 0 0 0 (-1) 0 0 0 0 0 0 0 0 0 (fun _ => 0) (fun _ => 0) (fun _ => 0) (fun _ => 0) (fun _ => 0) 0 0 (fun _ => 0) (fun _ => 0) (fun _ => 0) 0 (fun _ => 0) 0 (fun _ => 0) (fun _ => 0) 0 0 0 0 0 0 0 0 0 0 0 0 0 0 0 0 0 0 0 0 0 0 0 0 0 0 (upd (fun _ => 0) (17 : Int32).toNatClampNeg (-1)) (fun _ => 0) (fun _ => 0) (fun _ => 0) (fun _ => 0) (fun _ => 0) (fun _ => 0) (upd (upd (upd (upd (upd (fun _ => 0) (0 : Int32).toNatClampNeg 8) (1 : Int32).toNatClampNeg 3) (2 : Int32).toNatClampNeg 5) (3 : Int32).toNatClampNeg 1) (4 : Int32).toNatClampNeg 6) (fun _ => 0) (fun _ => 0) (fun _ => 0) (fun _ => 0) (fun _ => 0) (fun _ => 0) (fun _ => 0) (fun _ => 0) (fun _ => 0) (fun _ => 0) (fun _ => 0) (fun _ => 0) (fun _ => 0) (fun _ => 0) (fun _ => 0) (fun _ => 0) (fun _ => 0) (fun _ => 0) := by
  intro va0 ea0; obtain rfl : va0 = 1 := ea0.trans (by decide); refine And.intro (g_in (by decide +kernel)) ?_; intro wa0 fa0; subst fa0
  intro va1 ea1; obtain rfl : va1 = 2 := ea1.trans (by decide); refine And.intro (g_in (by decide +kernel)) ?_; intro wa1 fa1; subst fa1
  intro va2 ea2; obtain rfl : va2 = 3 := ea2.trans (by decide); refine And.intro (g_in (by decide +kernel)) ?_; intro wa2 fa2; subst fa2
  refine fx_seconds _ _ _ _ (fun r hr o0 o1 => ?_)
  intro vb0 eb0; obtain rfl : vb0 = 1 := eb0.trans (by decide); refine And.intro (g_in (by decide +kernel)) ?_; intro wb0 fb0; subst fb0
  intro vb1 eb1; obtain rfl : vb1 = 2 := eb1.trans (by decide); refine And.intro (g_in (by decide +kernel)) ?_; intro wb1 fb1; subst fb1
  intro vb2 eb2; obtain rfl : vb2 = 3 := eb2.trans (by decide); refine And.intro (g_in (by decide +kernel)) ?_; intro wb2 fb2; subst fb2
  refine fm_seconds _ _ _ _ (fun r2 hr2 q0 q1 q2 q3 q4 q5 q6 q7 q8 q9 q10 => ?_)
  refine br_t (hr.trans hr2.symm) ?_
  exact pl_end xs
set_option maxHeartbeats 8000000 in
set_option maxRecDepth 200000 in
theorem pc_20 (xs : Nat → Int32) : ws_law_842 5 xs (wb_law 5 xs 1) 0 (fun _ => 0) 0 0 0 (fun _ => 0) 0 0 0 0 (fun _ => 0) (fun _ => 0) (fun _ => 0) (fun _ => 0) (fun _ => 0) 0 0 0 0 (fun _ => 0) (fun _ => 0) (fun _ => 0) (fun _ => 0) (fun _ => 0) (fun _ => 0) (upd (upd (upd (upd (upd (fun _ => 0) (0 : Int32).toNatClampNeg 8) (1 : Int32).toNatClampNeg 3) (2 : Int32).toNatClampNeg 5) (3 : Int32).toNatClampNeg 1) (4 : Int32).toNatClampNeg 6) 0 0 0 0 (-1) 0 0 0 0 0 0 0 0 0 (fun _ => 0) (fun _ => 0) (fun _ => 0) (fun _ => 0) (fun _ => 0) 0 0 (fun _ => 0) (fun _ => 0) (fun _ => 0) 0 (fun _ => 0) 0 (fun _ => 0) (fun _ => 0) 0 0 0 0 0 0 0 0 0 0 0 0 0 0 0 0 0 0 0 0 0 0 0 0 0 0 (upd (fun _ => 0) (17 : Int32).toNatClampNeg (-1)) (fun _ => 0) (fun _ => 0) (fun _ => 0) (fun _ => 0) (fun _ => 0) (fun _ => 0) (upd (upd (upd (upd (upd (fun _ => 0) (0 : Int32).toNatClampNeg 8) (1 : Int32).toNatClampNeg 3) (2 : Int32).toNatClampNeg 5) (3 : Int32).toNatClampNeg 1) (4 : Int32).toNatClampNeg 6) (fun _ => 0) (fun _ => 0) (fun _ => 0) (fun _ => 0) (fun _ => 0) (fun _ => 0) (fun _ => 0) (fun _ => 0) (fun _ => 0) (fun _ => 0) (fun _ => 0) (fun _ => 0) (fun _ => 0) (fun _ => 0) (fun _ => 0) (fun _ => 0) (fun _ => 0) (fun _ => 0) := by
  intro va0 ea0; obtain rfl : va0 = 1 := ea0.trans (by decide); refine And.intro (g_in (by decide +kernel)) ?_; intro wa0 fa0; subst fa0
  intro va1 ea1; obtain rfl : va1 = 2 := ea1.trans (by decide); refine And.intro (g_in (by decide +kernel)) ?_; intro wa1 fa1; subst fa1
  refine fx_both _ _ _ (fun r hr o0 o1 o2 o3 => ?_)
  intro vb0 eb0; obtain rfl : vb0 = 1 := eb0.trans (by decide); refine And.intro (g_in (by decide +kernel)) ?_; intro wb0 fb0; subst fb0
  intro vb1 eb1; obtain rfl : vb1 = 2 := eb1.trans (by decide); refine And.intro (g_in (by decide +kernel)) ?_; intro wb1 fb1; subst fb1
  refine fm_both _ _ _ (fun r2 hr2 q0 q1 q2 q3 q4 => ?_)
  refine br_t (hr.trans hr2.symm) ?_
  exact pl_end xs
set_option maxHeartbeats 8000000 in
set_option maxRecDepth 200000 in
theorem pc_21 (xs : Nat → Int32) : ws_law_879 5 xs (wb_law 5 xs 1) 0 (fun _ => 0) 0 0 0 (fun _ => 0) 0 0 0 0 (fun _ => 0) (fun _ => 0) (fun _ => 0) (fun _ => 0) (fun _ => 0) 0 0 0 0 (fun _ => 0) (fun _ => 0) (fun _ => 0) (fun _ => 0) (fun _ => 0) (fun _ => 0) (upd (upd (upd (upd (upd (fun _ => 0) (0 : Int32).toNatClampNeg 8) (1 : Int32).toNatClampNeg 3) (2 : Int32).toNatClampNeg 5) (3 : Int32).toNatClampNeg 1) (4 : Int32).toNatClampNeg 6) 0 0 0 0 (-1) 0 0 0 0 0 0 0 0 0 (fun _ => 0) (fun _ => 0) (fun _ => 0) (fun _ => 0) (fun _ => 0) 0 0 (fun _ => 0) (fun _ => 0) (fun _ => 0) 0 (fun _ => 0) 0 (fun _ => 0) (fun _ => 0) 0 0 0 0 0 0 0 0 0 0 0 0 0 0 0 0 0 0 0 0 0 0 0 0 0 0 (upd (fun _ => 0) (17 : Int32).toNatClampNeg (-1)) (fun _ => 0) (fun _ => 0) (fun _ => 0) (fun _ => 0) (fun _ => 0) (fun _ => 0) (upd (upd (upd (upd (upd (fun _ => 0) (0 : Int32).toNatClampNeg 8) (1 : Int32).toNatClampNeg 3) (2 : Int32).toNatClampNeg 5) (3 : Int32).toNatClampNeg 1) (4 : Int32).toNatClampNeg 6) (fun _ => 0) (fun _ => 0) (fun _ => 0) (fun _ => 0) (fun _ => 0) (fun _ => 0) (fun _ => 0) (fun _ => 0) (fun _ => 0) (fun _ => 0) (fun _ => 0) (fun _ => 0) (fun _ => 0) (fun _ => 0) (fun _ => 0) (fun _ => 0) (fun _ => 0) (fun _ => 0) := by
  intro va0 ea0; obtain rfl : va0 = 1 := ea0.trans (by decide); refine And.intro (g_in (by decide +kernel)) ?_; intro wa0 fa0; subst fa0
  refine fx_nearest _ _ (fun r hr o0 o1 => ?_)
  intro vb0 eb0; obtain rfl : vb0 = 1 := eb0.trans (by decide); refine And.intro (g_in (by decide +kernel)) ?_; intro wb0 fb0; subst fb0
  refine fm_nearest _ _ (fun r2 hr2 q0 q1 q2 => ?_)
  refine br_t (hr.trans hr2.symm) ?_
  exact pl_end xs
set_option maxHeartbeats 8000000 in
set_option maxRecDepth 200000 in
theorem pc_22 (xs : Nat → Int32) : ws_law_904 5 xs (wb_law 5 xs 1) 0 (fun _ => 0) 0 0 0 (fun _ => 0) 0 0 0 0 (fun _ => 0) (fun _ => 0) (fun _ => 0) (fun _ => 0) (fun _ => 0) 0 0 0 0 (fun _ => 0) (fun _ => 0) (fun _ => 0) (fun _ => 0) (fun _ => 0) (fun _ => 0) (upd (upd (upd (upd (upd (fun _ => 0) (0 : Int32).toNatClampNeg 8) (1 : Int32).toNatClampNeg 3) (2 : Int32).toNatClampNeg 5) (3 : Int32).toNatClampNeg 1) (4 : Int32).toNatClampNeg 6) 0 0 0 0 (-1) 0 0 0 0 0 0 0 0 0 (fun _ => 0) (fun _ => 0) (fun _ => 0) (fun _ => 0) (fun _ => 0) 0 0 (fun _ => 0) (fun _ => 0) (fun _ => 0) 0 (fun _ => 0) 0 (fun _ => 0) (fun _ => 0) 0 0 0 0 0 0 0 0 0 0 0 0 0 0 0 0 0 0 0 0 0 0 0 0 0 0 (upd (fun _ => 0) (17 : Int32).toNatClampNeg (-1)) (fun _ => 0) (fun _ => 0) (fun _ => 0) (fun _ => 0) (fun _ => 0) (fun _ => 0) (upd (upd (upd (upd (upd (fun _ => 0) (0 : Int32).toNatClampNeg 8) (1 : Int32).toNatClampNeg 3) (2 : Int32).toNatClampNeg 5) (3 : Int32).toNatClampNeg 1) (4 : Int32).toNatClampNeg 6) (fun _ => 0) (fun _ => 0) (fun _ => 0) (fun _ => 0) (fun _ => 0) (fun _ => 0) (fun _ => 0) (fun _ => 0) (fun _ => 0) (fun _ => 0) (fun _ => 0) (fun _ => 0) (fun _ => 0) (fun _ => 0) (fun _ => 0) (fun _ => 0) (fun _ => 0) (fun _ => 0) := by
  refine fx_fewest _ (fun r hr o0 o1 o2 o3 => ?_)
  refine fm_fewest _ (fun r2 hr2 q0 q1 q2 q3 q4 => ?_)
  refine br_t (hr.trans hr2.symm) ?_
  exact pl_end xs
set_option maxHeartbeats 8000000 in
set_option maxRecDepth 200000 in
theorem pc_23 (xs : Nat → Int32) : ws_law_917 5 xs (wb_law 5 xs 1) 0 (fun _ => 0) 0 0 0 (fun _ => 0) 0 0 0 0 (fun _ => 0) (fun _ => 0) (fun _ => 0) (fun _ => 0) (fun _ => 0) 0 0 0 0 (fun _ => 0) (fun _ => 0) (fun _ => 0) (fun _ => 0) (fun _ => 0) (fun _ => 0) (upd (upd (upd (upd (upd (fun _ => 0) (0 : Int32).toNatClampNeg 8) (1 : Int32).toNatClampNeg 3) (2 : Int32).toNatClampNeg 5) (3 : Int32).toNatClampNeg 1) (4 : Int32).toNatClampNeg 6) 0 0 0 0 (-1) 0 0 0 0 0 0 0 0 0 (fun _ => 0) (fun _ => 0) (fun _ => 0) (fun _ => 0) (fun _ => 0) 0 0 (fun _ => 0) (fun _ => 0) (fun _ => 0) 0 (fun _ => 0) 0 (fun _ => 0) (fun _ => 0) 0 0 0 0 0 0 0 0 0 0 0 0 0 0 0 0 0 0 0 0 0 0 0 0 0 0 (upd (fun _ => 0) (17 : Int32).toNatClampNeg (-1)) (fun _ => 0) (fun _ => 0) (fun _ => 0) (fun _ => 0) (fun _ => 0) (fun _ => 0) (upd (upd (upd (upd (upd (fun _ => 0) (0 : Int32).toNatClampNeg 8) (1 : Int32).toNatClampNeg 3) (2 : Int32).toNatClampNeg 5) (3 : Int32).toNatClampNeg 1) (4 : Int32).toNatClampNeg 6) (fun _ => 0) (fun _ => 0) (fun _ => 0) (fun _ => 0) (fun _ => 0) (fun _ => 0) (fun _ => 0) (fun _ => 0) (fun _ => 0) (fun _ => 0) (fun _ => 0) (fun _ => 0) (fun _ => 0) (fun _ => 0) (fun _ => 0) (fun _ => 0) (fun _ => 0) (fun _ => 0) := by
  refine fx_needed _ (fun r hr o0 o1 o2 o3 => ?_)
  refine fm_needed _ (fun r2 hr2 q0 q1 q2 q3 q4 => ?_)
  refine br_t (hr.trans hr2.symm) ?_
  exact pl_end xs
set_option maxHeartbeats 8000000 in
set_option maxRecDepth 200000 in
theorem pc_24 (xs : Nat → Int32) : ws_law_930 5 xs (wb_law 5 xs 1) 0 (fun _ => 0) 0 0 0 (fun _ => 0) 0 0 0 0 (fun _ => 0) (fun _ => 0) (fun _ => 0) (fun _ => 0) (fun _ => 0) 0 0 0 0 (fun _ => 0) (fun _ => 0) (fun _ => 0) (fun _ => 0) (fun _ => 0) (fun _ => 0) (upd (upd (upd (upd (upd (fun _ => 0) (0 : Int32).toNatClampNeg 8) (1 : Int32).toNatClampNeg 3) (2 : Int32).toNatClampNeg 5) (3 : Int32).toNatClampNeg 1) (4 : Int32).toNatClampNeg 6) 0 0 0 0 (-1) 0 0 0 0 0 0 0 0 0 (fun _ => 0) (fun _ => 0) (fun _ => 0) (fun _ => 0) (fun _ => 0) 0 0 (fun _ => 0) (fun _ => 0) (fun _ => 0) 0 (fun _ => 0) 0 (fun _ => 0) (fun _ => 0) 0 0 0 0 0 0 0 0 0 0 0 0 0 0 0 0 0 0 0 0 0 0 0 0 0 0 (upd (fun _ => 0) (17 : Int32).toNatClampNeg (-1)) (fun _ => 0) (fun _ => 0) (fun _ => 0) (fun _ => 0) (fun _ => 0) (fun _ => 0) (upd (upd (upd (upd (upd (fun _ => 0) (0 : Int32).toNatClampNeg 8) (1 : Int32).toNatClampNeg 3) (2 : Int32).toNatClampNeg 5) (3 : Int32).toNatClampNeg 1) (4 : Int32).toNatClampNeg 6) (fun _ => 0) (fun _ => 0) (fun _ => 0) (fun _ => 0) (fun _ => 0) (fun _ => 0) (fun _ => 0) (fun _ => 0) (fun _ => 0) (fun _ => 0) (fun _ => 0) (fun _ => 0) (fun _ => 0) (fun _ => 0) (fun _ => 0) (fun _ => 0) (fun _ => 0) (fun _ => 0) := by
  intro va0 ea0; obtain rfl : va0 = 1 := ea0.trans (by decide); refine And.intro (g_in (by decide +kernel)) ?_; intro wa0 fa0; subst fa0
  refine fx_birds _ _ (fun r hr o0 o1 o2 o3 => ?_)
  intro vb0 eb0; obtain rfl : vb0 = 1 := eb0.trans (by decide); refine And.intro (g_in (by decide +kernel)) ?_; intro wb0 fb0; subst fb0
  refine fm_birds _ _ (fun r2 hr2 q0 q1 q2 q3 q4 => ?_)
  refine br_t (hr.trans hr2.symm) ?_
  exact pl_end xs
set_option maxHeartbeats 8000000 in
set_option maxRecDepth 200000 in
theorem pc_25 (xs : Nat → Int32) : ws_law_955 5 xs (wb_law 5 xs 1) 0 (fun _ => 0) 0 0 0 (fun _ => 0) 0 0 0 0 (fun _ => 0) (fun _ => 0) (fun _ => 0) (fun _ => 0) (fun _ => 0) 0 0 0 0 (fun _ => 0) (fun _ => 0) (fun _ => 0) (fun _ => 0) (fun _ => 0) (fun _ => 0) (upd (upd (upd (upd (upd (fun _ => 0) (0 : Int32).toNatClampNeg 8) (1 : Int32).toNatClampNeg 3) (2 : Int32).toNatClampNeg 5) (3 : Int32).toNatClampNeg 1) (4 : Int32).toNatClampNeg 6) 0 0 0 0 (-1) 0 0 0 0 0 0 0 0 0 (fun _ => 0) (fun _ => 0) (fun _ => 0) (fun _ => 0) (fun _ => 0) 0 0 (fun _ => 0) (fun _ => 0) (fun _ => 0) 0 (fun _ => 0) 0 (fun _ => 0) (fun _ => 0) 0 0 0 0 0 0 0 0 0 0 0 0 0 0 0 0 0 0 0 0 0 0 0 0 0 0 (upd (fun _ => 0) (17 : Int32).toNatClampNeg (-1)) (fun _ => 0) (fun _ => 0) (fun _ => 0) (fun _ => 0) (fun _ => 0) (fun _ => 0) (upd (upd (upd (upd (upd (fun _ => 0) (0 : Int32).toNatClampNeg 8) (1 : Int32).toNatClampNeg 3) (2 : Int32).toNatClampNeg 5) (3 : Int32).toNatClampNeg 1) (4 : Int32).toNatClampNeg 6) (fun _ => 0) (fun _ => 0) (fun _ => 0) (fun _ => 0) (fun _ => 0) (fun _ => 0) (fun _ => 0) (fun _ => 0) (fun _ => 0) (fun _ => 0) (fun _ => 0) (fun _ => 0) (fun _ => 0) (fun _ => 0) (fun _ => 0) (fun _ => 0) (fun _ => 0) (fun _ => 0) := by
  intro va0 ea0; obtain rfl : va0 = 1 := ea0.trans (by decide); refine And.intro (g_in (by decide +kernel)) ?_; intro wa0 fa0; subst fa0
  refine fx_next _ _ (fun r hr o0 o1 o2 o3 => ?_)
  intro vb0 eb0; obtain rfl : vb0 = 1 := eb0.trans (by decide); refine And.intro (g_in (by decide +kernel)) ?_; intro wb0 fb0; subst fb0
  refine fm_next _ _ (fun r2 hr2 q0 q1 q2 q3 q4 => ?_)
  refine br_t (hr.trans hr2.symm) ?_
  exact pl_end xs
set_option maxHeartbeats 8000000 in
set_option maxRecDepth 200000 in
theorem pc_26 (xs : Nat → Int32) : ws_law_980 5 xs (wb_law 5 xs 1) 0 (fun _ => 0) 0 0 0 (fun _ => 0) 0 0 0 0 (fun _ => 0) (fun _ => 0) (fun _ => 0) (fun _ => 0) (fun _ => 0) 0 0 0 0 (fun _ => 0) (fun _ => 0) (fun _ => 0) (fun _ => 0) (fun _ => 0) (fun _ => 0) (upd (upd (upd (upd (upd (fun _ => 0) (0 : Int32).toNatClampNeg 8) (1 : Int32).toNatClampNeg 3) (2 : Int32).toNatClampNeg 5) (3 : Int32).toNatClampNeg 1) (4 : Int32).toNatClampNeg 6) 0 0 0 0 (-1) 0 0 0 0 0 0 0 0 0 (fun _ => 0) (fun _ => 0) (fun _ => 0) (fun _ => 0) (fun _ => 0) 0 0 (fun _ => 0) (fun _ => 0) (fun _ => 0) 0 (fun _ => 0) 0 (fun _ => 0) (fun _ => 0) 0 0 0 0 0 0 0 0 0 0 0 0 0 0 0 0 0 0 0 0 0 0 0 0 0 0 (upd (fun _ => 0) (17 : Int32).toNatClampNeg (-1)) (fun _ => 0) (fun _ => 0) (fun _ => 0) (fun _ => 0) (fun _ => 0) (fun _ => 0) (upd (upd (upd (upd (upd (fun _ => 0) (0 : Int32).toNatClampNeg 8) (1 : Int32).toNatClampNeg 3) (2 : Int32).toNatClampNeg 5) (3 : Int32).toNatClampNeg 1) (4 : Int32).toNatClampNeg 6) (fun _ => 0) (fun _ => 0) (fun _ => 0) (fun _ => 0) (fun _ => 0) (fun _ => 0) (fun _ => 0) (fun _ => 0) (fun _ => 0) (fun _ => 0) (fun _ => 0) (fun _ => 0) (fun _ => 0) (fun _ => 0) (fun _ => 0) (fun _ => 0) (fun _ => 0) (fun _ => 0) := by
  intro va0 ea0; obtain rfl : va0 = 1 := ea0.trans (by decide); refine And.intro (g_in (by decide +kernel)) ?_; intro wa0 fa0; subst fa0
  refine fx_route _ _ (fun r hr o0 o1 => ?_)
  intro vb0 eb0; obtain rfl : vb0 = 1 := eb0.trans (by decide); refine And.intro (g_in (by decide +kernel)) ?_; intro wb0 fb0; subst fb0
  refine fm_route _ _ (fun r2 hr2 q0 q1 q2 q3 => ?_)
  refine br_t (hr.trans hr2.symm) ?_
  exact pl_end xs
set_option maxHeartbeats 8000000 in
set_option maxRecDepth 200000 in
theorem pc_27 (xs : Nat → Int32) : ws_law_1005 5 xs (wb_law 5 xs 1) 0 (fun _ => 0) 0 0 0 (fun _ => 0) 0 0 0 0 (fun _ => 0) (fun _ => 0) (fun _ => 0) (fun _ => 0) (fun _ => 0) 0 0 0 0 (fun _ => 0) (fun _ => 0) (fun _ => 0) (fun _ => 0) (fun _ => 0) (fun _ => 0) (upd (upd (upd (upd (upd (fun _ => 0) (0 : Int32).toNatClampNeg 8) (1 : Int32).toNatClampNeg 3) (2 : Int32).toNatClampNeg 5) (3 : Int32).toNatClampNeg 1) (4 : Int32).toNatClampNeg 6) 0 0 0 0 (-1) 0 0 0 0 0 0 0 0 0 (fun _ => 0) (fun _ => 0) (fun _ => 0) (fun _ => 0) (fun _ => 0) 0 0 (fun _ => 0) (fun _ => 0) (fun _ => 0) 0 (fun _ => 0) 0 (fun _ => 0) (fun _ => 0) 0 0 0 0 0 0 0 0 0 0 0 0 0 0 0 0 0 0 0 0 0 0 0 0 0 0 (upd (fun _ => 0) (17 : Int32).toNatClampNeg (-1)) (fun _ => 0) (fun _ => 0) (fun _ => 0) (fun _ => 0) (fun _ => 0) (fun _ => 0) (upd (upd (upd (upd (upd (fun _ => 0) (0 : Int32).toNatClampNeg 8) (1 : Int32).toNatClampNeg 3) (2 : Int32).toNatClampNeg 5) (3 : Int32).toNatClampNeg 1) (4 : Int32).toNatClampNeg 6) (fun _ => 0) (fun _ => 0) (fun _ => 0) (fun _ => 0) (fun _ => 0) (fun _ => 0) (fun _ => 0) (fun _ => 0) (fun _ => 0) (fun _ => 0) (fun _ => 0) (fun _ => 0) (fun _ => 0) (fun _ => 0) (fun _ => 0) (fun _ => 0) (fun _ => 0) (fun _ => 0) := by
  intro va0 ea0; obtain rfl : va0 = 1 := ea0.trans (by decide); refine And.intro (g_in (by decide +kernel)) ?_; intro wa0 fa0; subst fa0
  refine fx_work _ _ (fun r hr o0 o1 o2 o3 o4 o5 o6 o7 o8 o9 o10 => ?_)
  intro vb0 eb0; obtain rfl : vb0 = 1 := eb0.trans (by decide); refine And.intro (g_in (by decide +kernel)) ?_; intro wb0 fb0; subst fb0
  refine fm_work _ _ (fun r2 hr2 q0 q1 q2 q3 q4 q5 q6 q7 q8 q9 q10 q11 q12 q13 q14 q15 q16 q17 q18 q19 q20 => ?_)
  refine br_t (hr.trans hr2.symm) ?_
  exact pl_end xs
set_option maxHeartbeats 8000000 in
set_option maxRecDepth 200000 in
theorem pc_28 (xs : Nat → Int32) : ws_law_1030 5 xs (wb_law 5 xs 1) 0 (fun _ => 0) 0 0 0 (fun _ => 0) 0 0 0 0 (fun _ => 0) (fun _ => 0) (fun _ => 0) (fun _ => 0) (fun _ => 0) 0 0 0 0 (fun _ => 0) (fun _ => 0) (fun _ => 0) (fun _ => 0) (fun _ => 0) (fun _ => 0) (upd (upd (upd (upd (upd (fun _ => 0) (0 : Int32).toNatClampNeg 8) (1 : Int32).toNatClampNeg 3) (2 : Int32).toNatClampNeg 5) (3 : Int32).toNatClampNeg 1) (4 : Int32).toNatClampNeg 6) 0 0 0 0 (-1) 0 0 0 0 0 0 0 0 0 (fun _ => 0) (fun _ => 0) (fun _ => 0) (fun _ => 0) (fun _ => 0) 0 0 (fun _ => 0) (fun _ => 0) (fun _ => 0) 0 (fun _ => 0) 0 (fun _ => 0) (fun _ => 0) 0 0 0 0 0 0 0 0 0 0 0 0 0 0 0 0 0 0 0 0 0 0 0 0 0 0 (upd (fun _ => 0) (17 : Int32).toNatClampNeg (-1)) (fun _ => 0) (fun _ => 0) (fun _ => 0) (fun _ => 0) (fun _ => 0) (fun _ => 0) (upd (upd (upd (upd (upd (fun _ => 0) (0 : Int32).toNatClampNeg 8) (1 : Int32).toNatClampNeg 3) (2 : Int32).toNatClampNeg 5) (3 : Int32).toNatClampNeg 1) (4 : Int32).toNatClampNeg 6) (fun _ => 0) (fun _ => 0) (fun _ => 0) (fun _ => 0) (fun _ => 0) (fun _ => 0) (fun _ => 0) (fun _ => 0) (fun _ => 0) (fun _ => 0) (fun _ => 0) (fun _ => 0) (fun _ => 0) (fun _ => 0) (fun _ => 0) (fun _ => 0) (fun _ => 0) (fun _ => 0) := by
  refine fx_soonest _ (fun r hr o0 o1 o2 o3 o4 o5 o6 o7 o8 o9 o10 => ?_)
  refine fm_soonest _ (fun r2 hr2 q0 q1 q2 q3 q4 q5 q6 q7 q8 q9 q10 q11 q12 q13 q14 q15 q16 q17 q18 q19 q20 => ?_)
  refine br_t (hr.trans hr2.symm) ?_
  exact pl_end xs
set_option maxHeartbeats 8000000 in
set_option maxRecDepth 200000 in
theorem pc_29 (xs : Nat → Int32) : ws_law_1043 5 xs (wb_law 5 xs 1) 0 (fun _ => 0) 0 0 0 (fun _ => 0) 0 0 0 0 (fun _ => 0) (fun _ => 0) (fun _ => 0) (fun _ => 0) (fun _ => 0) 0 0 0 0 (fun _ => 0) (fun _ => 0) (fun _ => 0) (fun _ => 0) (fun _ => 0) (fun _ => 0) (upd (upd (upd (upd (upd (fun _ => 0) (0 : Int32).toNatClampNeg 8) (1 : Int32).toNatClampNeg 3) (2 : Int32).toNatClampNeg 5) (3 : Int32).toNatClampNeg 1) (4 : Int32).toNatClampNeg 6) 0 0 0 0 (-1) 0 0 0 0 0 0 0 0 0 (fun _ => 0) (fun _ => 0) (fun _ => 0) (fun _ => 0) (fun _ => 0) 0 0 (fun _ => 0) (fun _ => 0) (fun _ => 0) 0 (fun _ => 0) 0 (fun _ => 0) (fun _ => 0) 0 0 0 0 0 0 0 0 0 0 0 0 0 0 0 0 0 0 0 0 0 0 0 0 0 0 (upd (fun _ => 0) (17 : Int32).toNatClampNeg (-1)) (fun _ => 0) (fun _ => 0) (fun _ => 0) (fun _ => 0) (fun _ => 0) (fun _ => 0) (upd (upd (upd (upd (upd (fun _ => 0) (0 : Int32).toNatClampNeg 8) (1 : Int32).toNatClampNeg 3) (2 : Int32).toNatClampNeg 5) (3 : Int32).toNatClampNeg 1) (4 : Int32).toNatClampNeg 6) (fun _ => 0) (fun _ => 0) (fun _ => 0) (fun _ => 0) (fun _ => 0) (fun _ => 0) (fun _ => 0) (fun _ => 0) (fun _ => 0) (fun _ => 0) (fun _ => 0) (fun _ => 0) (fun _ => 0) (fun _ => 0) (fun _ => 0) (fun _ => 0) (fun _ => 0) (fun _ => 0) := by
  intro va0 ea0; obtain rfl : va0 = 1 := ea0.trans (by decide); refine And.intro (g_in (by decide +kernel)) ?_; intro wa0 fa0; subst fa0
  refine fx_pays _ _ (fun r hr o0 o1 o2 o3 o4 o5 => ?_)
  intro vb0 eb0; obtain rfl : vb0 = 1 := eb0.trans (by decide); refine And.intro (g_in (by decide +kernel)) ?_; intro wb0 fb0; subst fb0
  refine fm_pays _ _ (fun r2 hr2 q0 q1 q2 q3 q4 q5 q6 q7 q8 q9 q10 q11 q12 q13 q14 => ?_)
  refine br_t (hr.trans hr2.symm) ?_
  exact pl_end xs
set_option maxHeartbeats 8000000 in
set_option maxRecDepth 200000 in
theorem pc_30 (xs : Nat → Int32) : ws_law_1068 5 xs (wb_law 5 xs 1) 0 (fun _ => 0) 0 0 0 (fun _ => 0) 0 0 0 0 (fun _ => 0) (fun _ => 0) (fun _ => 0) (fun _ => 0) (fun _ => 0) 0 0 0 0 (fun _ => 0) (fun _ => 0) (fun _ => 0) (fun _ => 0) (fun _ => 0) (fun _ => 0) (upd (upd (upd (upd (upd (fun _ => 0) (0 : Int32).toNatClampNeg 8) (1 : Int32).toNatClampNeg 3) (2 : Int32).toNatClampNeg 5) (3 : Int32).toNatClampNeg 1) (4 : Int32).toNatClampNeg 6) 0 0 0 0 (-1) 0 0 0 0 0 0 0 0 0 (fun _ => 0) (fun _ => 0) (fun _ => 0) (fun _ => 0) (fun _ => 0) 0 0 (fun _ => 0) (fun _ => 0) (fun _ => 0) 0 (fun _ => 0) 0 (fun _ => 0) (fun _ => 0) 0 0 0 0 0 0 0 0 0 0 0 0 0 0 0 0 0 0 0 0 0 0 0 0 0 0 (upd (fun _ => 0) (17 : Int32).toNatClampNeg (-1)) (fun _ => 0) (fun _ => 0) (fun _ => 0) (fun _ => 0) (fun _ => 0) (fun _ => 0) (upd (upd (upd (upd (upd (fun _ => 0) (0 : Int32).toNatClampNeg 8) (1 : Int32).toNatClampNeg 3) (2 : Int32).toNatClampNeg 5) (3 : Int32).toNatClampNeg 1) (4 : Int32).toNatClampNeg 6) (fun _ => 0) (fun _ => 0) (fun _ => 0) (fun _ => 0) (fun _ => 0) (fun _ => 0) (fun _ => 0) (fun _ => 0) (fun _ => 0) (fun _ => 0) (fun _ => 0) (fun _ => 0) (fun _ => 0) (fun _ => 0) (fun _ => 0) (fun _ => 0) (fun _ => 0) (fun _ => 0) := by
  intro va0 ea0; obtain rfl : va0 = 1 := ea0.trans (by decide); refine And.intro (g_in (by decide +kernel)) ?_; intro wa0 fa0; subst fa0
  refine fx_trips _ _ (fun r hr o0 o1 o2 o3 => ?_)
  intro vb0 eb0; obtain rfl : vb0 = 1 := eb0.trans (by decide); refine And.intro (g_in (by decide +kernel)) ?_; intro wb0 fb0; subst fb0
  refine fm_trips _ _ (fun r2 hr2 q0 q1 q2 q3 q4 => ?_)
  refine br_t (hr.trans hr2.symm) ?_
  exact pl_end xs
set_option maxHeartbeats 8000000 in
set_option maxRecDepth 200000 in
theorem pc_31 (xs : Nat → Int32) : ws_law_1093 5 xs (wb_law 5 xs 1) 0 (fun _ => 0) 0 0 0 (fun _ => 0) 0 0 0 0 (fun _ => 0) (fun _ => 0) (fun _ => 0) (fun _ => 0) (fun _ => 0) 0 0 0 0 (fun _ => 0) (fun _ => 0) (fun _ => 0) (fun _ => 0) (fun _ => 0) (fun _ => 0) (upd (upd (upd (upd (upd (fun _ => 0) (0 : Int32).toNatClampNeg 8) (1 : Int32).toNatClampNeg 3) (2 : Int32).toNatClampNeg 5) (3 : Int32).toNatClampNeg 1) (4 : Int32).toNatClampNeg 6) 0 0 0 0 (-1) 0 0 0 0 0 0 0 0 0 (fun _ => 0) (fun _ => 0) (fun _ => 0) (fun _ => 0) (fun _ => 0) 0 0 (fun _ => 0) (fun _ => 0) (fun _ => 0) 0 (fun _ => 0) 0 (fun _ => 0) (fun _ => 0) 0 0 0 0 0 0 0 0 0 0 0 0 0 0 0 0 0 0 0 0 0 0 0 0 0 0 (upd (fun _ => 0) (17 : Int32).toNatClampNeg (-1)) (fun _ => 0) (fun _ => 0) (fun _ => 0) (fun _ => 0) (fun _ => 0) (fun _ => 0) (upd (upd (upd (upd (upd (fun _ => 0) (0 : Int32).toNatClampNeg 8) (1 : Int32).toNatClampNeg 3) (2 : Int32).toNatClampNeg 5) (3 : Int32).toNatClampNeg 1) (4 : Int32).toNatClampNeg 6) (fun _ => 0) (fun _ => 0) (fun _ => 0) (fun _ => 0) (fun _ => 0) (fun _ => 0) (fun _ => 0) (fun _ => 0) (fun _ => 0) (fun _ => 0) (fun _ => 0) (fun _ => 0) (fun _ => 0) (fun _ => 0) (fun _ => 0) (fun _ => 0) (fun _ => 0) (fun _ => 0) := by
  refine fx_helps _ (fun r hr o0 o1 o2 o3 => ?_)
  refine fm_helps _ (fun r2 hr2 q0 q1 q2 q3 q4 => ?_)
  refine br_t (hr.trans hr2.symm) ?_
  exact pl_end xs
set_option maxHeartbeats 8000000 in
set_option maxRecDepth 200000 in
theorem pc_32 (xs : Nat → Int32) : ws_law_1106 5 xs (wb_law 5 xs 1) 0 (fun _ => 0) 0 0 0 (fun _ => 0) 0 0 0 0 (fun _ => 0) (fun _ => 0) (fun _ => 0) (fun _ => 0) (fun _ => 0) 0 0 0 0 (fun _ => 0) (fun _ => 0) (fun _ => 0) (fun _ => 0) (fun _ => 0) (fun _ => 0) (upd (upd (upd (upd (upd (fun _ => 0) (0 : Int32).toNatClampNeg 8) (1 : Int32).toNatClampNeg 3) (2 : Int32).toNatClampNeg 5) (3 : Int32).toNatClampNeg 1) (4 : Int32).toNatClampNeg 6) 0 0 0 0 (-1) 0 0 0 0 0 0 0 0 0 (fun _ => 0) (fun _ => 0) (fun _ => 0) (fun _ => 0) (fun _ => 0) 0 0 (fun _ => 0) (fun _ => 0) (fun _ => 0) 0 (fun _ => 0) 0 (fun _ => 0) (fun _ => 0) 0 0 0 0 0 0 0 0 0 0 0 0 0 0 0 0 0 0 0 0 0 0 0 0 0 0 (upd (fun _ => 0) (17 : Int32).toNatClampNeg (-1)) (fun _ => 0) (fun _ => 0) (fun _ => 0) (fun _ => 0) (fun _ => 0) (fun _ => 0) (upd (upd (upd (upd (upd (fun _ => 0) (0 : Int32).toNatClampNeg 8) (1 : Int32).toNatClampNeg 3) (2 : Int32).toNatClampNeg 5) (3 : Int32).toNatClampNeg 1) (4 : Int32).toNatClampNeg 6) (fun _ => 0) (fun _ => 0) (fun _ => 0) (fun _ => 0) (fun _ => 0) (fun _ => 0) (fun _ => 0) (fun _ => 0) (fun _ => 0) (fun _ => 0) (fun _ => 0) (fun _ => 0) (fun _ => 0) (fun _ => 0) (fun _ => 0) (fun _ => 0) (fun _ => 0) (fun _ => 0) := by
  refine fx_hooked _ (fun r hr o0 o1 o2 o3 => ?_)
  refine fm_hooked _ (fun r2 hr2 q0 q1 q2 q3 q4 => ?_)
  refine br_t (hr.trans hr2.symm) ?_
  exact pl_end xs
set_option maxHeartbeats 8000000 in
set_option maxRecDepth 200000 in
theorem pc_33 (xs : Nat → Int32) : ws_law_1119 5 xs (wb_law 5 xs 1) 0 (fun _ => 0) 0 0 0 (fun _ => 0) 0 0 0 0 (fun _ => 0) (fun _ => 0) (fun _ => 0) (fun _ => 0) (fun _ => 0) 0 0 0 0 (fun _ => 0) (fun _ => 0) (fun _ => 0) (fun _ => 0) (fun _ => 0) (fun _ => 0) (upd (upd (upd (upd (upd (fun _ => 0) (0 : Int32).toNatClampNeg 8) (1 : Int32).toNatClampNeg 3) (2 : Int32).toNatClampNeg 5) (3 : Int32).toNatClampNeg 1) (4 : Int32).toNatClampNeg 6) 0 0 0 0 (-1) 0 0 0 0 0 0 0 0 0 (fun _ => 0) (fun _ => 0) (fun _ => 0) (fun _ => 0) (fun _ => 0) 0 0 (fun _ => 0) (fun _ => 0) (fun _ => 0) 0 (fun _ => 0) 0 (fun _ => 0) (fun _ => 0) 0 0 0 0 0 0 0 0 0 0 0 0 0 0 0 0 0 0 0 0 0 0 0 0 0 0 (upd (fun _ => 0) (17 : Int32).toNatClampNeg (-1)) (fun _ => 0) (fun _ => 0) (fun _ => 0) (fun _ => 0) (fun _ => 0) (fun _ => 0) (upd (upd (upd (upd (upd (fun _ => 0) (0 : Int32).toNatClampNeg 8) (1 : Int32).toNatClampNeg 3) (2 : Int32).toNatClampNeg 5) (3 : Int32).toNatClampNeg 1) (4 : Int32).toNatClampNeg 6) (fun _ => 0) (fun _ => 0) (fun _ => 0) (fun _ => 0) (fun _ => 0) (fun _ => 0) (fun _ => 0) (fun _ => 0) (fun _ => 0) (fun _ => 0) (fun _ => 0) (fun _ => 0) (fun _ => 0) (fun _ => 0) (fun _ => 0) (fun _ => 0) (fun _ => 0) (fun _ => 0) := by
  intro va0 ea0; obtain rfl : va0 = 1 := ea0.trans (by decide); refine And.intro (g_in (by decide +kernel)) ?_; intro wa0 fa0; subst fa0
  refine fx_broken _ _ (fun r hr o0 o1 o2 o3 => ?_)
  intro vb0 eb0; obtain rfl : vb0 = 1 := eb0.trans (by decide); refine And.intro (g_in (by decide +kernel)) ?_; intro wb0 fb0; subst fb0
  refine fm_broken _ _ (fun r2 hr2 q0 q1 q2 q3 q4 => ?_)
  refine br_t (hr.trans hr2.symm) ?_
  exact pl_end xs
set_option maxHeartbeats 8000000 in
set_option maxRecDepth 200000 in
theorem pc_34 (xs : Nat → Int32) : ws_law_1144 5 xs (wb_law 5 xs 1) 0 (fun _ => 0) 0 0 0 (fun _ => 0) 0 0 0 0 (fun _ => 0) (fun _ => 0) (fun _ => 0) (fun _ => 0) (fun _ => 0) 0 0 0 0 (fun _ => 0) (fun _ => 0) (fun _ => 0) (fun _ => 0) (fun _ => 0) (fun _ => 0) (upd (upd (upd (upd (upd (fun _ => 0) (0 : Int32).toNatClampNeg 8) (1 : Int32).toNatClampNeg 3) (2 : Int32).toNatClampNeg 5) (3 : Int32).toNatClampNeg 1) (4 : Int32).toNatClampNeg 6) 0 0 0 0 (-1) 0 0 0 0 0 0 0 0 0 (fun _ => 0) (fun _ => 0) (fun _ => 0) (fun _ => 0) (fun _ => 0) 0 0 (fun _ => 0) (fun _ => 0) (fun _ => 0) 0 (fun _ => 0) 0 (fun _ => 0) (fun _ => 0) 0 0 0 0 0 0 0 0 0 0 0 0 0 0 0 0 0 0 0 0 0 0 0 0 0 0 (upd (fun _ => 0) (17 : Int32).toNatClampNeg (-1)) (fun _ => 0) (fun _ => 0) (fun _ => 0) (fun _ => 0) (fun _ => 0) (fun _ => 0) (upd (upd (upd (upd (upd (fun _ => 0) (0 : Int32).toNatClampNeg 8) (1 : Int32).toNatClampNeg 3) (2 : Int32).toNatClampNeg 5) (3 : Int32).toNatClampNeg 1) (4 : Int32).toNatClampNeg 6) (fun _ => 0) (fun _ => 0) (fun _ => 0) (fun _ => 0) (fun _ => 0) (fun _ => 0) (fun _ => 0) (fun _ => 0) (fun _ => 0) (fun _ => 0) (fun _ => 0) (fun _ => 0) (fun _ => 0) (fun _ => 0) (fun _ => 0) (fun _ => 0) (fun _ => 0) (fun _ => 0) := by
  intro va0 ea0; obtain rfl : va0 = 1 := ea0.trans (by decide); refine And.intro (g_in (by decide +kernel)) ?_; intro wa0 fa0; subst fa0
  refine fx_sweep _ _ (fun r hr o0 o1 o2 o3 o4 o5 o6 o7 o8 o9 o10 => ?_)
  intro vb0 eb0; obtain rfl : vb0 = 1 := eb0.trans (by decide); refine And.intro (g_in (by decide +kernel)) ?_; intro wb0 fb0; subst fb0
  refine fm_sweep _ _ (fun r2 hr2 q0 q1 q2 q3 q4 q5 q6 q7 q8 q9 q10 q11 q12 q13 q14 q15 q16 q17 q18 q19 q20 => ?_)
  refine br_t (hr.trans hr2.symm) ?_
  exact pl_end xs
set_option maxHeartbeats 8000000 in
set_option maxRecDepth 200000 in
theorem pc_35 (xs : Nat → Int32) : ws_law_1169 5 xs (wb_law 5 xs 1) 0 (fun _ => 0) 0 0 0 (fun _ => 0) 0 0 0 0 (fun _ => 0) (fun _ => 0) (fun _ => 0) (fun _ => 0) (fun _ => 0) 0 0 0 0 (fun _ => 0) (fun _ => 0) (fun _ => 0) (fun _ => 0) (fun _ => 0) (fun _ => 0) (upd (upd (upd (upd (upd (fun _ => 0) (0 : Int32).toNatClampNeg 8) (1 : Int32).toNatClampNeg 3) (2 : Int32).toNatClampNeg 5) (3 : Int32).toNatClampNeg 1) (4 : Int32).toNatClampNeg 6) 0 0 0 0 (-1) 0 0 0 0 0 0 0 0 0 (fun _ => 0) (fun _ => 0) (fun _ => 0) (fun _ => 0) (fun _ => 0) 0 0 (fun _ => 0) (fun _ => 0) (fun _ => 0) 0 (fun _ => 0) 0 (fun _ => 0) (fun _ => 0) 0 0 0 0 0 0 0 0 0 0 0 0 0 0 0 0 0 0 0 0 0 0 0 0 0 0 (upd (fun _ => 0) (17 : Int32).toNatClampNeg (-1)) (fun _ => 0) (fun _ => 0) (fun _ => 0) (fun _ => 0) (fun _ => 0) (fun _ => 0) (upd (upd (upd (upd (upd (fun _ => 0) (0 : Int32).toNatClampNeg 8) (1 : Int32).toNatClampNeg 3) (2 : Int32).toNatClampNeg 5) (3 : Int32).toNatClampNeg 1) (4 : Int32).toNatClampNeg 6) (fun _ => 0) (fun _ => 0) (fun _ => 0) (fun _ => 0) (fun _ => 0) (fun _ => 0) (fun _ => 0) (fun _ => 0) (fun _ => 0) (fun _ => 0) (fun _ => 0) (fun _ => 0) (fun _ => 0) (fun _ => 0) (fun _ => 0) (fun _ => 0) (fun _ => 0) (fun _ => 0) := by
  intro va0 ea0; obtain rfl : va0 = 1 := ea0.trans (by decide); refine And.intro (g_in (by decide +kernel)) ?_; intro wa0 fa0; subst fa0
  refine fx_dusk _ _ (fun r hr o0 o1 o2 o3 o4 => ?_)
  intro vb0 eb0; obtain rfl : vb0 = 1 := eb0.trans (by decide); refine And.intro (g_in (by decide +kernel)) ?_; intro wb0 fb0; subst fb0
  refine fm_dusk _ _ (fun r2 hr2 q0 q1 q2 q3 q4 q5 q6 q7 q8 q9 q10 q11 q12 q13 => ?_)
  refine br_t (hr.trans hr2.symm) ?_
  exact pl_end xs
set_option maxHeartbeats 8000000 in
set_option maxRecDepth 200000 in
theorem pc_36 (xs : Nat → Int32) : ws_law_1194 5 xs (wb_law 5 xs 1) 0 (fun _ => 0) 0 0 0 (fun _ => 0) 0 0 0 0 (fun _ => 0) (fun _ => 0) (fun _ => 0) (fun _ => 0) (fun _ => 0) 0 0 0 0 (fun _ => 0) (fun _ => 0) (fun _ => 0) (fun _ => 0) (fun _ => 0) (fun _ => 0) (upd (upd (upd (upd (upd (fun _ => 0) (0 : Int32).toNatClampNeg 8) (1 : Int32).toNatClampNeg 3) (2 : Int32).toNatClampNeg 5) (3 : Int32).toNatClampNeg 1) (4 : Int32).toNatClampNeg 6) 0 0 0 0 (-1) 0 0 0 0 0 0 0 0 0 (fun _ => 0) (fun _ => 0) (fun _ => 0) (fun _ => 0) (fun _ => 0) 0 0 (fun _ => 0) (fun _ => 0) (fun _ => 0) 0 (fun _ => 0) 0 (fun _ => 0) (fun _ => 0) 0 0 0 0 0 0 0 0 0 0 0 0 0 0 0 0 0 0 0 0 0 0 0 0 0 0 (upd (fun _ => 0) (17 : Int32).toNatClampNeg (-1)) (fun _ => 0) (fun _ => 0) (fun _ => 0) (fun _ => 0) (fun _ => 0) (fun _ => 0) (upd (upd (upd (upd (upd (fun _ => 0) (0 : Int32).toNatClampNeg 8) (1 : Int32).toNatClampNeg 3) (2 : Int32).toNatClampNeg 5) (3 : Int32).toNatClampNeg 1) (4 : Int32).toNatClampNeg 6) (fun _ => 0) (fun _ => 0) (fun _ => 0) (fun _ => 0) (fun _ => 0) (fun _ => 0) (fun _ => 0) (fun _ => 0) (fun _ => 0) (fun _ => 0) (fun _ => 0) (fun _ => 0) (fun _ => 0) (fun _ => 0) (fun _ => 0) (fun _ => 0) (fun _ => 0) (fun _ => 0) := by
  refine fx_gentle _ (fun r hr o0 o1 => ?_)
  refine fm_gentle _ (fun r2 hr2 q0 q1 q2 => ?_)
  refine br_t (hr.trans hr2.symm) ?_
  exact pl_end xs
set_option maxHeartbeats 8000000 in
set_option maxRecDepth 200000 in
theorem pc_37 (xs : Nat → Int32) : ws_law_1207 5 xs (wb_law 5 xs 1) 0 (fun _ => 0) 0 0 0 (fun _ => 0) 0 0 0 0 (fun _ => 0) (fun _ => 0) (fun _ => 0) (fun _ => 0) (fun _ => 0) 0 0 0 0 (fun _ => 0) (fun _ => 0) (fun _ => 0) (fun _ => 0) (fun _ => 0) (fun _ => 0) (upd (upd (upd (upd (upd (fun _ => 0) (0 : Int32).toNatClampNeg 8) (1 : Int32).toNatClampNeg 3) (2 : Int32).toNatClampNeg 5) (3 : Int32).toNatClampNeg 1) (4 : Int32).toNatClampNeg 6) 0 0 0 0 (-1) 0 0 0 0 0 0 0 0 0 (fun _ => 0) (fun _ => 0) (fun _ => 0) (fun _ => 0) (fun _ => 0) 0 0 (fun _ => 0) (fun _ => 0) (fun _ => 0) 0 (fun _ => 0) 0 (fun _ => 0) (fun _ => 0) 0 0 0 0 0 0 0 0 0 0 0 0 0 0 0 0 0 0 0 0 0 0 0 0 0 0 (upd (fun _ => 0) (17 : Int32).toNatClampNeg (-1)) (fun _ => 0) (fun _ => 0) (fun _ => 0) (fun _ => 0) (fun _ => 0) (fun _ => 0) (upd (upd (upd (upd (upd (fun _ => 0) (0 : Int32).toNatClampNeg 8) (1 : Int32).toNatClampNeg 3) (2 : Int32).toNatClampNeg 5) (3 : Int32).toNatClampNeg 1) (4 : Int32).toNatClampNeg 6) (fun _ => 0) (fun _ => 0) (fun _ => 0) (fun _ => 0) (fun _ => 0) (fun _ => 0) (fun _ => 0) (fun _ => 0) (fun _ => 0) (fun _ => 0) (fun _ => 0) (fun _ => 0) (fun _ => 0) (fun _ => 0) (fun _ => 0) (fun _ => 0) (fun _ => 0) (fun _ => 0) := by
  refine fx_harm _ (fun r hr o0 o1 => ?_)
  refine fm_harm _ (fun r2 hr2 q0 q1 q2 => ?_)
  refine br_t (hr.trans hr2.symm) ?_
  exact pl_end xs
set_option maxHeartbeats 8000000 in
set_option maxRecDepth 200000 in
theorem pc_38 (xs : Nat → Int32) : ws_law_1220 5 xs (wb_law 5 xs 1) 0 (fun _ => 0) 0 0 0 (fun _ => 0) 0 0 0 0 (fun _ => 0) (fun _ => 0) (fun _ => 0) (fun _ => 0) (fun _ => 0) 0 0 0 0 (fun _ => 0) (fun _ => 0) (fun _ => 0) (fun _ => 0) (fun _ => 0) (fun _ => 0) (upd (upd (upd (upd (upd (fun _ => 0) (0 : Int32).toNatClampNeg 8) (1 : Int32).toNatClampNeg 3) (2 : Int32).toNatClampNeg 5) (3 : Int32).toNatClampNeg 1) (4 : Int32).toNatClampNeg 6) 0 0 0 0 (-1) 0 0 0 0 0 0 0 0 0 (fun _ => 0) (fun _ => 0) (fun _ => 0) (fun _ => 0) (fun _ => 0) 0 0 (fun _ => 0) (fun _ => 0) (fun _ => 0) 0 (fun _ => 0) 0 (fun _ => 0) (fun _ => 0) 0 0 0 0 0 0 0 0 0 0 0 0 0 0 0 0 0 0 0 0 0 0 0 0 0 0 (upd (fun _ => 0) (17 : Int32).toNatClampNeg (-1)) (fun _ => 0) (fun _ => 0) (fun _ => 0) (fun _ => 0) (fun _ => 0) (fun _ => 0) (upd (upd (upd (upd (upd (fun _ => 0) (0 : Int32).toNatClampNeg 8) (1 : Int32).toNatClampNeg 3) (2 : Int32).toNatClampNeg 5) (3 : Int32).toNatClampNeg 1) (4 : Int32).toNatClampNeg 6) (fun _ => 0) (fun _ => 0) (fun _ => 0) (fun _ => 0) (fun _ => 0) (fun _ => 0) (fun _ => 0) (fun _ => 0) (fun _ => 0) (fun _ => 0) (fun _ => 0) (fun _ => 0) (fun _ => 0) (fun _ => 0) (fun _ => 0) (fun _ => 0) (fun _ => 0) (fun _ => 0) := by
  intro va0 ea0; obtain rfl : va0 = 1 := ea0.trans (by decide); refine And.intro (g_in (by decide +kernel)) ?_; intro wa0 fa0; subst fa0
  refine fx_share _ _ (fun r hr o0 o1 o2 o3 o4 o5 o6 => ?_)
  intro vb0 eb0; obtain rfl : vb0 = 1 := eb0.trans (by decide); refine And.intro (g_in (by decide +kernel)) ?_; intro wb0 fb0; subst fb0
  refine fm_share _ _ (fun r2 hr2 q0 q1 q2 q3 q4 q5 q6 q7 q8 q9 q10 q11 q12 q13 q14 q15 => ?_)
  refine br_t (hr.trans hr2.symm) ?_
  exact pl_end xs
set_option maxHeartbeats 8000000 in
set_option maxRecDepth 200000 in
theorem pc_39 (xs : Nat → Int32) : ws_law_1245 5 xs (wb_law 5 xs 1) 0 (fun _ => 0) 0 0 0 (fun _ => 0) 0 0 0 0 (fun _ => 0) (fun _ => 0) (fun _ => 0) (fun _ => 0) (fun _ => 0) 0 0 0 0 (fun _ => 0) (fun _ => 0) (fun _ => 0) (fun _ => 0) (fun _ => 0) (fun _ => 0) (upd (upd (upd (upd (upd (fun _ => 0) (0 : Int32).toNatClampNeg 8) (1 : Int32).toNatClampNeg 3) (2 : Int32).toNatClampNeg 5) (3 : Int32).toNatClampNeg 1) (4 : Int32).toNatClampNeg 6) 0 0 0 0 (-1) 0 0 0 0 0 0 0 0 0 (fun _ => 0) (fun _ => 0) (fun _ => 0) (fun _ => 0) (fun _ => 0) 0 0 (fun _ => 0) (fun _ => 0) (fun _ => 0) 0 (fun _ => 0) 0 (fun _ => 0) (fun _ => 0) 0 0 0 0 0 0 0 0 0 0 0 0 0 0 0 0 0 0 0 0 0 0 0 0 0 0 (upd (fun _ => 0) (17 : Int32).toNatClampNeg (-1)) (fun _ => 0) (fun _ => 0) (fun _ => 0) (fun _ => 0) (fun _ => 0) (fun _ => 0) (upd (upd (upd (upd (upd (fun _ => 0) (0 : Int32).toNatClampNeg 8) (1 : Int32).toNatClampNeg 3) (2 : Int32).toNatClampNeg 5) (3 : Int32).toNatClampNeg 1) (4 : Int32).toNatClampNeg 6) (fun _ => 0) (fun _ => 0) (fun _ => 0) (fun _ => 0) (fun _ => 0) (fun _ => 0) (fun _ => 0) (fun _ => 0) (fun _ => 0) (fun _ => 0) (fun _ => 0) (fun _ => 0) (fun _ => 0) (fun _ => 0) (fun _ => 0) (fun _ => 0) (fun _ => 0) (fun _ => 0) := by
  refine fx_ripens _ (fun r hr o0 o1 o2 o3 => ?_)
  refine fm_ripens _ (fun r2 hr2 q0 q1 q2 q3 q4 => ?_)
  refine br_t (hr.trans hr2.symm) ?_
  exact pl_end xs
set_option maxHeartbeats 8000000 in
set_option maxRecDepth 200000 in
theorem pc_40 (xs : Nat → Int32) : ws_law_1258 5 xs (wb_law 5 xs 1) 0 (fun _ => 0) 0 0 0 (fun _ => 0) 0 0 0 0 (fun _ => 0) (fun _ => 0) (fun _ => 0) (fun _ => 0) (fun _ => 0) 0 0 0 0 (fun _ => 0) (fun _ => 0) (fun _ => 0) (fun _ => 0) (fun _ => 0) (fun _ => 0) (upd (upd (upd (upd (upd (fun _ => 0) (0 : Int32).toNatClampNeg 8) (1 : Int32).toNatClampNeg 3) (2 : Int32).toNatClampNeg 5) (3 : Int32).toNatClampNeg 1) (4 : Int32).toNatClampNeg 6) 0 0 0 0 (-1) 0 0 0 0 0 0 0 0 0 (fun _ => 0) (fun _ => 0) (fun _ => 0) (fun _ => 0) (fun _ => 0) 0 0 (fun _ => 0) (fun _ => 0) (fun _ => 0) 0 (fun _ => 0) 0 (fun _ => 0) (fun _ => 0) 0 0 0 0 0 0 0 0 0 0 0 0 0 0 0 0 0 0 0 0 0 0 0 0 0 0 (upd (fun _ => 0) (17 : Int32).toNatClampNeg (-1)) (fun _ => 0) (fun _ => 0) (fun _ => 0) (fun _ => 0) (fun _ => 0) (fun _ => 0) (upd (upd (upd (upd (upd (fun _ => 0) (0 : Int32).toNatClampNeg 8) (1 : Int32).toNatClampNeg 3) (2 : Int32).toNatClampNeg 5) (3 : Int32).toNatClampNeg 1) (4 : Int32).toNatClampNeg 6) (fun _ => 0) (fun _ => 0) (fun _ => 0) (fun _ => 0) (fun _ => 0) (fun _ => 0) (fun _ => 0) (fun _ => 0) (fun _ => 0) (fun _ => 0) (fun _ => 0) (fun _ => 0) (fun _ => 0) (fun _ => 0) (fun _ => 0) (fun _ => 0) (fun _ => 0) (fun _ => 0) := by
  intro va0 ea0; obtain rfl : va0 = 1 := ea0.trans (by decide); refine And.intro (g_in (by decide +kernel)) ?_; intro wa0 fa0; subst fa0
  refine fx_ondays _ _ (fun r hr o0 o1 o2 o3 => ?_)
  intro vb0 eb0; obtain rfl : vb0 = 1 := eb0.trans (by decide); refine And.intro (g_in (by decide +kernel)) ?_; intro wb0 fb0; subst fb0
  refine fm_ondays _ _ (fun r2 hr2 q0 q1 q2 q3 q4 => ?_)
  refine br_t (hr.trans hr2.symm) ?_
  exact pl_end xs
set_option maxHeartbeats 8000000 in
set_option maxRecDepth 200000 in
theorem pc_41 (xs : Nat → Int32) : ws_law_1283 5 xs (wb_law 5 xs 1) 0 (fun _ => 0) 0 0 0 (fun _ => 0) 0 0 0 0 (fun _ => 0) (fun _ => 0) (fun _ => 0) (fun _ => 0) (fun _ => 0) 0 0 0 0 (fun _ => 0) (fun _ => 0) (fun _ => 0) (fun _ => 0) (fun _ => 0) (fun _ => 0) (upd (upd (upd (upd (upd (fun _ => 0) (0 : Int32).toNatClampNeg 8) (1 : Int32).toNatClampNeg 3) (2 : Int32).toNatClampNeg 5) (3 : Int32).toNatClampNeg 1) (4 : Int32).toNatClampNeg 6) 0 0 0 0 (-1) 0 0 0 0 0 0 0 0 0 (fun _ => 0) (fun _ => 0) (fun _ => 0) (fun _ => 0) (fun _ => 0) 0 0 (fun _ => 0) (fun _ => 0) (fun _ => 0) 0 (fun _ => 0) 0 (fun _ => 0) (fun _ => 0) 0 0 0 0 0 0 0 0 0 0 0 0 0 0 0 0 0 0 0 0 0 0 0 0 0 0 (upd (fun _ => 0) (17 : Int32).toNatClampNeg (-1)) (fun _ => 0) (fun _ => 0) (fun _ => 0) (fun _ => 0) (fun _ => 0) (fun _ => 0) (upd (upd (upd (upd (upd (fun _ => 0) (0 : Int32).toNatClampNeg 8) (1 : Int32).toNatClampNeg 3) (2 : Int32).toNatClampNeg 5) (3 : Int32).toNatClampNeg 1) (4 : Int32).toNatClampNeg 6) (fun _ => 0) (fun _ => 0) (fun _ => 0) (fun _ => 0) (fun _ => 0) (fun _ => 0) (fun _ => 0) (fun _ => 0) (fun _ => 0) (fun _ => 0) (fun _ => 0) (fun _ => 0) (fun _ => 0) (fun _ => 0) (fun _ => 0) (fun _ => 0) (fun _ => 0) (fun _ => 0) := by
  refine fx_allripe _ (fun r hr o0 o1 => ?_)
  refine fm_allripe _ (fun r2 hr2 q0 q1 q2 => ?_)
  refine br_t (hr.trans hr2.symm) ?_
  exact pl_end xs
set_option maxHeartbeats 8000000 in
set_option maxRecDepth 200000 in
theorem pc_42 (xs : Nat → Int32) : ws_law_1296 5 xs (wb_law 5 xs 1) 0 (fun _ => 0) 0 0 0 (fun _ => 0) 0 0 0 0 (fun _ => 0) (fun _ => 0) (fun _ => 0) (fun _ => 0) (fun _ => 0) 0 0 0 0 (fun _ => 0) (fun _ => 0) (fun _ => 0) (fun _ => 0) (fun _ => 0) (fun _ => 0) (upd (upd (upd (upd (upd (fun _ => 0) (0 : Int32).toNatClampNeg 8) (1 : Int32).toNatClampNeg 3) (2 : Int32).toNatClampNeg 5) (3 : Int32).toNatClampNeg 1) (4 : Int32).toNatClampNeg 6) 0 0 0 0 (-1) 0 0 0 0 0 0 0 0 0 (fun _ => 0) (fun _ => 0) (fun _ => 0) (fun _ => 0) (fun _ => 0) 0 0 (fun _ => 0) (fun _ => 0) (fun _ => 0) 0 (fun _ => 0) 0 (fun _ => 0) (fun _ => 0) 0 0 0 0 0 0 0 0 0 0 0 0 0 0 0 0 0 0 0 0 0 0 0 0 0 0 (upd (fun _ => 0) (17 : Int32).toNatClampNeg (-1)) (fun _ => 0) (fun _ => 0) (fun _ => 0) (fun _ => 0) (fun _ => 0) (fun _ => 0) (upd (upd (upd (upd (upd (fun _ => 0) (0 : Int32).toNatClampNeg 8) (1 : Int32).toNatClampNeg 3) (2 : Int32).toNatClampNeg 5) (3 : Int32).toNatClampNeg 1) (4 : Int32).toNatClampNeg 6) (fun _ => 0) (fun _ => 0) (fun _ => 0) (fun _ => 0) (fun _ => 0) (fun _ => 0) (fun _ => 0) (fun _ => 0) (fun _ => 0) (fun _ => 0) (fun _ => 0) (fun _ => 0) (fun _ => 0) (fun _ => 0) (fun _ => 0) (fun _ => 0) (fun _ => 0) (fun _ => 0) := by
  intro va0 ea0; obtain rfl : va0 = 1 := ea0.trans (by decide); refine And.intro (g_in (by decide +kernel)) ?_; intro wa0 fa0; subst fa0
  intro va1 ea1; obtain rfl : va1 = 2 := ea1.trans (by decide); refine And.intro (g_in (by decide +kernel)) ?_; intro wa1 fa1; subst fa1
  refine fx_marks _ _ _ (fun r hr => ?_)
  intro vb0 eb0; obtain rfl : vb0 = 1 := eb0.trans (by decide); refine And.intro (g_in (by decide +kernel)) ?_; intro wb0 fb0; subst fb0
  intro vb1 eb1; obtain rfl : vb1 = 2 := eb1.trans (by decide); refine And.intro (g_in (by decide +kernel)) ?_; intro wb1 fb1; subst fb1
  refine fm_marks _ _ _ (fun r2 hr2 q0 => ?_)
  refine br_t (hr.trans hr2.symm) ?_
  exact pl_end xs
set_option maxHeartbeats 8000000 in
set_option maxRecDepth 200000 in
theorem pc_43 (xs : Nat → Int32) : ws_law_1333 5 xs (wb_law 5 xs 1) 0 (fun _ => 0) 0 0 0 (fun _ => 0) 0 0 0 0 (fun _ => 0) (fun _ => 0) (fun _ => 0) (fun _ => 0) (fun _ => 0) 0 0 0 0 (fun _ => 0) (fun _ => 0) (fun _ => 0) (fun _ => 0) (fun _ => 0) (fun _ => 0) (upd (upd (upd (upd (upd (fun _ => 0) (0 : Int32).toNatClampNeg 8) (1 : Int32).toNatClampNeg 3) (2 : Int32).toNatClampNeg 5) (3 : Int32).toNatClampNeg 1) (4 : Int32).toNatClampNeg 6) 0 0 0 0 (-1) 0 0 0 0 0 0 0 0 0 (fun _ => 0) (fun _ => 0) (fun _ => 0) (fun _ => 0) (fun _ => 0) 0 0 (fun _ => 0) (fun _ => 0) (fun _ => 0) 0 (fun _ => 0) 0 (fun _ => 0) (fun _ => 0) 0 0 0 0 0 0 0 0 0 0 0 0 0 0 0 0 0 0 0 0 0 0 0 0 0 0 (upd (fun _ => 0) (17 : Int32).toNatClampNeg (-1)) (fun _ => 0) (fun _ => 0) (fun _ => 0) (fun _ => 0) (fun _ => 0) (fun _ => 0) (upd (upd (upd (upd (upd (fun _ => 0) (0 : Int32).toNatClampNeg 8) (1 : Int32).toNatClampNeg 3) (2 : Int32).toNatClampNeg 5) (3 : Int32).toNatClampNeg 1) (4 : Int32).toNatClampNeg 6) (fun _ => 0) (fun _ => 0) (fun _ => 0) (fun _ => 0) (fun _ => 0) (fun _ => 0) (fun _ => 0) (fun _ => 0) (fun _ => 0) (fun _ => 0) (fun _ => 0) (fun _ => 0) (fun _ => 0) (fun _ => 0) (fun _ => 0) (fun _ => 0) (fun _ => 0) (fun _ => 0) := by
  intro va0 ea0; obtain rfl : va0 = 1 := ea0.trans (by decide); refine And.intro (g_in (by decide +kernel)) ?_; intro wa0 fa0; subst fa0
  refine fx_grass _ _ (fun r hr o0 o1 o2 o3 o4 o5 o6 o7 => ?_)
  intro vb0 eb0; obtain rfl : vb0 = 1 := eb0.trans (by decide); refine And.intro (g_in (by decide +kernel)) ?_; intro wb0 fb0; subst fb0
  refine fm_grass _ _ (fun r2 hr2 q0 q1 q2 q3 q4 q5 q6 q7 q8 q9 q10 => ?_)
  refine br_t (hr.trans hr2.symm) ?_
  exact pl_end xs
set_option maxHeartbeats 8000000 in
set_option maxRecDepth 200000 in
theorem pc_44 (xs : Nat → Int32) : ws_law_1358 5 xs (wb_law 5 xs 1) 0 (fun _ => 0) 0 0 0 (fun _ => 0) 0 0 0 0 (fun _ => 0) (fun _ => 0) (fun _ => 0) (fun _ => 0) (fun _ => 0) 0 0 0 0 (fun _ => 0) (fun _ => 0) (fun _ => 0) (fun _ => 0) (fun _ => 0) (fun _ => 0) (upd (upd (upd (upd (upd (fun _ => 0) (0 : Int32).toNatClampNeg 8) (1 : Int32).toNatClampNeg 3) (2 : Int32).toNatClampNeg 5) (3 : Int32).toNatClampNeg 1) (4 : Int32).toNatClampNeg 6) 0 0 0 0 (-1) 0 0 0 0 0 0 0 0 0 (fun _ => 0) (fun _ => 0) (fun _ => 0) (fun _ => 0) (fun _ => 0) 0 0 (fun _ => 0) (fun _ => 0) (fun _ => 0) 0 (fun _ => 0) 0 (fun _ => 0) (fun _ => 0) 0 0 0 0 0 0 0 0 0 0 0 0 0 0 0 0 0 0 0 0 0 0 0 0 0 0 (upd (fun _ => 0) (17 : Int32).toNatClampNeg (-1)) (fun _ => 0) (fun _ => 0) (fun _ => 0) (fun _ => 0) (fun _ => 0) (fun _ => 0) (upd (upd (upd (upd (upd (fun _ => 0) (0 : Int32).toNatClampNeg 8) (1 : Int32).toNatClampNeg 3) (2 : Int32).toNatClampNeg 5) (3 : Int32).toNatClampNeg 1) (4 : Int32).toNatClampNeg 6) (fun _ => 0) (fun _ => 0) (fun _ => 0) (fun _ => 0) (fun _ => 0) (fun _ => 0) (fun _ => 0) (fun _ => 0) (fun _ => 0) (fun _ => 0) (fun _ => 0) (fun _ => 0) (fun _ => 0) (fun _ => 0) (fun _ => 0) (fun _ => 0) (fun _ => 0) (fun _ => 0) := by
  intro va0 ea0; obtain rfl : va0 = 1 := ea0.trans (by decide); refine And.intro (g_in (by decide +kernel)) ?_; intro wa0 fa0; subst fa0
  refine fx_fits _ _ (fun r hr o0 o1 o2 o3 => ?_)
  intro vb0 eb0; obtain rfl : vb0 = 1 := eb0.trans (by decide); refine And.intro (g_in (by decide +kernel)) ?_; intro wb0 fb0; subst fb0
  refine fm_fits _ _ (fun r2 hr2 q0 q1 q2 q3 q4 => ?_)
  refine br_t (hr.trans hr2.symm) ?_
  exact pl_end xs
set_option maxHeartbeats 8000000 in
set_option maxRecDepth 200000 in
theorem pc_45 (xs : Nat → Int32) : ws_law_1383 5 xs (wb_law 5 xs 1) 0 (fun _ => 0) 0 0 0 (fun _ => 0) 0 0 0 0 (fun _ => 0) (fun _ => 0) (fun _ => 0) (fun _ => 0) (fun _ => 0) 0 0 0 0 (fun _ => 0) (fun _ => 0) (fun _ => 0) (fun _ => 0) (fun _ => 0) (fun _ => 0) (upd (upd (upd (upd (upd (fun _ => 0) (0 : Int32).toNatClampNeg 8) (1 : Int32).toNatClampNeg 3) (2 : Int32).toNatClampNeg 5) (3 : Int32).toNatClampNeg 1) (4 : Int32).toNatClampNeg 6) 0 0 0 0 (-1) 0 0 0 0 0 0 0 0 0 (fun _ => 0) (fun _ => 0) (fun _ => 0) (fun _ => 0) (fun _ => 0) 0 0 (fun _ => 0) (fun _ => 0) (fun _ => 0) 0 (fun _ => 0) 0 (fun _ => 0) (fun _ => 0) 0 0 0 0 0 0 0 0 0 0 0 0 0 0 0 0 0 0 0 0 0 0 0 0 0 0 (upd (fun _ => 0) (17 : Int32).toNatClampNeg (-1)) (fun _ => 0) (fun _ => 0) (fun _ => 0) (fun _ => 0) (fun _ => 0) (fun _ => 0) (upd (upd (upd (upd (upd (fun _ => 0) (0 : Int32).toNatClampNeg 8) (1 : Int32).toNatClampNeg 3) (2 : Int32).toNatClampNeg 5) (3 : Int32).toNatClampNeg 1) (4 : Int32).toNatClampNeg 6) (fun _ => 0) (fun _ => 0) (fun _ => 0) (fun _ => 0) (fun _ => 0) (fun _ => 0) (fun _ => 0) (fun _ => 0) (fun _ => 0) (fun _ => 0) (fun _ => 0) (fun _ => 0) (fun _ => 0) (fun _ => 0) (fun _ => 0) (fun _ => 0) (fun _ => 0) (fun _ => 0) := by
  intro va0 ea0; obtain rfl : va0 = 1 := ea0.trans (by decide); refine And.intro (g_in (by decide +kernel)) ?_; intro wa0 fa0; subst fa0
  intro va1 ea1; obtain rfl : va1 = 2 := ea1.trans (by decide); refine And.intro (g_in (by decide +kernel)) ?_; intro wa1 fa1; subst fa1
  refine fx_leaned _ _ _ (fun r hr => ?_)
  intro vb0 eb0; obtain rfl : vb0 = 1 := eb0.trans (by decide); refine And.intro (g_in (by decide +kernel)) ?_; intro wb0 fb0; subst fb0
  intro vb1 eb1; obtain rfl : vb1 = 2 := eb1.trans (by decide); refine And.intro (g_in (by decide +kernel)) ?_; intro wb1 fb1; subst fb1
  refine fm_leaned _ _ _ (fun r2 hr2 q0 => ?_)
  refine br_t (hr.trans hr2.symm) ?_
  exact pl_end xs
set_option maxHeartbeats 8000000 in
set_option maxRecDepth 200000 in
theorem pc_46 (xs : Nat → Int32) : ws_law_1420 5 xs (wb_law 5 xs 1) 0 (fun _ => 0) 0 0 0 (fun _ => 0) 0 0 0 0 (fun _ => 0) (fun _ => 0) (fun _ => 0) (fun _ => 0) (fun _ => 0) 0 0 0 0 (fun _ => 0) (fun _ => 0) (fun _ => 0) (fun _ => 0) (fun _ => 0) (fun _ => 0) (upd (upd (upd (upd (upd (fun _ => 0) (0 : Int32).toNatClampNeg 8) (1 : Int32).toNatClampNeg 3) (2 : Int32).toNatClampNeg 5) (3 : Int32).toNatClampNeg 1) (4 : Int32).toNatClampNeg 6) 0 0 0 0 (-1) 0 0 0 0 0 0 0 0 0 (fun _ => 0) (fun _ => 0) (fun _ => 0) (fun _ => 0) (fun _ => 0) 0 0 (fun _ => 0) (fun _ => 0) (fun _ => 0) 0 (fun _ => 0) 0 (fun _ => 0) (fun _ => 0) 0 0 0 0 0 0 0 0 0 0 0 0 0 0 0 0 0 0 0 0 0 0 0 0 0 0 (upd (fun _ => 0) (17 : Int32).toNatClampNeg (-1)) (fun _ => 0) (fun _ => 0) (fun _ => 0) (fun _ => 0) (fun _ => 0) (fun _ => 0) (upd (upd (upd (upd (upd (fun _ => 0) (0 : Int32).toNatClampNeg 8) (1 : Int32).toNatClampNeg 3) (2 : Int32).toNatClampNeg 5) (3 : Int32).toNatClampNeg 1) (4 : Int32).toNatClampNeg 6) (fun _ => 0) (fun _ => 0) (fun _ => 0) (fun _ => 0) (fun _ => 0) (fun _ => 0) (fun _ => 0) (fun _ => 0) (fun _ => 0) (fun _ => 0) (fun _ => 0) (fun _ => 0) (fun _ => 0) (fun _ => 0) (fun _ => 0) (fun _ => 0) (fun _ => 0) (fun _ => 0) := by
  intro va0 ea0; obtain rfl : va0 = 1 := ea0.trans (by decide); refine And.intro (g_in (by decide +kernel)) ?_; intro wa0 fa0; subst fa0
  intro va1 ea1; obtain rfl : va1 = 2 := ea1.trans (by decide); refine And.intro (g_in (by decide +kernel)) ?_; intro wa1 fa1; subst fa1
  intro va2 ea2; obtain rfl : va2 = 3 := ea2.trans (by decide); refine And.intro (g_in (by decide +kernel)) ?_; intro wa2 fa2; subst fa2
  refine fx_autumn _ _ _ _ (fun r hr o0 o1 => ?_)
  intro vb0 eb0; obtain rfl : vb0 = 1 := eb0.trans (by decide); refine And.intro (g_in (by decide +kernel)) ?_; intro wb0 fb0; subst fb0
  intro vb1 eb1; obtain rfl : vb1 = 2 := eb1.trans (by decide); refine And.intro (g_in (by decide +kernel)) ?_; intro wb1 fb1; subst fb1
  intro vb2 eb2; obtain rfl : vb2 = 3 := eb2.trans (by decide); refine And.intro (g_in (by decide +kernel)) ?_; intro wb2 fb2; subst fb2
  refine fm_autumn _ _ _ _ (fun r2 hr2 q0 q1 q2 q3 => ?_)
  refine br_t (hr.trans hr2.symm) ?_
  exact pl_end xs
set_option maxHeartbeats 8000000 in
set_option maxRecDepth 200000 in
theorem pc_47 (xs : Nat → Int32) : ws_law_1469 5 xs (wb_law 5 xs 1) 0 (fun _ => 0) 0 0 0 (fun _ => 0) 0 0 0 0 (fun _ => 0) (fun _ => 0) (fun _ => 0) (fun _ => 0) (fun _ => 0) 0 0 0 0 (fun _ => 0) (fun _ => 0) (fun _ => 0) (fun _ => 0) (fun _ => 0) (fun _ => 0) (upd (upd (upd (upd (upd (fun _ => 0) (0 : Int32).toNatClampNeg 8) (1 : Int32).toNatClampNeg 3) (2 : Int32).toNatClampNeg 5) (3 : Int32).toNatClampNeg 1) (4 : Int32).toNatClampNeg 6) 0 0 0 0 (-1) 0 0 0 0 0 0 0 0 0 (fun _ => 0) (fun _ => 0) (fun _ => 0) (fun _ => 0) (fun _ => 0) 0 0 (fun _ => 0) (fun _ => 0) (fun _ => 0) 0 (fun _ => 0) 0 (fun _ => 0) (fun _ => 0) 0 0 0 0 0 0 0 0 0 0 0 0 0 0 0 0 0 0 0 0 0 0 0 0 0 0 (upd (fun _ => 0) (17 : Int32).toNatClampNeg (-1)) (fun _ => 0) (fun _ => 0) (fun _ => 0) (fun _ => 0) (fun _ => 0) (fun _ => 0) (upd (upd (upd (upd (upd (fun _ => 0) (0 : Int32).toNatClampNeg 8) (1 : Int32).toNatClampNeg 3) (2 : Int32).toNatClampNeg 5) (3 : Int32).toNatClampNeg 1) (4 : Int32).toNatClampNeg 6) (fun _ => 0) (fun _ => 0) (fun _ => 0) (fun _ => 0) (fun _ => 0) (fun _ => 0) (fun _ => 0) (fun _ => 0) (fun _ => 0) (fun _ => 0) (fun _ => 0) (fun _ => 0) (fun _ => 0) (fun _ => 0) (fun _ => 0) (fun _ => 0) (fun _ => 0) (fun _ => 0) := by
  intro va0 ea0; obtain rfl : va0 = 1 := ea0.trans (by decide); refine And.intro (g_in (by decide +kernel)) ?_; intro wa0 fa0; subst fa0
  refine fx_keep _ _ (fun r hr o0 o1 => ?_)
  intro vb0 eb0; obtain rfl : vb0 = 1 := eb0.trans (by decide); refine And.intro (g_in (by decide +kernel)) ?_; intro wb0 fb0; subst fb0
  refine fm_keep _ _ (fun r2 hr2 q0 q1 q2 q3 => ?_)
  refine br_t (hr.trans hr2.symm) ?_
  exact pl_end xs
set_option maxHeartbeats 8000000 in
set_option maxRecDepth 200000 in
theorem pc_48 (xs : Nat → Int32) : ws_law_1494 5 xs (wb_law 5 xs 1) 0 (fun _ => 0) 0 0 0 (fun _ => 0) 0 0 0 0 (fun _ => 0) (fun _ => 0) (fun _ => 0) (fun _ => 0) (fun _ => 0) 0 0 0 0 (fun _ => 0) (fun _ => 0) (fun _ => 0) (fun _ => 0) (fun _ => 0) (fun _ => 0) (upd (upd (upd (upd (upd (fun _ => 0) (0 : Int32).toNatClampNeg 8) (1 : Int32).toNatClampNeg 3) (2 : Int32).toNatClampNeg 5) (3 : Int32).toNatClampNeg 1) (4 : Int32).toNatClampNeg 6) 0 0 0 0 (-1) 0 0 0 0 0 0 0 0 0 (fun _ => 0) (fun _ => 0) (fun _ => 0) (fun _ => 0) (fun _ => 0) 0 0 (fun _ => 0) (fun _ => 0) (fun _ => 0) 0 (fun _ => 0) 0 (fun _ => 0) (fun _ => 0) 0 0 0 0 0 0 0 0 0 0 0 0 0 0 0 0 0 0 0 0 0 0 0 0 0 0 (upd (fun _ => 0) (17 : Int32).toNatClampNeg (-1)) (fun _ => 0) (fun _ => 0) (fun _ => 0) (fun _ => 0) (fun _ => 0) (fun _ => 0) (upd (upd (upd (upd (upd (fun _ => 0) (0 : Int32).toNatClampNeg 8) (1 : Int32).toNatClampNeg 3) (2 : Int32).toNatClampNeg 5) (3 : Int32).toNatClampNeg 1) (4 : Int32).toNatClampNeg 6) (fun _ => 0) (fun _ => 0) (fun _ => 0) (fun _ => 0) (fun _ => 0) (fun _ => 0) (fun _ => 0) (fun _ => 0) (fun _ => 0) (fun _ => 0) (fun _ => 0) (fun _ => 0) (fun _ => 0) (fun _ => 0) (fun _ => 0) (fun _ => 0) (fun _ => 0) (fun _ => 0) := by
  intro va0 ea0; obtain rfl : va0 = 1 := ea0.trans (by decide); refine And.intro (g_in (by decide +kernel)) ?_; intro wa0 fa0; subst fa0
  refine fx_again _ _ (fun r hr o0 o1 o2 o3 o4 o5 o6 o7 o8 => ?_)
  intro vb0 eb0; obtain rfl : vb0 = 1 := eb0.trans (by decide); refine And.intro (g_in (by decide +kernel)) ?_; intro wb0 fb0; subst fb0
  refine fm_again _ _ (fun r2 hr2 q0 q1 q2 => ?_)
  refine br_t (hr.trans hr2.symm) ?_
  exact pl_end xs
set_option maxHeartbeats 8000000 in
set_option maxRecDepth 200000 in
theorem pc_49 (xs : Nat → Int32) : ws_law_1519 5 xs (wb_law 5 xs 1) 0 (fun _ => 0) 0 0 0 (fun _ => 0) 0 0 0 0 (fun _ => 0) (fun _ => 0) (fun _ => 0) (fun _ => 0) (fun _ => 0) 0 0 0 0 (fun _ => 0) (fun _ => 0) (fun _ => 0) (fun _ => 0) (fun _ => 0) (fun _ => 0) (upd (upd (upd (upd (upd (fun _ => 0) (0 : Int32).toNatClampNeg 8) (1 : Int32).toNatClampNeg 3) (2 : Int32).toNatClampNeg 5) (3 : Int32).toNatClampNeg 1) (4 : Int32).toNatClampNeg 6) 0 0 0 0 (-1) 0 0 0 0 0 0 0 0 0 (fun _ => 0) (fun _ => 0) (fun _ => 0) (fun _ => 0) (fun _ => 0) 0 0 (fun _ => 0) (fun _ => 0) (fun _ => 0) 0 (fun _ => 0) 0 (fun _ => 0) (fun _ => 0) 0 0 0 0 0 0 0 0 0 0 0 0 0 0 0 0 0 0 0 0 0 0 0 0 0 0 (upd (fun _ => 0) (17 : Int32).toNatClampNeg (-1)) (fun _ => 0) (fun _ => 0) (fun _ => 0) (fun _ => 0) (fun _ => 0) (fun _ => 0) (upd (upd (upd (upd (upd (fun _ => 0) (0 : Int32).toNatClampNeg 8) (1 : Int32).toNatClampNeg 3) (2 : Int32).toNatClampNeg 5) (3 : Int32).toNatClampNeg 1) (4 : Int32).toNatClampNeg 6) (fun _ => 0) (fun _ => 0) (fun _ => 0) (fun _ => 0) (fun _ => 0) (fun _ => 0) (fun _ => 0) (fun _ => 0) (fun _ => 0) (fun _ => 0) (fun _ => 0) (fun _ => 0) (fun _ => 0) (fun _ => 0) (fun _ => 0) (fun _ => 0) (fun _ => 0) (fun _ => 0) := by
  intro va0 ea0; obtain rfl : va0 = 1 := ea0.trans (by decide); refine And.intro (g_in (by decide +kernel)) ?_; intro wa0 fa0; subst fa0
  refine fx_count _ _ (fun r hr => ?_)
  intro vb0 eb0; obtain rfl : vb0 = 1 := eb0.trans (by decide); refine And.intro (g_in (by decide +kernel)) ?_; intro wb0 fb0; subst fb0
  refine fm_count _ _ (fun r2 hr2 q0 => ?_)
  refine br_t (hr.trans hr2.symm) ?_
  exact pl_end xs
set_option maxHeartbeats 8000000 in
set_option maxRecDepth 200000 in
theorem pc_50 (xs : Nat → Int32) : ws_law_1544 5 xs (wb_law 5 xs 1) 0 (fun _ => 0) 0 0 0 (fun _ => 0) 0 0 0 0 (fun _ => 0) (fun _ => 0) (fun _ => 0) (fun _ => 0) (fun _ => 0) 0 0 0 0 (fun _ => 0) (fun _ => 0) (fun _ => 0) (fun _ => 0) (fun _ => 0) (fun _ => 0) (upd (upd (upd (upd (upd (fun _ => 0) (0 : Int32).toNatClampNeg 8) (1 : Int32).toNatClampNeg 3) (2 : Int32).toNatClampNeg 5) (3 : Int32).toNatClampNeg 1) (4 : Int32).toNatClampNeg 6) 0 0 0 0 (-1) 0 0 0 0 0 0 0 0 0 (fun _ => 0) (fun _ => 0) (fun _ => 0) (fun _ => 0) (fun _ => 0) 0 0 (fun _ => 0) (fun _ => 0) (fun _ => 0) 0 (fun _ => 0) 0 (fun _ => 0) (fun _ => 0) 0 0 0 0 0 0 0 0 0 0 0 0 0 0 0 0 0 0 0 0 0 0 0 0 0 0 (upd (fun _ => 0) (17 : Int32).toNatClampNeg (-1)) (fun _ => 0) (fun _ => 0) (fun _ => 0) (fun _ => 0) (fun _ => 0) (fun _ => 0) (upd (upd (upd (upd (upd (fun _ => 0) (0 : Int32).toNatClampNeg 8) (1 : Int32).toNatClampNeg 3) (2 : Int32).toNatClampNeg 5) (3 : Int32).toNatClampNeg 1) (4 : Int32).toNatClampNeg 6) (fun _ => 0) (fun _ => 0) (fun _ => 0) (fun _ => 0) (fun _ => 0) (fun _ => 0) (fun _ => 0) (fun _ => 0) (fun _ => 0) (fun _ => 0) (fun _ => 0) (fun _ => 0) (fun _ => 0) (fun _ => 0) (fun _ => 0) (fun _ => 0) (fun _ => 0) (fun _ => 0) := by
  intro va0 ea0; obtain rfl : va0 = 1 := ea0.trans (by decide); refine And.intro (g_in (by decide +kernel)) ?_; intro wa0 fa0; subst fa0
  refine fxt_row _ _ _ ?_
  intro vb0 eb0; obtain rfl : vb0 = 1 := eb0.trans (by decide); refine And.intro (g_in (by decide +kernel)) ?_; intro wb0 fb0; subst fb0
  refine fmt_row _ _ (fun r2 => ?_)
  refine br_t rfl ?_
  refine And.intro (fun _ => ?_) (fun h9 => absurd h9 (by decide))
  exact pl_end xs
