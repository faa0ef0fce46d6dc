set_option maxHeartbeats 8000000 in
set_option maxRecDepth 200000 in
theorem t_X9_undo {post : Int32 → Int32 → Int32 → Int32 → Int32 → Int32 → Int32 → Int32 → Int32 → Int32 → Int32 → Prop} {no_apron : Int32} {no_basket : Int32} {no_ground : Int32} {no_bruised : Int32} {no_ladder : Int32} {no_helper : Int32} {no_today : Int32} {no_clock : Int32} {pa_undoable : Int32} {pa_free : Int32} {pa_cells : Nat → Int32} (h_no_ladder : -1 ≤ Int32.toInt no_ladder ∧ Int32.toInt no_ladder ≤ 7) (h_no_today : 0 ≤ Int32.toInt no_today ∧ Int32.toInt no_today ≤ 9) (h_pa_undoable : 0 ≤ Int32.toInt pa_undoable ∧ Int32.toInt pa_undoable ≤ 12) (h_pa_free : 0 ≤ Int32.toInt pa_free ∧ Int32.toInt pa_free ≤ 12) (e0_pa_cells : ∀ k : Nat, k % 8 = 4 → -1 ≤ Int32.toInt (pa_cells k) ∧ Int32.toInt (pa_cells k) ≤ 7) (e1_pa_cells : ∀ k : Nat, k % 8 = 6 → 0 ≤ Int32.toInt (pa_cells k) ∧ Int32.toInt (pa_cells k) ≤ 9) (hpost : ∀ (r : Int32) (no_apron' : Int32) (no_basket' : Int32) (no_ground' : Int32) (no_bruised' : Int32) (no_ladder' : Int32) (no_helper' : Int32) (no_today' : Int32) (no_clock' : Int32) (pa_undoable' : Int32) (pa_free' : Int32), (-1 ≤ Int32.toInt r ∧ Int32.toInt r ≤ 11) → (-1 ≤ Int32.toInt no_ladder' ∧ Int32.toInt no_ladder' ≤ 7) → (0 ≤ Int32.toInt no_today' ∧ Int32.toInt no_today' ≤ 9) → (0 ≤ Int32.toInt pa_undoable' ∧ Int32.toInt pa_undoable' ≤ 11) → (0 ≤ Int32.toInt pa_free' ∧ Int32.toInt pa_free' ≤ 12) → post r no_apron' no_basket' no_ground' no_bruised' no_ladder' no_helper' no_today' no_clock' pa_undoable' pa_free') : wp_X9_undo post no_apron no_basket no_ground no_bruised no_ladder no_helper no_today no_clock pa_undoable pa_free pa_cells := by
  have l0 : Int32.toInt ((-1) : Int32) = -1 := (by decide)
  have l1 : Int32.toInt (0 : Int32) = 0 := (by decide)
  have l2 : Int32.toInt (1 : Int32) = 1 := (by decide)
  have l3 : Int32.toInt (104 : Int32) = 104 := (by decide)
  have l4 : Int32.toInt (13 : Int32) = 13 := (by decide)
  have l5 : Int32.toInt (2 : Int32) = 2 := (by decide)
  have l6 : Int32.toInt (3 : Int32) = 3 := (by decide)
  have l7 : Int32.toInt (4 : Int32) = 4 := (by decide)
  have l8 : Int32.toInt (5 : Int32) = 5 := (by decide)
  have l9 : Int32.toInt (6 : Int32) = 6 := (by decide)
  have l10 : Int32.toInt (7 : Int32) = 7 := (by decide)
  have l11 : Int32.toInt (8 : Int32) = 8 := (by decide)
  refine And.intro (fun c1 => ?_) (fun c1 => ?_)
  · skip
    have c1 := mt (fa_eq _ _).mpr c1
    intro v2 ev2
    have f3 : Int32.toInt (pa_free + 13) = Int32.toInt pa_free + Int32.toInt (13 : Int32) := ta_add _ _ (by omega)
    rw [← ev2] at f3
    intro v4 ev4
    have f5 : Int32.toInt (v2 - 1) = Int32.toInt v2 - Int32.toInt (1 : Int32) := ta_sub _ _ (by omega)
    rw [← ev4] at f5
    intro v6 ev6
    have f7 : Int32.toInt (v4 - v4 / 13 * 13) = Int32.toInt v4 % 13 := ti_rem _ _ (by decide) (by omega) (by decide)
    rw [← ev6] at f7
    intro v8 ev8
    have f9 : Int32.toInt (pa_undoable - 1) = Int32.toInt pa_undoable - Int32.toInt (1 : Int32) := ta_sub _ _ (by omega)
    rw [← ev8] at f9
    intro v10 ev10
    have f11 : Int32.toInt (v6 * 8) = Int32.toInt v6 * 8 := ta_mulc _ _ (by decide) (by omega)
    rw [← ev10] at f11
    refine And.intro (fun c12 => ?_) (fun c12 => ?_)
    · skip
      have c12 := (fa_lt _ _).mp c12
      exfalso; omega
    · skip
      have c12 := mt (fa_lt _ _).mpr c12
      have f14 : Int32.toInt (104 - 8) = Int32.toInt (104 : Int32) - Int32.toInt (8 : Int32) := ta_sub _ _ (by omega)
      refine And.intro (fun c13 => ?_) (fun c13 => ?_)
      · skip
        have c13 := (fa_le _ _).mp c13
        refine And.intro (t_in (by omega)) ?_
        intro v15 ev15
        have hv15 := congrArg Int32.toInt ev15
        intro v17 ev17
        have f18 : Int32.toInt (v10 + 1) = Int32.toInt v10 + Int32.toInt (1 : Int32) := ta_add _ _ (by omega)
        rw [← ev17] at f18
        refine And.intro (t_in (by omega)) ?_
        intro v19 ev19
        have hv19 := congrArg Int32.toInt ev19
        intro v21 ev21
        have f22 : Int32.toInt (v10 + 2) = Int32.toInt v10 + Int32.toInt (2 : Int32) := ta_add _ _ (by omega)
        rw [← ev21] at f22
        refine And.intro (t_in (by omega)) ?_
        intro v23 ev23
        have hv23 := congrArg Int32.toInt ev23
        intro v25 ev25
        have f26 : Int32.toInt (v10 + 3) = Int32.toInt v10 + Int32.toInt (3 : Int32) := ta_add _ _ (by omega)
        rw [← ev25] at f26
        refine And.intro (t_in (by omega)) ?_
        intro v27 ev27
        have hv27 := congrArg Int32.toInt ev27
        intro v29 ev29
        have f30 : Int32.toInt (v10 + 4) = Int32.toInt v10 + Int32.toInt (4 : Int32) := ta_add _ _ (by omega)
        rw [← ev29] at f30
        refine And.intro (t_in (by omega)) ?_
        have q31 := e0_pa_cells v29.toNatClampNeg (by have e9 : v29.toNatClampNeg = (Int32.toInt v29).toNat := rfl; omega)
        intro v32 ev32
        have hv32 := congrArg Int32.toInt ev32
        intro v34 ev34
        have f35 : Int32.toInt (v10 + 5) = Int32.toInt v10 + Int32.toInt (5 : Int32) := ta_add _ _ (by omega)
        rw [← ev34] at f35
        refine And.intro (t_in (by omega)) ?_
        intro v36 ev36
        have hv36 := congrArg Int32.toInt ev36
        intro v38 ev38
        have f39 : Int32.toInt (v10 + 6) = Int32.toInt v10 + Int32.toInt (6 : Int32) := ta_add _ _ (by omega)
        rw [← ev38] at f39
        refine And.intro (t_in (by omega)) ?_
        have q40 := e1_pa_cells v38.toNatClampNeg (by have e9 : v38.toNatClampNeg = (Int32.toInt v38).toNat := rfl; omega)
        intro v41 ev41
        have hv41 := congrArg Int32.toInt ev41
        intro v43 ev43
        have f44 : Int32.toInt (v10 + 7) = Int32.toInt v10 + Int32.toInt (7 : Int32) := ta_add _ _ (by omega)
        rw [← ev43] at f44
        refine And.intro (t_in (by omega)) ?_
        intro v45 ev45
        have hv45 := congrArg Int32.toInt ev45
        exact hpost _ _ _ _ _ _ _ _ _ _ _ (by omega) (by omega) (by omega) (by omega) (by omega)
      · skip
        have c13 := mt (fa_le _ _).mpr c13
        exfalso; omega
  · skip
    have c1 := (fa_eq _ _).mp c1
    exact hpost _ _ _ _ _ _ _ _ _ _ _ (by omega) (by omega) (by omega) (by omega) (by omega)
set_option maxHeartbeats 8000000 in
set_option maxRecDepth 200000 in
theorem t_X9_reached {post : Int32 → Int32 → (Nat → Int32) → Prop} {p0 : Int32} {tr_fruits : Int32} {tr_standings : Int32} {tr_x : Nat → Int32} {tr_height : Nat → Int32} {tr_foot : Nat → Int32} {tr_fork : Nat → Int32} {tr_settings : Nat → Int32} {ro_size : Int32} {ro_numbers : Nat → Int32} (h_tr_fruits : 0 ≤ Int32.toInt tr_fruits ∧ Int32.toInt tr_fruits ≤ 16) (h_tr_standings : 0 ≤ Int32.toInt tr_standings ∧ Int32.toInt tr_standings ≤ 8) (h_ro_size : 0 ≤ Int32.toInt ro_size ∧ Int32.toInt ro_size ≤ 16) (hpost : ∀ (r : Int32) (ro_size' : Int32) (ro_numbers' : Nat → Int32), (-1 ≤ Int32.toInt r ∧ Int32.toInt r ≤ 65535) → (0 ≤ Int32.toInt ro_size' ∧ Int32.toInt ro_size' ≤ 16) → post r ro_size' ro_numbers') : wp_X9_reached post p0 tr_fruits tr_standings tr_x tr_height tr_foot tr_fork tr_settings ro_size ro_numbers := by
  have l0 : Int32.toInt ((-1) : Int32) = -1 := (by decide)
  have l1 : Int32.toInt (0 : Int32) = 0 := (by decide)
  have l2 : Int32.toInt (1 : Int32) = 1 := (by decide)
  have l3 : Int32.toInt (16 : Int32) = 16 := (by decide)
  have l4 : Int32.toInt (2 : Int32) = 2 := (by decide)
  have f2 := tp_r p0
  refine And.intro (fun c1 => ?_) (fun c1 => ?_)
  · skip
    have c1 := (fa_lt _ _).mp c1
    refine And.intro (fun h9 => absurd h9 (by decide)) (fun _ => ?_)
    exact hpost _ _ _ (by omega) (by omega)
  · skip
    have c1 := mt (fa_lt _ _).mpr c1
    refine And.intro (fun c3 => ?_) (fun c3 => ?_)
    · skip
      have c3 := (fa_le _ _).mp c3
      refine And.intro (fun h9 => absurd h9 (by decide)) (fun _ => ?_)
      exact hpost _ _ _ (by omega) (by omega)
    · skip
      have c3 := mt (fa_le _ _).mpr c3
      refine And.intro (fun _ => ?_) (fun h9 => absurd h9 (by decide))
      intro v4 ev4
      have hv4 := congrArg Int32.toInt ev4
      intro v6 ev6
      have hv6 := congrArg Int32.toInt ev6
      refine t_X3_within (by omega) (by omega) (fun r8 h_r8 => ?_)
      intro v9 ev9
      have hv9 := congrArg Int32.toInt ev9
      intro v10 ev10
      have hv10 := congrArg Int32.toInt ev10
      refine t_X3_within (by omega) (by omega) (fun r12 h_r12 => ?_)
      refine And.intro (fun h9 => absurd h9 (by decide)) (fun _ => ?_)
      refine And.intro (t_in (by omega)) ?_
      intro v13 ev13
      have f14 : Int32.toInt (0 + 1) = Int32.toInt (0 : Int32) + Int32.toInt (1 : Int32) := ta_add _ _ (by omega)
      rw [← ev13] at f14
      refine And.intro (fun c15 => ?_) (fun c15 => ?_)
      · skip
        have c15 := (fa_le _ _).mp c15
        exfalso; omega
      · skip
        have c15 := mt (fa_le _ _).mpr c15
        refine And.intro (t_in (by omega)) ?_
        intro v16 ev16
        have f17 : Int32.toInt (v13 + 1) = Int32.toInt v13 + Int32.toInt (1 : Int32) := ta_add _ _ (by omega)
        rw [← ev16] at f17
        intro v18 ev18
        have hv18 := congrArg Int32.toInt ev18
        intro v19 ev19
        have f21 := tp_r v18
        have f22 : Int32.toInt (0 * (tr_settings (1 : Int32).toNatClampNeg)) = Int32.toInt (tr_settings (1 : Int32).toNatClampNeg) * 0 := ta_cmul _ _ (by decide) (by omega)
        have f20 : Int32.toInt (v18 + (0 * (tr_settings (1 : Int32).toNatClampNeg))) = Int32.toInt v18 + Int32.toInt (0 * (tr_settings (1 : Int32).toNatClampNeg)) := ta_add _ _ (by omega)
        rw [← ev19] at f20
        refine t_X3_within (by omega) (by omega) (fun r24 h_r24 => ?_)
        exact hpost _ _ _ (by omega) (by omega)
set_option maxHeartbeats 8000000 in
set_option maxRecDepth 200000 in
theorem ts_X9_from_77 {post : Int32 → Prop} {K42 : Int32 → Int32 → Int32 → Int32 → Prop} {n42 : Int} (tr_fruits : Int32) (tr_standings : Int32) (tr_x : Nat → Int32) (tr_height : Nat → Int32) (tr_foot : Nat → Int32) (tr_fork : Nat → Int32) (tr_settings : Nat → Int32) (no_helper : Int32) (h_tr_fruits : 0 ≤ Int32.toInt tr_fruits ∧ Int32.toInt tr_fruits ≤ 16) (h_tr_standings : 0 ≤ Int32.toInt tr_standings ∧ Int32.toInt tr_standings ≤ 8) (hpost : ∀ (r : Int32) , (-1 ≤ Int32.toInt r ∧ Int32.toInt r ≤ 255) → post r) (hK42 : ∀ (x1 : Int32) (x3 : Int32) (x4 : Int32) (x5 : Int32), (0 ≤ Int32.toInt x1 ∧ Int32.toInt x1 ≤ 15) → (0 ≤ Int32.toInt x4 ∧ Int32.toInt x4 ≤ 255) → (0 ≤ Int32.toInt x5 ∧ Int32.toInt x5 ≤ 8) → (8 - Int32.toInt x5 < n42) → K42 x1 x3 x4 x5) (x1 : Int32) (x3 : Int32) (x4 : Int32) (x5 : Int32) (h_x1 : 0 ≤ Int32.toInt x1 ∧ Int32.toInt x1 ≤ 15) (h_x4 : 0 ≤ Int32.toInt x4 ∧ Int32.toInt x4 ≤ 255) (h_x5 : 0 ≤ Int32.toInt x5 ∧ Int32.toInt x5 ≤ 7) (hn42 : 8 - Int32.toInt x5 ≤ n42) : ws_X9_from_77 post K42 tr_fruits tr_standings tr_x tr_height tr_foot tr_fork tr_settings no_helper x1 x3 x4 x5 := by
  have l0 : Int32.toInt (1 : Int32) = 1 := (by decide)
  intro v1 ev1
  have f2 : Int32.toInt (x5 + 1) = Int32.toInt x5 + Int32.toInt (1 : Int32) := ta_add _ _ (by omega)
  rw [← ev1] at f2
  have f3 := tp_r x3
  exact hK42 x1 x3 x4 v1 (by omega) (by omega) (by omega) (by omega)
set_option maxHeartbeats 8000000 in
set_option maxRecDepth 200000 in
theorem ts_X9_from_42 {post : Int32 → Prop} {next : Int32 → Int32 → Int32 → Int32 → Prop} {n42 : Int} (tr_fruits : Int32) (tr_standings : Int32) (tr_x : Nat → Int32) (tr_height : Nat → Int32) (tr_foot : Nat → Int32) (tr_fork : Nat → Int32) (tr_settings : Nat → Int32) (no_helper : Int32) (h_tr_fruits : 0 ≤ Int32.toInt tr_fruits ∧ Int32.toInt tr_fruits ≤ 16) (h_tr_standings : 0 ≤ Int32.toInt tr_standings ∧ Int32.toInt tr_standings ≤ 8) (hpost : ∀ (r : Int32) , (-1 ≤ Int32.toInt r ∧ Int32.toInt r ≤ 255) → post r) (hKn : ∀ (x1 : Int32) (x3 : Int32) (x4 : Int32) (x5 : Int32), (0 ≤ Int32.toInt x1 ∧ Int32.toInt x1 ≤ 15) → (0 ≤ Int32.toInt x4 ∧ Int32.toInt x4 ≤ 255) → (0 ≤ Int32.toInt x5 ∧ Int32.toInt x5 ≤ 8) → (8 - Int32.toInt x5 < n42) → next x1 x3 x4 x5) (x1 : Int32) (x3 : Int32) (x4 : Int32) (x5 : Int32) (h_x1 : 0 ≤ Int32.toInt x1 ∧ Int32.toInt x1 ≤ 15) (h_x4 : 0 ≤ Int32.toInt x4 ∧ Int32.toInt x4 ≤ 255) (h_x5 : 0 ≤ Int32.toInt x5 ∧ Int32.toInt x5 ≤ 8) (hn42 : 8 - Int32.toInt x5 ≤ n42) : ws_X9_from_42 post next tr_fruits tr_standings tr_x tr_height tr_foot tr_fork tr_settings no_helper x1 x3 x4 x5 := by
  have l0 : Int32.toInt (0 : Int32) = 0 := (by decide)
  refine And.intro (fun c4 => ?_) (fun c4 => ?_)
  · skip
    have c4 := (fa_le _ _).mp c4
    exact hpost _ (by omega)
  · skip
    have c4 := mt (fa_le _ _).mpr c4
    refine And.intro (t_in (by omega)) ?_
    intro v5 ev5
    have hv5 := congrArg Int32.toInt ev5
    refine And.intro (t_in (by omega)) ?_
    have f8 := tp_r v5
    refine And.intro (fun c7 => ?_) (fun c7 => ?_)
    · skip
      have c7 := (fa_le _ _).mp c7
      refine And.intro (t_in (by omega)) ?_
      intro v10 ev10
      have hv10 := congrArg Int32.toInt ev10
      refine And.intro (t_in (by omega)) ?_
      refine And.intro (t_in (by omega)) ?_
      intro v11 ev11
      have hv11 := congrArg Int32.toInt ev11
      refine And.intro (t_in (by omega)) ?_
      have f14 := tp_r v11
      refine And.intro (fun c13 => ?_) (fun c13 => ?_)
      · skip
        have c13 := (fa_le _ _).mp c13
        intro v16 ev16
        have hv16 := congrArg Int32.toInt ev16
        intro v18 ev18
        have f20 := tp_r v16
        have f21 : Int32.toInt (0 * 0) = Int32.toInt (0 : Int32) * 0 := ta_mulc _ _ (by decide) (by omega)
        have f19 : Int32.toInt (v16 + (0 * 0)) = Int32.toInt v16 + Int32.toInt (0 * 0) := ta_add _ _ (by omega)
        rw [← ev18] at f19
        have f23 := tp_r v18
        refine And.intro (fun c22 => ?_) (fun c22 => ?_)
        · skip
          have c22 := (fa_lt _ _).mp c22
          refine And.intro (fun _ => ?_) (fun h9 => absurd h9 (by decide))
          have f25 := tp_r x3
          exact ts_X9_from_77 tr_fruits tr_standings tr_x tr_height tr_foot tr_fork tr_settings no_helper h_tr_fruits h_tr_standings hpost hKn x1 x3 x4 x5 (by omega) (by omega) (by omega) (by omega)
        · skip
          have c22 := mt (fa_lt _ _).mpr c22
          refine And.intro (fun h9 => absurd h9 (by decide)) (fun _ => ?_)
          intro v26 ev26
          have f28 := ti_shl1 7 128 x5 (by decide) (by omega)
          have f27 := ti_or 8 256 x4 (1 <<< (x5 &&& 31)) (by decide) (by omega) (by omega)
          have hv26 := congrArg Int32.toInt ev26
          have f29 := tp_r x3
          exact ts_X9_from_77 tr_fruits tr_standings tr_x tr_height tr_foot tr_fork tr_settings no_helper h_tr_fruits h_tr_standings hpost hKn x1 x3 v26 x5 (by omega) (by omega) (by omega) (by omega)
      · skip
        have c13 := mt (fa_le _ _).mpr c13
        refine And.intro (t_in (by omega)) ?_
        intro v30 ev30
        have hv30 := congrArg Int32.toInt ev30
        refine And.intro (t_in (by omega)) ?_
        intro v31 ev31
        have hv31 := congrArg Int32.toInt ev31
        intro v33 ev33
        have hv33 := congrArg Int32.toInt ev33
        intro v35 ev35
        have hv35 := congrArg Int32.toInt ev35
        have f38 := tp_r v35
        refine And.intro (fun c37 => ?_) (fun c37 => ?_)
        · skip
          have c37 := (fa_lt _ _).mp c37
          refine And.intro (fun _ => ?_) (fun h9 => absurd h9 (by decide))
          have f40 := tp_r x3
          exact ts_X9_from_77 tr_fruits tr_standings tr_x tr_height tr_foot tr_fork tr_settings no_helper h_tr_fruits h_tr_standings hpost hKn x1 x3 x4 x5 (by omega) (by omega) (by omega) (by omega)
        · skip
          have c37 := mt (fa_lt _ _).mpr c37
          refine And.intro (fun h9 => absurd h9 (by decide)) (fun _ => ?_)
          intro v41 ev41
          have f43 := ti_shl1 7 128 x5 (by decide) (by omega)
          have f42 := ti_or 8 256 x4 (1 <<< (x5 &&& 31)) (by decide) (by omega) (by omega)
          have hv41 := congrArg Int32.toInt ev41
          have f44 := tp_r x3
          exact ts_X9_from_77 tr_fruits tr_standings tr_x tr_height tr_foot tr_fork tr_settings no_helper h_tr_fruits h_tr_standings hpost hKn x1 x3 v41 x5 (by omega) (by omega) (by omega) (by omega)
    · skip
      have c7 := mt (fa_le _ _).mpr c7
      refine And.intro (t_in (by omega)) ?_
      intro v45 ev45
      have hv45 := congrArg Int32.toInt ev45
      refine And.intro (t_in (by omega)) ?_
      intro v46 ev46
      have hv46 := congrArg Int32.toInt ev46
      refine And.intro (t_in (by omega)) ?_
      intro v48 ev48
      have hv48 := congrArg Int32.toInt ev48
      refine And.intro (t_in (by omega)) ?_
      have f51 := tp_r v48
      refine And.intro (fun c50 => ?_) (fun c50 => ?_)
      · skip
        have c50 := (fa_le _ _).mp c50
        intro v53 ev53
        have hv53 := congrArg Int32.toInt ev53
        intro v55 ev55
        have f57 := tp_r v53
        have f58 : Int32.toInt (0 * 0) = Int32.toInt (0 : Int32) * 0 := ta_mulc _ _ (by decide) (by omega)
        have f56 : Int32.toInt (v53 + (0 * 0)) = Int32.toInt v53 + Int32.toInt (0 * 0) := ta_add _ _ (by omega)
        rw [← ev55] at f56
        have f60 := tp_r v55
        refine And.intro (fun c59 => ?_) (fun c59 => ?_)
        · skip
          have c59 := (fa_lt _ _).mp c59
          refine And.intro (fun _ => ?_) (fun h9 => absurd h9 (by decide))
          have f62 := tp_r x3
          exact ts_X9_from_77 tr_fruits tr_standings tr_x tr_height tr_foot tr_fork tr_settings no_helper h_tr_fruits h_tr_standings hpost hKn x1 x3 x4 x5 (by omega) (by omega) (by omega) (by omega)
        · skip
          have c59 := mt (fa_lt _ _).mpr c59
          refine And.intro (fun h9 => absurd h9 (by decide)) (fun _ => ?_)
          intro v63 ev63
          have f65 := ti_shl1 7 128 x5 (by decide) (by omega)
          have f64 := ti_or 8 256 x4 (1 <<< (x5 &&& 31)) (by decide) (by omega) (by omega)
          have hv63 := congrArg Int32.toInt ev63
          have f66 := tp_r x3
          exact ts_X9_from_77 tr_fruits tr_standings tr_x tr_height tr_foot tr_fork tr_settings no_helper h_tr_fruits h_tr_standings hpost hKn x1 x3 v63 x5 (by omega) (by omega) (by omega) (by omega)
      · skip
        have c50 := mt (fa_le _ _).mpr c50
        refine And.intro (t_in (by omega)) ?_
        intro v67 ev67
        have hv67 := congrArg Int32.toInt ev67
        refine And.intro (t_in (by omega)) ?_
        intro v68 ev68
        have hv68 := congrArg Int32.toInt ev68
        intro v70 ev70
        have hv70 := congrArg Int32.toInt ev70
        intro v72 ev72
        have hv72 := congrArg Int32.toInt ev72
        have f75 := tp_r v72
        refine And.intro (fun c74 => ?_) (fun c74 => ?_)
        · skip
          have c74 := (fa_lt _ _).mp c74
          refine And.intro (fun _ => ?_) (fun h9 => absurd h9 (by decide))
          have f77 := tp_r x3
          exact ts_X9_from_77 tr_fruits tr_standings tr_x tr_height tr_foot tr_fork tr_settings no_helper h_tr_fruits h_tr_standings hpost hKn x1 x3 x4 x5 (by omega) (by omega) (by omega) (by omega)
        · skip
          have c74 := mt (fa_lt _ _).mpr c74
          refine And.intro (fun h9 => absurd h9 (by decide)) (fun _ => ?_)
          intro v78 ev78
          have f80 := ti_shl1 7 128 x5 (by decide) (by omega)
          have f79 := ti_or 8 256 x4 (1 <<< (x5 &&& 31)) (by decide) (by omega) (by omega)
          have hv78 := congrArg Int32.toInt ev78
          have f81 := tp_r x3
          exact ts_X9_from_77 tr_fruits tr_standings tr_x tr_height tr_foot tr_fork tr_settings no_helper h_tr_fruits h_tr_standings hpost hKn x1 x3 v78 x5 (by omega) (by omega) (by omega) (by omega)
set_option maxHeartbeats 8000000 in
set_option maxRecDepth 200000 in
theorem tb_X9_from_42 {post : Int32 → Prop} (tr_fruits : Int32) (tr_standings : Int32) (tr_x : Nat → Int32) (tr_height : Nat → Int32) (tr_foot : Nat → Int32) (tr_fork : Nat → Int32) (tr_settings : Nat → Int32) (no_helper : Int32) (h_tr_fruits : 0 ≤ Int32.toInt tr_fruits ∧ Int32.toInt tr_fruits ≤ 16) (h_tr_standings : 0 ≤ Int32.toInt tr_standings ∧ Int32.toInt tr_standings ≤ 8) (hpost : ∀ (r : Int32) , (-1 ≤ Int32.toInt r ∧ Int32.toInt r ≤ 255) → post r) : ∀ (n : Nat) (x1 : Int32) (x3 : Int32) (x4 : Int32) (x5 : Int32), (0 ≤ Int32.toInt x1 ∧ Int32.toInt x1 ≤ 15) → (0 ≤ Int32.toInt x4 ∧ Int32.toInt x4 ≤ 255) → (0 ≤ Int32.toInt x5 ∧ Int32.toInt x5 ≤ 8) → (8 - Int32.toInt x5 < (n : Int)) → wb_X9_from_42 post tr_fruits tr_standings tr_x tr_height tr_foot tr_fork tr_settings no_helper n x1 x3 x4 x5 := by
  intro n
  induction n with
  | zero =>
    intro x1 x3 x4 x5 h_x1 h_x4 h_x5 hm
    exfalso; omega
  | succ n ih =>
    intro x1 x3 x4 x5 h_x1 h_x4 h_x5 hm
    exact ts_X9_from_42 tr_fruits tr_standings tr_x tr_height tr_foot tr_fork tr_settings no_helper h_tr_fruits h_tr_standings hpost ih x1 x3 x4 x5 h_x1 h_x4 h_x5 (by omega)
set_option maxHeartbeats 8000000 in
set_option maxRecDepth 200000 in
theorem t_X9_from {post : Int32 → Prop} {p0 : Int32} {p1 : Int32} {tr_fruits : Int32} {tr_standings : Int32} {tr_x : Nat → Int32} {tr_height : Nat → Int32} {tr_foot : Nat → Int32} {tr_fork : Nat → Int32} {tr_settings : Nat → Int32} {no_helper : Int32} (h_tr_fruits : 0 ≤ Int32.toInt tr_fruits ∧ Int32.toInt tr_fruits ≤ 16) (h_tr_standings : 0 ≤ Int32.toInt tr_standings ∧ Int32.toInt tr_standings ≤ 8) (hpost : ∀ (r : Int32) , (-1 ≤ Int32.toInt r ∧ Int32.toInt r ≤ 255) → post r) : wp_X9_from post p0 p1 tr_fruits tr_standings tr_x tr_height tr_foot tr_fork tr_settings no_helper := by
  have l0 : Int32.toInt ((-1) : Int32) = -1 := (by decide)
  have l1 : Int32.toInt (0 : Int32) = 0 := (by decide)
  have l2 : Int32.toInt (1 : Int32) = 1 := (by decide)
  have l3 : Int32.toInt (2 : Int32) = 2 := (by decide)
  have f83 := tp_r p0
  refine And.intro (fun c82 => ?_) (fun c82 => ?_)
  · skip
    have c82 := (fa_lt _ _).mp c82
    refine And.intro (fun _ => ?_) (fun h9 => absurd h9 (by decide))
    exact hpost _ (by omega)
  · skip
    have c82 := mt (fa_lt _ _).mpr c82
    refine And.intro (fun c84 => ?_) (fun c84 => ?_)
    · skip
      have c84 := (fa_le _ _).mp c84
      refine And.intro (fun _ => ?_) (fun h9 => absurd h9 (by decide))
      exact hpost _ (by omega)
    · skip
      have c84 := mt (fa_le _ _).mpr c84
      refine And.intro (fun h9 => absurd h9 (by decide)) (fun _ => ?_)
      refine t_X9_isYesOrNo  (fun r85 h_r85 => ?_)
      refine And.intro (fun c86 => ?_) (fun c86 => ?_)
      · skip
        have c86 := mt (fa_eq _ _).mpr c86
        intro v87 ev87
        have hv87 := congrArg Int32.toInt ev87
        intro v89 ev89
        have hv89 := congrArg Int32.toInt ev89
        exact ⟨10, tb_X9_from_42 tr_fruits tr_standings tr_x tr_height tr_foot tr_fork tr_settings no_helper h_tr_fruits h_tr_standings hpost _ p0 (v89 + (p1 * (tr_settings (2 : Int32).toNatClampNeg))) 0 0 (by omega) (by omega) (by omega) (by omega)⟩
      · skip
        have c86 := (fa_eq _ _).mp c86
        exact hpost _ (by omega)
set_option maxHeartbeats 8000000 in
set_option maxRecDepth 200000 in
theorem ts_X9_never_10 {post : Int32 → Int32 → (Nat → Int32) → Prop} {next : Int32 → Int32 → Int32 → (Nat → Int32) → Prop} {n10 : Int} (tr_fruits : Int32) (tr_standings : Int32) (tr_x : Nat → Int32) (tr_height : Nat → Int32) (tr_worth : Nat → Int32) (tr_foot : Nat → Int32) (tr_fork : Nat → Int32) (tr_settings : Nat → Int32) (no_apron : Int32) (no_basket : Int32) (no_ground : Int32) (no_bruised : Int32) (h_tr_fruits : 0 ≤ Int32.toInt tr_fruits ∧ Int32.toInt tr_fruits ≤ 16) (h_tr_standings : 0 ≤ Int32.toInt tr_standings ∧ Int32.toInt tr_standings ≤ 8) (hpost : ∀ (r : Int32) (ro_size' : Int32) (ro_numbers' : Nat → Int32), (0 ≤ Int32.toInt r ∧ Int32.toInt r ≤ 65535) → (1 ≤ Int32.toInt ro_size' ∧ Int32.toInt ro_size' ≤ 1) → post r ro_size' ro_numbers') (hKn : ∀ (x1 : Int32) (x2 : Int32) (ro_size : Int32) (ro_numbers : Nat → Int32), (0 ≤ Int32.toInt x1 ∧ Int32.toInt x1 ≤ 65535) → (0 ≤ Int32.toInt x2 ∧ Int32.toInt x2 ≤ 8) → (0 ≤ Int32.toInt ro_size ∧ Int32.toInt ro_size ≤ 16) → (8 - Int32.toInt x2 < n10) → next x1 x2 ro_size ro_numbers) (x1 : Int32) (x2 : Int32) (ro_size : Int32) (ro_numbers : Nat → Int32) (h_x1 : 0 ≤ Int32.toInt x1 ∧ Int32.toInt x1 ≤ 65535) (h_x2 : 0 ≤ Int32.toInt x2 ∧ Int32.toInt x2 ≤ 8) (h_ro_size : 0 ≤ Int32.toInt ro_size ∧ Int32.toInt ro_size ≤ 16) (hn10 : 8 - Int32.toInt x2 ≤ n10) : ws_X9_never_10 post next tr_fruits tr_standings tr_x tr_height tr_worth tr_foot tr_fork tr_settings no_apron no_basket no_ground no_bruised x1 x2 ro_size ro_numbers := by
  have l0 : Int32.toInt (0 : Int32) = 0 := (by decide)
  have l1 : Int32.toInt (1 : Int32) = 1 := (by decide)
  have l2 : Int32.toInt (2 : Int32) = 2 := (by decide)
  refine And.intro (fun c1 => ?_) (fun c1 => ?_)
  · skip
    have c1 := (fa_le _ _).mp c1
    refine t_X3_worthOf (by omega) (fun r2 => ?_)
    refine And.intro (fun h9 => absurd h9 (by decide)) (fun _ => ?_)
    refine And.intro (t_in (by omega)) ?_
    intro v3 ev3
    have f4 : Int32.toInt (0 + 1) = Int32.toInt (0 : Int32) + Int32.toInt (1 : Int32) := ta_add _ _ (by omega)
    rw [← ev3] at f4
    exact hpost _ _ _ (by omega) (by omega)
  · skip
    have c1 := mt (fa_le _ _).mpr c1
    intro v5 ev5
    have hv5 := congrArg Int32.toInt ev5
    intro v7 ev7
    have hv7 := congrArg Int32.toInt ev7
    refine t_X3_within (by omega) (by omega) (fun r9 h_r9 => ?_)
    intro v10 ev10
    have f12 := ti_andl x1 (r9 ^^^ (-1)) (by omega)
    have hv10 := congrArg Int32.toInt ev10
    intro v13 ev13
    have f14 : Int32.toInt (x2 + 1) = Int32.toInt x2 + Int32.toInt (1 : Int32) := ta_add _ _ (by omega)
    rw [← ev13] at f14
    exact hKn v10 v13 ro_size ro_numbers (by omega) (by omega) (by omega) (by omega)
set_option maxHeartbeats 8000000 in
set_option maxRecDepth 200000 in
theorem tb_X9_never_10 {post : Int32 → Int32 → (Nat → Int32) → Prop} (tr_fruits : Int32) (tr_standings : Int32) (tr_x : Nat → Int32) (tr_height : Nat → Int32) (tr_worth : Nat → Int32) (tr_foot : Nat → Int32) (tr_fork : Nat → Int32) (tr_settings : Nat → Int32) (no_apron : Int32) (no_basket : Int32) (no_ground : Int32) (no_bruised : Int32) (h_tr_fruits : 0 ≤ Int32.toInt tr_fruits ∧ Int32.toInt tr_fruits ≤ 16) (h_tr_standings : 0 ≤ Int32.toInt tr_standings ∧ Int32.toInt tr_standings ≤ 8) (hpost : ∀ (r : Int32) (ro_size' : Int32) (ro_numbers' : Nat → Int32), (0 ≤ Int32.toInt r ∧ Int32.toInt r ≤ 65535) → (1 ≤ Int32.toInt ro_size' ∧ Int32.toInt ro_size' ≤ 1) → post r ro_size' ro_numbers') : ∀ (n : Nat) (x1 : Int32) (x2 : Int32) (ro_size : Int32) (ro_numbers : Nat → Int32), (0 ≤ Int32.toInt x1 ∧ Int32.toInt x1 ≤ 65535) → (0 ≤ Int32.toInt x2 ∧ Int32.toInt x2 ≤ 8) → (0 ≤ Int32.toInt ro_size ∧ Int32.toInt ro_size ≤ 16) → (8 - Int32.toInt x2 < (n : Int)) → wb_X9_never_10 post tr_fruits tr_standings tr_x tr_height tr_worth tr_foot tr_fork tr_settings no_apron no_basket no_ground no_bruised n x1 x2 ro_size ro_numbers := by
  intro n
  induction n with
  | zero =>
    intro x1 x2 ro_size ro_numbers h_x1 h_x2 h_ro_size hm
    exfalso; omega
  | succ n ih =>
    intro x1 x2 ro_size ro_numbers h_x1 h_x2 h_ro_size hm
    exact ts_X9_never_10 tr_fruits tr_standings tr_x tr_height tr_worth tr_foot tr_fork tr_settings no_apron no_basket no_ground no_bruised h_tr_fruits h_tr_standings hpost ih x1 x2 ro_size ro_numbers h_x1 h_x2 h_ro_size (by omega)
set_option maxHeartbeats 8000000 in
set_option maxRecDepth 200000 in
theorem t_X9_never {post : Int32 → Int32 → (Nat → Int32) → Prop} {tr_fruits : Int32} {tr_standings : Int32} {tr_x : Nat → Int32} {tr_height : Nat → Int32} {tr_worth : Nat → Int32} {tr_foot : Nat → Int32} {tr_fork : Nat → Int32} {tr_settings : Nat → Int32} {no_apron : Int32} {no_basket : Int32} {no_ground : Int32} {no_bruised : Int32} {ro_size : Int32} {ro_numbers : Nat → Int32} (h_tr_fruits : 0 ≤ Int32.toInt tr_fruits ∧ Int32.toInt tr_fruits ≤ 16) (h_tr_standings : 0 ≤ Int32.toInt tr_standings ∧ Int32.toInt tr_standings ≤ 8) (h_ro_size : 0 ≤ Int32.toInt ro_size ∧ Int32.toInt ro_size ≤ 16) (hpost : ∀ (r : Int32) (ro_size' : Int32) (ro_numbers' : Nat → Int32), (0 ≤ Int32.toInt r ∧ Int32.toInt r ≤ 65535) → (1 ≤ Int32.toInt ro_size' ∧ Int32.toInt ro_size' ≤ 1) → post r ro_size' ro_numbers') : wp_X9_never post tr_fruits tr_standings tr_x tr_height tr_worth tr_foot tr_fork tr_settings no_apron no_basket no_ground no_bruised ro_size ro_numbers := by
  have l0 : Int32.toInt (0 : Int32) = 0 := (by decide)
  have l1 : Int32.toInt (1 : Int32) = 1 := (by decide)
  intro v15 ev15
  have f16 := ti_shl1 16 65536 tr_fruits (by decide) (by omega)
  have hv15 := congrArg Int32.toInt ev15
  intro v17 ev17
  intro v18 ev18
  have f20 : Int32.toInt (v15 - 1) = Int32.toInt v15 - Int32.toInt (1 : Int32) := ta_sub _ _ (by omega)
  have f21 := ti_andl (v15 - 1) (v18 ^^^ (-1)) (by omega)
  exact ⟨10, tb_X9_never_10 tr_fruits tr_standings tr_x tr_height tr_worth tr_foot tr_fork tr_settings no_apron no_basket no_ground no_bruised h_tr_fruits h_tr_standings hpost _ ((v15 - 1) &&& (v18 ^^^ (-1))) 0 ro_size ro_numbers (by omega) (by omega) (by omega) (by omega)⟩
set_option maxHeartbeats 8000000 in
set_option maxRecDepth 200000 in
theorem t_X9_seconds {post : Int32 → (Nat → Int32) → (Nat → Int32) → Prop} {p0 : Int32} {p1 : Int32} {p2 : Int32} {tr_fruits : Int32} {tr_standings : Int32} {tr_x : Nat → Int32} {tr_height : Nat → Int32} {tr_worth : Nat → Int32} {tr_foot : Nat → Int32} {tr_fork : Nat → Int32} {tr_settings : Nat → Int32} {no_bruised : Int32} {no_helper : Int32} {ru_length : Int32} {ru_given : Nat → Int32} {ru_stack : Nat → Int32} {ru_program : Nat → Int32} (h_tr_fruits : 0 ≤ Int32.toInt tr_fruits ∧ Int32.toInt tr_fruits ≤ 16) (h_tr_standings : 0 ≤ Int32.toInt tr_standings ∧ Int32.toInt tr_standings ≤ 8) (h_ru_length : 0 ≤ Int32.toInt ru_length ∧ Int32.toInt ru_length ≤ 40) (hpost : ∀ (r : Int32) (ru_given' : Nat → Int32) (ru_stack' : Nat → Int32), (-2 ≤ Int32.toInt r ∧ Int32.toInt r ≤ 99) → post r ru_given' ru_stack') : wp_X9_seconds post p0 p1 p2 tr_fruits tr_standings tr_x tr_height tr_worth tr_foot tr_fork tr_settings no_bruised no_helper ru_length ru_given ru_stack ru_program := by
  have l0 : Int32.toInt ((-1) : Int32) = -1 := (by decide)
  have l1 : Int32.toInt ((-2) : Int32) = -2 := (by decide)
  have l2 : Int32.toInt (0 : Int32) = 0 := (by decide)
  have l3 : Int32.toInt (1 : Int32) = 1 := (by decide)
  have l4 : Int32.toInt (2 : Int32) = 2 := (by decide)
  have f2 := tp_r p0
  refine And.intro (fun c1 => ?_) (fun c1 => ?_)
  · skip
    have c1 := (fa_lt _ _).mp c1
    refine And.intro (fun _ => ?_) (fun h9 => absurd h9 (by decide))
    exact hpost _ _ _ (by omega)
  · skip
    have c1 := mt (fa_lt _ _).mpr c1
    refine And.intro (fun c3 => ?_) (fun c3 => ?_)
    · skip
      have c3 := (fa_le _ _).mp c3
      refine And.intro (fun _ => ?_) (fun h9 => absurd h9 (by decide))
      exact hpost _ _ _ (by omega)
    · skip
      have c3 := mt (fa_le _ _).mpr c3
      refine And.intro (fun h9 => absurd h9 (by decide)) (fun _ => ?_)
      have f5 := tp_r p1
      refine And.intro (fun c4 => ?_) (fun c4 => ?_)
      · skip
        have c4 := (fa_lt _ _).mp c4
        refine And.intro (fun _ => ?_) (fun h9 => absurd h9 (by decide))
        exact hpost _ _ _ (by omega)
      · skip
        have c4 := mt (fa_lt _ _).mpr c4
        refine And.intro (fun c6 => ?_) (fun c6 => ?_)
        · skip
          have c6 := (fa_le _ _).mp c6
          refine And.intro (fun _ => ?_) (fun h9 => absurd h9 (by decide))
          exact hpost _ _ _ (by omega)
        · skip
          have c6 := mt (fa_le _ _).mpr c6
          refine And.intro (fun h9 => absurd h9 (by decide)) (fun _ => ?_)
          refine t_X9_isYesOrNo  (fun r7 h_r7 => ?_)
          refine And.intro (fun c8 => ?_) (fun c8 => ?_)
          · skip
            have c8 := mt (fa_eq _ _).mpr c8
            intro v9 ev9
            have hv9 := congrArg Int32.toInt ev9
            intro v11 ev11
            have hv11 := congrArg Int32.toInt ev11
            refine And.intro (t_in (by omega)) ?_
            intro v13 ev13
            have hv13 := congrArg Int32.toInt ev13
            refine And.intro (t_in (by omega)) ?_
            have f16 := tp_r v13
            refine And.intro (fun c15 => ?_) (fun c15 => ?_)
            · skip
              have c15 := (fa_le _ _).mp c15
              refine And.intro (t_in (by omega)) ?_
              intro v18 ev18
              have hv18 := congrArg Int32.toInt ev18
              refine And.intro (t_in (by omega)) ?_
              refine And.intro (t_in (by omega)) ?_
              intro v19 ev19
              have hv19 := congrArg Int32.toInt ev19
              refine And.intro (t_in (by omega)) ?_
              have f22 := tp_r v19
              refine And.intro (fun c21 => ?_) (fun c21 => ?_)
              · skip
                have c21 := (fa_le _ _).mp c21
                intro v24 ev24
                have hv24 := congrArg Int32.toInt ev24
                intro v26 ev26
                have f28 := tp_r v24
                have f29 : Int32.toInt (0 * 0) = Int32.toInt (0 : Int32) * 0 := ta_mulc _ _ (by decide) (by omega)
                have f27 : Int32.toInt (v24 + (0 * 0)) = Int32.toInt v24 + Int32.toInt (0 * 0) := ta_add _ _ (by omega)
                rw [← ev26] at f27
                have f31 := tp_r v26
                refine And.intro (fun c30 => ?_) (fun c30 => ?_)
                · skip
                  have c30 := (fa_lt _ _).mp c30
                  refine And.intro (fun h9 => absurd h9 (by decide)) (fun _ => ?_)
                  exact hpost _ _ _ (by omega)
                · skip
                  have c30 := mt (fa_lt _ _).mpr c30
                  refine And.intro (fun _ => ?_) (fun h9 => absurd h9 (by decide))
                  refine t_X0_pickSeconds (by omega) (by omega) (by omega) (by omega) (by omega) (fun r35 ru_given_33 ru_stack_34 h_r35 => ?_)
                  exact hpost _ _ _ (by omega)
              · skip
                have c21 := mt (fa_le _ _).mpr c21
                refine And.intro (t_in (by omega)) ?_
                intro v36 ev36
                have hv36 := congrArg Int32.toInt ev36
                refine And.intro (t_in (by omega)) ?_
                intro v37 ev37
                have hv37 := congrArg Int32.toInt ev37
                intro v39 ev39
                have hv39 := congrArg Int32.toInt ev39
                intro v41 ev41
                have hv41 := congrArg Int32.toInt ev41
                have f44 := tp_r v41
                refine And.intro (fun c43 => ?_) (fun c43 => ?_)
                · skip
                  have c43 := (fa_lt _ _).mp c43
                  refine And.intro (fun h9 => absurd h9 (by decide)) (fun _ => ?_)
                  exact hpost _ _ _ (by omega)
                · skip
                  have c43 := mt (fa_lt _ _).mpr c43
                  refine And.intro (fun _ => ?_) (fun h9 => absurd h9 (by decide))
                  refine t_X0_pickSeconds (by omega) (by omega) (by omega) (by omega) (by omega) (fun r48 ru_given_46 ru_stack_47 h_r48 => ?_)
                  exact hpost _ _ _ (by omega)
            · skip
              have c15 := mt (fa_le _ _).mpr c15
              refine And.intro (t_in (by omega)) ?_
              intro v49 ev49
              have hv49 := congrArg Int32.toInt ev49
              refine And.intro (t_in (by omega)) ?_
              intro v50 ev50
              have hv50 := congrArg Int32.toInt ev50
              refine And.intro (t_in (by omega)) ?_
              intro v52 ev52
              have hv52 := congrArg Int32.toInt ev52
              refine And.intro (t_in (by omega)) ?_
              have f55 := tp_r v52
              refine And.intro (fun c54 => ?_) (fun c54 => ?_)
              · skip
                have c54 := (fa_le _ _).mp c54
                intro v57 ev57
                have hv57 := congrArg Int32.toInt ev57
                intro v59 ev59
                have f61 := tp_r v57
                have f62 : Int32.toInt (0 * 0) = Int32.toInt (0 : Int32) * 0 := ta_mulc _ _ (by decide) (by omega)
                have f60 : Int32.toInt (v57 + (0 * 0)) = Int32.toInt v57 + Int32.toInt (0 * 0) := ta_add _ _ (by omega)
                rw [← ev59] at f60
                have f64 := tp_r v59
                refine And.intro (fun c63 => ?_) (fun c63 => ?_)
                · skip
                  have c63 := (fa_lt _ _).mp c63
                  refine And.intro (fun h9 => absurd h9 (by decide)) (fun _ => ?_)
                  exact hpost _ _ _ (by omega)
                · skip
                  have c63 := mt (fa_lt _ _).mpr c63
                  refine And.intro (fun _ => ?_) (fun h9 => absurd h9 (by decide))
                  refine t_X0_pickSeconds (by omega) (by omega) (by omega) (by omega) (by omega) (fun r68 ru_given_66 ru_stack_67 h_r68 => ?_)
                  exact hpost _ _ _ (by omega)
              · skip
                have c54 := mt (fa_le _ _).mpr c54
                refine And.intro (t_in (by omega)) ?_
                intro v69 ev69
                have hv69 := congrArg Int32.toInt ev69
                refine And.intro (t_in (by omega)) ?_
                intro v70 ev70
                have hv70 := congrArg Int32.toInt ev70
                intro v72 ev72
                have hv72 := congrArg Int32.toInt ev72
                intro v74 ev74
                have hv74 := congrArg Int32.toInt ev74
                have f77 := tp_r v74
                refine And.intro (fun c76 => ?_) (fun c76 => ?_)
                · skip
                  have c76 := (fa_lt _ _).mp c76
                  refine And.intro (fun h9 => absurd h9 (by decide)) (fun _ => ?_)
                  exact hpost _ _ _ (by omega)
                · skip
                  have c76 := mt (fa_lt _ _).mpr c76
                  refine And.intro (fun _ => ?_) (fun h9 => absurd h9 (by decide))
                  refine t_X0_pickSeconds (by omega) (by omega) (by omega) (by omega) (by omega) (fun r81 ru_given_79 ru_stack_80 h_r81 => ?_)
                  exact hpost _ _ _ (by omega)
          · skip
            have c8 := (fa_eq _ _).mp c8
            exact hpost _ _ _ (by omega)
set_option maxHeartbeats 8000000 in
set_option maxRecDepth 200000 in
theorem ts_X5_reachedBy_32 {post : Int32 → Prop} {K4 : Int32 → Int32 → Int32 → Prop} {n4 : Int} (pl_near : Nat → Int32) (tr_standings : Int32) (h_pl_near : ∀ k : Nat, 0 ≤ Int32.toInt (pl_near k) ∧ Int32.toInt (pl_near k) ≤ 65535) (h_tr_standings : 0 ≤ Int32.toInt tr_standings ∧ Int32.toInt tr_standings ≤ 8) (hpost : ∀ (r : Int32) , (0 ≤ Int32.toInt r ∧ Int32.toInt r ≤ 65535) → post r) (hK4 : ∀ (x1 : Int32) (x2 : Int32) (x3 : Int32), (0 ≤ Int32.toInt x1 ∧ Int32.toInt x1 ≤ 255) → (0 ≤ Int32.toInt x2 ∧ Int32.toInt x2 ≤ 65535) → (0 ≤ Int32.toInt x3 ∧ Int32.toInt x3 ≤ 8) → (8 - Int32.toInt x3 < n4) → K4 x1 x2 x3) (x1 : Int32) (x2 : Int32) (x3 : Int32) (h_x1 : 0 ≤ Int32.toInt x1 ∧ Int32.toInt x1 ≤ 255) (h_x2 : 0 ≤ Int32.toInt x2 ∧ Int32.toInt x2 ≤ 65535) (h_x3 : 0 ≤ Int32.toInt x3 ∧ Int32.toInt x3 ≤ 7) (hn4 : 8 - Int32.toInt x3 ≤ n4) : ws_X5_reachedBy_32 post K4 pl_near tr_standings x1 x2 x3 := by
  have l0 : Int32.toInt (1 : Int32) = 1 := (by decide)
  intro v1 ev1
  have f2 : Int32.toInt (x3 + 1) = Int32.toInt x3 + Int32.toInt (1 : Int32) := ta_add _ _ (by omega)
  rw [← ev1] at f2
  exact hK4 x1 x2 v1 (by omega) (by omega) (by omega) (by omega)
set_option maxHeartbeats 8000000 in
set_option maxRecDepth 200000 in
theorem ts_X5_reachedBy_4 {post : Int32 → Prop} {next : Int32 → Int32 → Int32 → Prop} {n4 : Int} (pl_near : Nat → Int32) (tr_standings : Int32) (h_pl_near : ∀ k : Nat, 0 ≤ Int32.toInt (pl_near k) ∧ Int32.toInt (pl_near k) ≤ 65535) (h_tr_standings : 0 ≤ Int32.toInt tr_standings ∧ Int32.toInt tr_standings ≤ 8) (hpost : ∀ (r : Int32) , (0 ≤ Int32.toInt r ∧ Int32.toInt r ≤ 65535) → post r) (hKn : ∀ (x1 : Int32) (x2 : Int32) (x3 : Int32), (0 ≤ Int32.toInt x1 ∧ Int32.toInt x1 ≤ 255) → (0 ≤ Int32.toInt x2 ∧ Int32.toInt x2 ≤ 65535) → (0 ≤ Int32.toInt x3 ∧ Int32.toInt x3 ≤ 8) → (8 - Int32.toInt x3 < n4) → next x1 x2 x3) (x1 : Int32) (x2 : Int32) (x3 : Int32) (h_x1 : 0 ≤ Int32.toInt x1 ∧ Int32.toInt x1 ≤ 255) (h_x2 : 0 ≤ Int32.toInt x2 ∧ Int32.toInt x2 ≤ 65535) (h_x3 : 0 ≤ Int32.toInt x3 ∧ Int32.toInt x3 ≤ 8) (hn4 : 8 - Int32.toInt x3 ≤ n4) : ws_X5_reachedBy_4 post next pl_near tr_standings x1 x2 x3 := by
  have l0 : Int32.toInt (0 : Int32) = 0 := (by decide)
  have l1 : Int32.toInt (1 : Int32) = 1 := (by decide)
  refine And.intro (fun c3 => ?_) (fun c3 => ?_)
  · skip
    have c3 := (fa_le _ _).mp c3
    exact hpost _ (by omega)
  · skip
    have c3 := mt (fa_le _ _).mpr c3
    intro v4 ev4
    have f5 := ti_shr x1 x3 (by omega)
    have hv4 := congrArg Int32.toInt ev4
    have f7 := ti_andr v4 1 (by omega)
    have f8 := ti_andl v4 1 (by omega)
    refine And.intro (fun c6 => ?_) (fun c6 => ?_)
    · skip
      have c6 := (fa_eq _ _).mp c6
      exact ts_X5_reachedBy_32 pl_near tr_standings h_pl_near h_tr_standings hpost hKn x1 x2 x3 (by omega) (by omega) (by omega) (by omega)
    · skip
      have c6 := mt (fa_eq _ _).mpr c6
      refine And.intro (t_in (by omega)) ?_
      intro v9 ev9
      have f11 := h_pl_near x3.toNatClampNeg
      have f10 := ti_or 16 65536 x2 (pl_near x3.toNatClampNeg) (by decide) (by omega) (by omega)
      have hv9 := congrArg Int32.toInt ev9
      exact ts_X5_reachedBy_32 pl_near tr_standings h_pl_near h_tr_standings hpost hKn x1 v9 x3 (by omega) (by omega) (by omega) (by omega)
set_option maxHeartbeats 8000000 in
set_option maxRecDepth 200000 in
theorem tb_X5_reachedBy_4 {post : Int32 → Prop} (pl_near : Nat → Int32) (tr_standings : Int32) (h_pl_near : ∀ k : Nat, 0 ≤ Int32.toInt (pl_near k) ∧ Int32.toInt (pl_near k) ≤ 65535) (h_tr_standings : 0 ≤ Int32.toInt tr_standings ∧ Int32.toInt tr_standings ≤ 8) (hpost : ∀ (r : Int32) , (0 ≤ Int32.toInt r ∧ Int32.toInt r ≤ 65535) → post r) : ∀ (n : Nat) (x1 : Int32) (x2 : Int32) (x3 : Int32), (0 ≤ Int32.toInt x1 ∧ Int32.toInt x1 ≤ 255) → (0 ≤ Int32.toInt x2 ∧ Int32.toInt x2 ≤ 65535) → (0 ≤ Int32.toInt x3 ∧ Int32.toInt x3 ≤ 8) → (8 - Int32.toInt x3 < (n : Int)) → wb_X5_reachedBy_4 post pl_near tr_standings n x1 x2 x3 := by
  intro n
  induction n with
  | zero =>
    intro x1 x2 x3 h_x1 h_x2 h_x3 hm
    exfalso; omega
  | succ n ih =>
    intro x1 x2 x3 h_x1 h_x2 h_x3 hm
    exact ts_X5_reachedBy_4 pl_near tr_standings h_pl_near h_tr_standings hpost ih x1 x2 x3 h_x1 h_x2 h_x3 (by omega)
set_option maxHeartbeats 8000000 in
set_option maxRecDepth 200000 in
theorem t_X5_reachedBy {post : Int32 → Prop} {p0 : Int32} {pl_near : Nat → Int32} {tr_standings : Int32} (h_p0 : 0 ≤ Int32.toInt p0 ∧ Int32.toInt p0 ≤ 255) (h_pl_near : ∀ k : Nat, 0 ≤ Int32.toInt (pl_near k) ∧ Int32.toInt (pl_near k) ≤ 65535) (h_tr_standings : 0 ≤ Int32.toInt tr_standings ∧ Int32.toInt tr_standings ≤ 8) (hpost : ∀ (r : Int32) , (0 ≤ Int32.toInt r ∧ Int32.toInt r ≤ 65535) → post r) : wp_X5_reachedBy post p0 pl_near tr_standings := by
  have l0 : Int32.toInt (0 : Int32) = 0 := (by decide)
  exact ⟨10, tb_X5_reachedBy_4 pl_near tr_standings h_pl_near h_tr_standings hpost _ p0 0 0 (by omega) (by omega) (by omega) (by omega)⟩
set_option maxHeartbeats 8000000 in
set_option maxRecDepth 200000 in
theorem ts_X5_lookAs_13 {post : Int32 → (Nat → Int32) → Prop} {next : Int32 → Int32 → Int32 → Int32 → (Nat → Int32) → Prop} {n13 : Int} (tr_fruits : Int32) (tr_standings : Int32) (tr_x : Nat → Int32) (tr_height : Nat → Int32) (tr_ripe : Nat → Int32) (tr_foot : Nat → Int32) (tr_fork : Nat → Int32) (tr_settings : Nat → Int32) (no_apron : Int32) (no_basket : Int32) (no_ground : Int32) (h_tr_fruits : 0 ≤ Int32.toInt tr_fruits ∧ Int32.toInt tr_fruits ≤ 16) (h_tr_standings : 0 ≤ Int32.toInt tr_standings ∧ Int32.toInt tr_standings ≤ 8) (hpost : ∀ (pl_wanted' : Int32) (pl_near' : Nat → Int32), (0 ≤ Int32.toInt pl_wanted' ∧ Int32.toInt pl_wanted' ≤ 65535) → (∀ k : Nat, 0 ≤ Int32.toInt (pl_near' k) ∧ Int32.toInt (pl_near' k) ≤ 65535) → post pl_wanted' pl_near') (hKn : ∀ (x2 : Int32) (x3 : Int32) (x4 : Int32) (pl_wanted : Int32) (pl_near : Nat → Int32), (0 ≤ Int32.toInt x2 ∧ Int32.toInt x2 ≤ 9) → (0 ≤ Int32.toInt x4 ∧ Int32.toInt x4 ≤ 8) → (0 ≤ Int32.toInt pl_wanted ∧ Int32.toInt pl_wanted ≤ 65535) → (∀ k : Nat, 0 ≤ Int32.toInt (pl_near k) ∧ Int32.toInt (pl_near k) ≤ 65535) → (8 - Int32.toInt x4 < n13) → next x2 x3 x4 pl_wanted pl_near) (x2 : Int32) (x3 : Int32) (x4 : Int32) (pl_wanted : Int32) (pl_near : Nat → Int32) (h_x2 : 0 ≤ Int32.toInt x2 ∧ Int32.toInt x2 ≤ 9) (h_x4 : 0 ≤ Int32.toInt x4 ∧ Int32.toInt x4 ≤ 8) (h_pl_wanted : 0 ≤ Int32.toInt pl_wanted ∧ Int32.toInt pl_wanted ≤ 65535) (h_pl_near : ∀ k : Nat, 0 ≤ Int32.toInt (pl_near k) ∧ Int32.toInt (pl_near k) ≤ 65535) (hn13 : 8 - Int32.toInt x4 ≤ n13) : ws_X5_lookAs_13 post next tr_fruits tr_standings tr_x tr_height tr_ripe tr_foot tr_fork tr_settings no_apron no_basket no_ground x2 x3 x4 pl_wanted pl_near := by
  have l0 : Int32.toInt (1 : Int32) = 1 := (by decide)
  refine And.intro (fun c1 => ?_) (fun c1 => ?_)
  · skip
    have c1 := (fa_le _ _).mp c1
    intro v2 ev2
    have f3 := ti_shl1 16 65536 tr_fruits (by decide) (by omega)
    have hv2 := congrArg Int32.toInt ev2
    intro v4 ev4
    intro v5 ev5
    refine t_X3_ripeBy (by omega) (by omega) (fun r6 h_r6 => ?_)
    intro v7 ev7
    have f8 := ti_andr ((v2 - 1) &&& (v5 ^^^ (-1))) r6 (by omega)
    have f10 : Int32.toInt (v2 - 1) = Int32.toInt v2 - Int32.toInt (1 : Int32) := ta_sub _ _ (by omega)
    have f11 := ti_andl (v2 - 1) (v5 ^^^ (-1)) (by omega)
    have f12 := ti_andl ((v2 - 1) &&& (v5 ^^^ (-1))) r6 (by omega)
    have hv7 := congrArg Int32.toInt ev7
    intro v13 ev13
    have f14 := ti_shl1 8 256 tr_standings (by decide) (by omega)
    have hv13 := congrArg Int32.toInt ev13
    have f16 : Int32.toInt (v13 - 1) = Int32.toInt v13 - Int32.toInt (1 : Int32) := ta_sub _ _ (by omega)
    refine t_X5_reachedBy (by omega) (fun k => by have q9 := h_pl_near k; omega) (by omega) (fun r15 h_r15 => ?_)
    intro v17 ev17
    have f18 := ti_andr v7 r15 (by omega)
    have f19 := ti_andl v7 r15 (by omega)
    have hv17 := congrArg Int32.toInt ev17
    exact hpost _ _ (by omega) (fun k => by have q9 := h_pl_near k; omega)
  · skip
    have c1 := mt (fa_le _ _).mpr c1
    refine t_X3_within (by omega) (by omega) (fun r20 h_r20 => ?_)
    refine And.intro (t_in (by omega)) ?_
    have a21 : ∀ k : Nat, 0 ≤ Int32.toInt ((upd pl_near x4.toNatClampNeg r20) k) ∧ Int32.toInt ((upd pl_near x4.toNatClampNeg r20) k) ≤ 65535 := t_upd (fun k => by have q9 := h_pl_near k; omega) (by omega)
    intro v22 ev22
    have f23 : Int32.toInt (x4 + 1) = Int32.toInt x4 + Int32.toInt (1 : Int32) := ta_add _ _ (by omega)
    rw [← ev22] at f23
    have f24 := tp_r x3
    exact hKn x2 x3 v22 pl_wanted (upd pl_near x4.toNatClampNeg r20) (by omega) (by omega) (by omega) (fun k => by have q9 := a21 k; omega) (by omega)
set_option maxHeartbeats 8000000 in
set_option maxRecDepth 200000 in
theorem tb_X5_lookAs_13 {post : Int32 → (Nat → Int32) → Prop} (tr_fruits : Int32) (tr_standings : Int32) (tr_x : Nat → Int32) (tr_height : Nat → Int32) (tr_ripe : Nat → Int32) (tr_foot : Nat → Int32) (tr_fork : Nat → Int32) (tr_settings : Nat → Int32) (no_apron : Int32) (no_basket : Int32) (no_ground : Int32) (h_tr_fruits : 0 ≤ Int32.toInt tr_fruits ∧ Int32.toInt tr_fruits ≤ 16) (h_tr_standings : 0 ≤ Int32.toInt tr_standings ∧ Int32.toInt tr_standings ≤ 8) (hpost : ∀ (pl_wanted' : Int32) (pl_near' : Nat → Int32), (0 ≤ Int32.toInt pl_wanted' ∧ Int32.toInt pl_wanted' ≤ 65535) → (∀ k : Nat, 0 ≤ Int32.toInt (pl_near' k) ∧ Int32.toInt (pl_near' k) ≤ 65535) → post pl_wanted' pl_near') : ∀ (n : Nat) (x2 : Int32) (x3 : Int32) (x4 : Int32) (pl_wanted : Int32) (pl_near : Nat → Int32), (0 ≤ Int32.toInt x2 ∧ Int32.toInt x2 ≤ 9) → (0 ≤ Int32.toInt x4 ∧ Int32.toInt x4 ≤ 8) → (0 ≤ Int32.toInt pl_wanted ∧ Int32.toInt pl_wanted ≤ 65535) → (∀ k : Nat, 0 ≤ Int32.toInt (pl_near k) ∧ Int32.toInt (pl_near k) ≤ 65535) → (8 - Int32.toInt x4 < (n : Int)) → wb_X5_lookAs_13 post tr_fruits tr_standings tr_x tr_height tr_ripe tr_foot tr_fork tr_settings no_apron no_basket no_ground n x2 x3 x4 pl_wanted pl_near := by
  intro n
  induction n with
  | zero =>
    intro x2 x3 x4 pl_wanted pl_near h_x2 h_x4 h_pl_wanted h_pl_near hm
    exfalso; omega
  | succ n ih =>
    intro x2 x3 x4 pl_wanted pl_near h_x2 h_x4 h_pl_wanted h_pl_near hm
    exact ts_X5_lookAs_13 tr_fruits tr_standings tr_x tr_height tr_ripe tr_foot tr_fork tr_settings no_apron no_basket no_ground h_tr_fruits h_tr_standings hpost ih x2 x3 x4 pl_wanted pl_near h_x2 h_x4 h_pl_wanted h_pl_near (by omega)
set_option maxHeartbeats 8000000 in
set_option maxRecDepth 200000 in
theorem t_X5_lookAs {post : Int32 → (Nat → Int32) → Prop} {p0 : Int32} {p1 : Int32} {pl_wanted : Int32} {pl_near : Nat → Int32} {tr_fruits : Int32} {tr_standings : Int32} {tr_x : Nat → Int32} {tr_height : Nat → Int32} {tr_ripe : Nat → Int32} {tr_foot : Nat → Int32} {tr_fork : Nat → Int32} {tr_settings : Nat → Int32} {no_apron : Int32} {no_basket : Int32} {no_ground : Int32} (h_p1 : 0 ≤ Int32.toInt p1 ∧ Int32.toInt p1 ≤ 9) (h_pl_wanted : 0 ≤ Int32.toInt pl_wanted ∧ Int32.toInt pl_wanted ≤ 65535) (h_pl_near : ∀ k : Nat, 0 ≤ Int32.toInt (pl_near k) ∧ Int32.toInt (pl_near k) ≤ 65535) (h_tr_fruits : 0 ≤ Int32.toInt tr_fruits ∧ Int32.toInt tr_fruits ≤ 16) (h_tr_standings : 0 ≤ Int32.toInt tr_standings ∧ Int32.toInt tr_standings ≤ 8) (hpost : ∀ (pl_wanted' : Int32) (pl_near' : Nat → Int32), (0 ≤ Int32.toInt pl_wanted' ∧ Int32.toInt pl_wanted' ≤ 65535) → (∀ k : Nat, 0 ≤ Int32.toInt (pl_near' k) ∧ Int32.toInt (pl_near' k) ≤ 65535) → post pl_wanted' pl_near') : wp_X5_lookAs post p0 p1 pl_wanted pl_near tr_fruits tr_standings tr_x tr_height tr_ripe tr_foot tr_fork tr_settings no_apron no_basket no_ground := by
  have l0 : Int32.toInt (0 : Int32) = 0 := (by decide)
  have l1 : Int32.toInt (1 : Int32) = 1 := (by decide)
  have l2 : Int32.toInt (2 : Int32) = 2 := (by decide)
  intro v25 ev25
  have hv25 := congrArg Int32.toInt ev25
  intro v27 ev27
  have hv27 := congrArg Int32.toInt ev27
  have f30 := tp_r v27
  have f31 : Int32.toInt (0 * (tr_settings (2 : Int32).toNatClampNeg)) = Int32.toInt (tr_settings (2 : Int32).toNatClampNeg) * 0 := ta_cmul _ _ (by decide) (by omega)
  have f29 : Int32.toInt (v27 + (0 * (tr_settings (2 : Int32).toNatClampNeg))) = Int32.toInt v27 + Int32.toInt (0 * (tr_settings (2 : Int32).toNatClampNeg)) := ta_add _ _ (by omega)
  exact ⟨10, tb_X5_lookAs_13 tr_fruits tr_standings tr_x tr_height tr_ripe tr_foot tr_fork tr_settings no_apron no_basket no_ground h_tr_fruits h_tr_standings hpost _ p1 (v27 + (0 * (tr_settings (2 : Int32).toNatClampNeg))) 0 pl_wanted pl_near (by omega) (by omega) (by omega) (fun k => by have q9 := h_pl_near k; omega) (by omega)⟩
set_option maxHeartbeats 8000000 in
set_option maxRecDepth 200000 in
theorem t_X9_both {post : Int32 → Int32 → (Nat → Int32) → Int32 → (Nat → Int32) → Prop} {p0 : Int32} {p1 : Int32} {pl_wanted : Int32} {pl_near : Nat → Int32} {tr_fruits : Int32} {tr_standings : Int32} {tr_x : Nat → Int32} {tr_height : Nat → Int32} {tr_ripe : Nat → Int32} {tr_foot : Nat → Int32} {tr_fork : Nat → Int32} {tr_settings : Nat → Int32} {no_apron : Int32} {no_basket : Int32} {no_ground : Int32} {no_helper : Int32} {no_today : Int32} {ro_size : Int32} {ro_numbers : Nat → Int32} (h_pl_wanted : 0 ≤ Int32.toInt pl_wanted ∧ Int32.toInt pl_wanted ≤ 65535) (h_pl_near : ∀ k : Nat, 0 ≤ Int32.toInt (pl_near k) ∧ Int32.toInt (pl_near k) ≤ 65535) (h_tr_fruits : 0 ≤ Int32.toInt tr_fruits ∧ Int32.toInt tr_fruits ≤ 16) (h_tr_standings : 0 ≤ Int32.toInt tr_standings ∧ Int32.toInt tr_standings ≤ 8) (h_no_today : 0 ≤ Int32.toInt no_today ∧ Int32.toInt no_today ≤ 9) (h_ro_size : 0 ≤ Int32.toInt ro_size ∧ Int32.toInt ro_size ≤ 16) (hpost : ∀ (r : Int32) (pl_wanted' : Int32) (pl_near' : Nat → Int32) (ro_size' : Int32) (ro_numbers' : Nat → Int32), (-1 ≤ Int32.toInt r ∧ Int32.toInt r ≤ 65535) → (0 ≤ Int32.toInt pl_wanted' ∧ Int32.toInt pl_wanted' ≤ 65535) → (∀ k : Nat, 0 ≤ Int32.toInt (pl_near' k) ∧ Int32.toInt (pl_near' k) ≤ 65535) → (0 ≤ Int32.toInt ro_size' ∧ Int32.toInt ro_size' ≤ 16) → post r pl_wanted' pl_near' ro_size' ro_numbers') : wp_X9_both post p0 p1 pl_wanted pl_near tr_fruits tr_standings tr_x tr_height tr_ripe tr_foot tr_fork tr_settings no_apron no_basket no_ground no_helper no_today ro_size ro_numbers := by
  have l0 : Int32.toInt ((-1) : Int32) = -1 := (by decide)
  have l1 : Int32.toInt (0 : Int32) = 0 := (by decide)
  have l2 : Int32.toInt (1 : Int32) = 1 := (by decide)
  have l3 : Int32.toInt (16 : Int32) = 16 := (by decide)
  have f2 := tp_r p0
  refine And.intro (fun c1 => ?_) (fun c1 => ?_)
  · skip
    have c1 := (fa_lt _ _).mp c1
    refine And.intro (fun _ => ?_) (fun h9 => absurd h9 (by decide))
    exact hpost _ _ _ _ _ (by omega) (by omega) (fun k => by have q9 := h_pl_near k; omega) (by omega)
  · skip
    have c1 := mt (fa_lt _ _).mpr c1
    refine And.intro (fun c3 => ?_) (fun c3 => ?_)
    · skip
      have c3 := (fa_le _ _).mp c3
      refine And.intro (fun _ => ?_) (fun h9 => absurd h9 (by decide))
      exact hpost _ _ _ _ _ (by omega) (by omega) (fun k => by have q9 := h_pl_near k; omega) (by omega)
    · skip
      have c3 := mt (fa_le _ _).mpr c3
      refine And.intro (fun h9 => absurd h9 (by decide)) (fun _ => ?_)
      have f5 := tp_r p1
      refine And.intro (fun c4 => ?_) (fun c4 => ?_)
      · skip
        have c4 := (fa_lt _ _).mp c4
        refine And.intro (fun _ => ?_) (fun h9 => absurd h9 (by decide))
        exact hpost _ _ _ _ _ (by omega) (by omega) (fun k => by have q9 := h_pl_near k; omega) (by omega)
      · skip
        have c4 := mt (fa_lt _ _).mpr c4
        refine And.intro (fun c6 => ?_) (fun c6 => ?_)
        · skip
          have c6 := (fa_le _ _).mp c6
          refine And.intro (fun _ => ?_) (fun h9 => absurd h9 (by decide))
          exact hpost _ _ _ _ _ (by omega) (by omega) (fun k => by have q9 := h_pl_near k; omega) (by omega)
        · skip
          have c6 := mt (fa_le _ _).mpr c6
          refine And.intro (fun h9 => absurd h9 (by decide)) (fun _ => ?_)
          refine And.intro (fun c7 => ?_) (fun c7 => ?_)
          · skip
            have c7 := mt (fa_eq _ _).mpr c7
            refine t_X5_lookAs (by omega) (by omega) (fun k => by have q9 := h_pl_near k; omega) (by omega) (by omega) (fun pl_wanted_8 pl_near_9 h_pl_wanted_8 h_pl_near_9 => ?_)
            refine And.intro (t_in (by omega)) ?_
            refine And.intro (t_in (by omega)) ?_
            intro v10 ev10
            have f13 := h_pl_near_9 p0.toNatClampNeg
            have f12 := ti_andr pl_wanted_8 (pl_near_9 p0.toNatClampNeg) (by omega)
            have f14 := ti_andl pl_wanted_8 (pl_near_9 p0.toNatClampNeg) (by omega)
            have f15 := ti_andl (pl_wanted_8 &&& (pl_near_9 p0.toNatClampNeg)) ((pl_wanted_8 &&& (pl_near_9 p1.toNatClampNeg)) ^^^ (-1)) (by omega)
            have hv10 := congrArg Int32.toInt ev10
            intro v16 ev16
            have f19 := h_pl_near_9 p1.toNatClampNeg
            have f18 := ti_andr pl_wanted_8 (pl_near_9 p1.toNatClampNeg) (by omega)
            have f20 := ti_andl pl_wanted_8 (pl_near_9 p1.toNatClampNeg) (by omega)
            have f21 := ti_andl (pl_wanted_8 &&& (pl_near_9 p1.toNatClampNeg)) ((pl_wanted_8 &&& (pl_near_9 p0.toNatClampNeg)) ^^^ (-1)) (by omega)
            have hv16 := congrArg Int32.toInt ev16
            refine And.intro (fun h9 => absurd h9 (by decide)) (fun _ => ?_)
            refine And.intro (t_in (by omega)) ?_
            intro v22 ev22
            have f23 : Int32.toInt (0 + 1) = Int32.toInt (0 : Int32) + Int32.toInt (1 : Int32) := ta_add _ _ (by omega)
            rw [← ev22] at f23
            refine And.intro (fun c24 => ?_) (fun c24 => ?_)
            · skip
              have c24 := (fa_le _ _).mp c24
              exfalso; omega
            · skip
              have c24 := mt (fa_le _ _).mpr c24
              refine And.intro (t_in (by omega)) ?_
              intro v25 ev25
              have f26 : Int32.toInt (v22 + 1) = Int32.toInt v22 + Int32.toInt (1 : Int32) := ta_add _ _ (by omega)
              rw [← ev25] at f26
              have f27 := ti_andr (pl_wanted_8 &&& (pl_near_9 p0.toNatClampNeg)) (pl_wanted_8 &&& (pl_near_9 p1.toNatClampNeg)) (by omega)
              have f28 := ti_andl (pl_wanted_8 &&& (pl_near_9 p0.toNatClampNeg)) (pl_wanted_8 &&& (pl_near_9 p1.toNatClampNeg)) (by omega)
              exact hpost _ _ _ _ _ (by omega) (by omega) (fun k => by have q9 := h_pl_near_9 k; omega) (by omega)
          · skip
            have c7 := (fa_eq _ _).mp c7
            exact hpost _ _ _ _ _ (by omega) (by omega) (fun k => by have q9 := h_pl_near k; omega) (by omega)
set_option maxHeartbeats 8000000 in
set_option maxRecDepth 200000 in
theorem ts_X3_leanNeeded_2 {post : Int32 → Prop} {next : Int32 → Int32 → Int32 → Prop} {n2 : Int} (tr_x : Nat → Int32) (tr_height : Nat → Int32) (tr_foot : Nat → Int32) (tr_fork : Nat → Int32) (tr_settings : Nat → Int32) (hpost : ∀ (r : Int32) , (-2 ≤ Int32.toInt r ∧ Int32.toInt r ≤ 30) → post r) (hKn : ∀ (x1 : Int32) (x2 : Int32) (x3 : Int32), (0 ≤ Int32.toInt x1 ∧ Int32.toInt x1 ≤ 15) → (0 ≤ Int32.toInt x2 ∧ Int32.toInt x2 ≤ 7) → (0 ≤ Int32.toInt x3 ∧ Int32.toInt x3 ≤ 31) → (31 - Int32.toInt x3 < n2) → next x1 x2 x3) (x1 : Int32) (x2 : Int32) (x3 : Int32) (h_x1 : 0 ≤ Int32.toInt x1 ∧ Int32.toInt x1 ≤ 15) (h_x2 : 0 ≤ Int32.toInt x2 ∧ Int32.toInt x2 ≤ 7) (h_x3 : 0 ≤ Int32.toInt x3 ∧ Int32.toInt x3 ≤ 31) (hn2 : 31 - Int32.toInt x3 ≤ n2) : ws_X3_leanNeeded_2 post next tr_x tr_height tr_foot tr_fork tr_settings x1 x2 x3 := by
  have l0 : Int32.toInt ((-2) : Int32) = -2 := (by decide)
  have l1 : Int32.toInt (0 : Int32) = 0 := (by decide)
  have l2 : Int32.toInt (1 : Int32) = 1 := (by decide)
  have l3 : Int32.toInt (30 : Int32) = 30 := (by decide)
  refine And.intro (fun c1 => ?_) (fun c1 => ?_)
  · skip
    have c1 := (fa_lt _ _).mp c1
    exact hpost _ (by omega)
  · skip
    have c1 := mt (fa_lt _ _).mpr c1
    intro v2 ev2
    have hv2 := congrArg Int32.toInt ev2
    intro v4 ev4
    have hv4 := congrArg Int32.toInt ev4
    refine And.intro (t_in (by omega)) ?_
    intro v6 ev6
    have hv6 := congrArg Int32.toInt ev6
    refine And.intro (t_in (by omega)) ?_
    have f9 := tp_r v6
    refine And.intro (fun c8 => ?_) (fun c8 => ?_)
    · skip
      have c8 := (fa_le _ _).mp c8
      refine And.intro (t_in (by omega)) ?_
      intro v11 ev11
      have hv11 := congrArg Int32.toInt ev11
      refine And.intro (t_in (by omega)) ?_
      refine And.intro (t_in (by omega)) ?_
      intro v12 ev12
      have hv12 := congrArg Int32.toInt ev12
      refine And.intro (t_in (by omega)) ?_
      have f15 := tp_r v12
      refine And.intro (fun c14 => ?_) (fun c14 => ?_)
      · skip
        have c14 := (fa_le _ _).mp c14
        intro v17 ev17
        have hv17 := congrArg Int32.toInt ev17
        intro v19 ev19
        have f21 := tp_r v17
        have f22 : Int32.toInt (0 * 0) = Int32.toInt (0 : Int32) * 0 := ta_mulc _ _ (by decide) (by omega)
        have f20 : Int32.toInt (v17 + (0 * 0)) = Int32.toInt v17 + Int32.toInt (0 * 0) := ta_add _ _ (by omega)
        rw [← ev19] at f20
        have f24 := tp_r v19
        refine And.intro (fun c23 => ?_) (fun c23 => ?_)
        · skip
          have c23 := (fa_lt _ _).mp c23
          refine And.intro (fun _ => ?_) (fun h9 => absurd h9 (by decide))
          intro v26 ev26
          have f27 : Int32.toInt (x3 + 1) = Int32.toInt x3 + Int32.toInt (1 : Int32) := ta_add _ _ (by omega)
          rw [← ev26] at f27
          exact hKn x1 x2 v26 (by omega) (by omega) (by omega) (by omega)
        · skip
          have c23 := mt (fa_lt _ _).mpr c23
          refine And.intro (fun h9 => absurd h9 (by decide)) (fun _ => ?_)
          exact hpost _ (by omega)
      · skip
        have c14 := mt (fa_le _ _).mpr c14
        refine And.intro (t_in (by omega)) ?_
        intro v28 ev28
        have hv28 := congrArg Int32.toInt ev28
        refine And.intro (t_in (by omega)) ?_
        intro v29 ev29
        have hv29 := congrArg Int32.toInt ev29
        intro v31 ev31
        have hv31 := congrArg Int32.toInt ev31
        intro v33 ev33
        have hv33 := congrArg Int32.toInt ev33
        have f36 := tp_r v33
        refine And.intro (fun c35 => ?_) (fun c35 => ?_)
        · skip
          have c35 := (fa_lt _ _).mp c35
          refine And.intro (fun _ => ?_) (fun h9 => absurd h9 (by decide))
          intro v38 ev38
          have f39 : Int32.toInt (x3 + 1) = Int32.toInt x3 + Int32.toInt (1 : Int32) := ta_add _ _ (by omega)
          rw [← ev38] at f39
          exact hKn x1 x2 v38 (by omega) (by omega) (by omega) (by omega)
        · skip
          have c35 := mt (fa_lt _ _).mpr c35
          refine And.intro (fun h9 => absurd h9 (by decide)) (fun _ => ?_)
          exact hpost _ (by omega)
    · skip
      have c8 := mt (fa_le _ _).mpr c8
      refine And.intro (t_in (by omega)) ?_
      intro v40 ev40
      have hv40 := congrArg Int32.toInt ev40
      refine And.intro (t_in (by omega)) ?_
      intro v41 ev41
      have hv41 := congrArg Int32.toInt ev41
      refine And.intro (t_in (by omega)) ?_
      intro v43 ev43
      have hv43 := congrArg Int32.toInt ev43
      refine And.intro (t_in (by omega)) ?_
      have f46 := tp_r v43
      refine And.intro (fun c45 => ?_) (fun c45 => ?_)
      · skip
        have c45 := (fa_le _ _).mp c45
        intro v48 ev48
        have hv48 := congrArg Int32.toInt ev48
        intro v50 ev50
        have f52 := tp_r v48
        have f53 : Int32.toInt (0 * 0) = Int32.toInt (0 : Int32) * 0 := ta_mulc _ _ (by decide) (by omega)
        have f51 : Int32.toInt (v48 + (0 * 0)) = Int32.toInt v48 + Int32.toInt (0 * 0) := ta_add _ _ (by omega)
        rw [← ev50] at f51
        have f55 := tp_r v50
        refine And.intro (fun c54 => ?_) (fun c54 => ?_)
        · skip
          have c54 := (fa_lt _ _).mp c54
          refine And.intro (fun _ => ?_) (fun h9 => absurd h9 (by decide))
          intro v57 ev57
          have f58 : Int32.toInt (x3 + 1) = Int32.toInt x3 + Int32.toInt (1 : Int32) := ta_add _ _ (by omega)
          rw [← ev57] at f58
          exact hKn x1 x2 v57 (by omega) (by omega) (by omega) (by omega)
        · skip
          have c54 := mt (fa_lt _ _).mpr c54
          refine And.intro (fun h9 => absurd h9 (by decide)) (fun _ => ?_)
          exact hpost _ (by omega)
      · skip
        have c45 := mt (fa_le _ _).mpr c45
        refine And.intro (t_in (by omega)) ?_
        intro v59 ev59
        have hv59 := congrArg Int32.toInt ev59
        refine And.intro (t_in (by omega)) ?_
        intro v60 ev60
        have hv60 := congrArg Int32.toInt ev60
        intro v62 ev62
        have hv62 := congrArg Int32.toInt ev62
        intro v64 ev64
        have hv64 := congrArg Int32.toInt ev64
        have f67 := tp_r v64
        refine And.intro (fun c66 => ?_) (fun c66 => ?_)
        · skip
          have c66 := (fa_lt _ _).mp c66
          refine And.intro (fun _ => ?_) (fun h9 => absurd h9 (by decide))
          intro v69 ev69
          have f70 : Int32.toInt (x3 + 1) = Int32.toInt x3 + Int32.toInt (1 : Int32) := ta_add _ _ (by omega)
          rw [← ev69] at f70
          exact hKn x1 x2 v69 (by omega) (by omega) (by omega) (by omega)
        · skip
          have c66 := mt (fa_lt _ _).mpr c66
          refine And.intro (fun h9 => absurd h9 (by decide)) (fun _ => ?_)
          exact hpost _ (by omega)
set_option maxHeartbeats 8000000 in
set_option maxRecDepth 200000 in
theorem tb_X3_leanNeeded_2 {post : Int32 → Prop} (tr_x : Nat → Int32) (tr_height : Nat → Int32) (tr_foot : Nat → Int32) (tr_fork : Nat → Int32) (tr_settings : Nat → Int32) (hpost : ∀ (r : Int32) , (-2 ≤ Int32.toInt r ∧ Int32.toInt r ≤ 30) → post r) : ∀ (n : Nat) (x1 : Int32) (x2 : Int32) (x3 : Int32), (0 ≤ Int32.toInt x1 ∧ Int32.toInt x1 ≤ 15) → (0 ≤ Int32.toInt x2 ∧ Int32.toInt x2 ≤ 7) → (0 ≤ Int32.toInt x3 ∧ Int32.toInt x3 ≤ 31) → (31 - Int32.toInt x3 < (n : Int)) → wb_X3_leanNeeded_2 post tr_x tr_height tr_foot tr_fork tr_settings n x1 x2 x3 := by
  intro n
  induction n with
  | zero =>
    intro x1 x2 x3 h_x1 h_x2 h_x3 hm
    exfalso; omega
  | succ n ih =>
    intro x1 x2 x3 h_x1 h_x2 h_x3 hm
    exact ts_X3_leanNeeded_2 tr_x tr_height tr_foot tr_fork tr_settings hpost ih x1 x2 x3 h_x1 h_x2 h_x3 (by omega)
set_option maxHeartbeats 8000000 in
set_option maxRecDepth 200000 in
theorem t_X3_leanNeeded {post : Int32 → Prop} {p0 : Int32} {p1 : Int32} {tr_x : Nat → Int32} {tr_height : Nat → Int32} {tr_foot : Nat → Int32} {tr_fork : Nat → Int32} {tr_settings : Nat → Int32} (h_p0 : 0 ≤ Int32.toInt p0 ∧ Int32.toInt p0 ≤ 15) (h_p1 : 0 ≤ Int32.toInt p1 ∧ Int32.toInt p1 ≤ 7) (hpost : ∀ (r : Int32) , (-2 ≤ Int32.toInt r ∧ Int32.toInt r ≤ 30) → post r) : wp_X3_leanNeeded post p0 p1 tr_x tr_height tr_foot tr_fork tr_settings := by
  have l0 : Int32.toInt (0 : Int32) = 0 := (by decide)
  exact ⟨33, tb_X3_leanNeeded_2 tr_x tr_height tr_foot tr_fork tr_settings hpost _ p0 p1 0 (by omega) (by omega) (by omega) (by omega)⟩
set_option maxHeartbeats 8000000 in
set_option maxRecDepth 200000 in
theorem ts_X9_nearest_63 {post : Int32 → Int32 → (Nat → Int32) → Prop} {K22 : Int32 → Int32 → Int32 → Int32 → Int32 → (Nat → Int32) → Prop} {n22 : Int} (tr_fruits : Int32) (tr_standings : Int32) (tr_x : Nat → Int32) (tr_height : Nat → Int32) (tr_foot : Nat → Int32) (tr_fork : Nat → Int32) (tr_settings : Nat → Int32) (h_tr_fruits : 0 ≤ Int32.toInt tr_fruits ∧ Int32.toInt tr_fruits ≤ 16) (h_tr_standings : 0 ≤ Int32.toInt tr_standings ∧ Int32.toInt tr_standings ≤ 8) (hpost : ∀ (r : Int32) (ro_size' : Int32) (ro_numbers' : Nat → Int32), (-2 ≤ Int32.toInt r ∧ Int32.toInt r ≤ 7) → (0 ≤ Int32.toInt ro_size' ∧ Int32.toInt ro_size' ≤ 16) → post r ro_size' ro_numbers') (hK22 : ∀ (x1 : Int32) (x2 : Int32) (x3 : Int32) (x4 : Int32) (ro_size : Int32) (ro_numbers : Nat → Int32), (0 ≤ Int32.toInt x1 ∧ Int32.toInt x1 ≤ 15) → (-2 ≤ Int32.toInt x2 ∧ Int32.toInt x2 ≤ 7) → (0 ≤ Int32.toInt x3 ∧ Int32.toInt x3 ≤ 31) → (0 ≤ Int32.toInt x4 ∧ Int32.toInt x4 ≤ 8) → (0 ≤ Int32.toInt ro_size ∧ Int32.toInt ro_size ≤ 16) → (8 - Int32.toInt x4 < n22) → K22 x1 x2 x3 x4 ro_size ro_numbers) (x1 : Int32) (x2 : Int32) (x3 : Int32) (x4 : Int32) (ro_size : Int32) (ro_numbers : Nat → Int32) (h_x1 : 0 ≤ Int32.toInt x1 ∧ Int32.toInt x1 ≤ 15) (h_x2 : -2 ≤ Int32.toInt x2 ∧ Int32.toInt x2 ≤ 7) (h_x3 : 0 ≤ Int32.toInt x3 ∧ Int32.toInt x3 ≤ 31) (h_x4 : 0 ≤ Int32.toInt x4 ∧ Int32.toInt x4 ≤ 7) (h_ro_size : 0 ≤ Int32.toInt ro_size ∧ Int32.toInt ro_size ≤ 16) (hn22 : 8 - Int32.toInt x4 ≤ n22) : ws_X9_nearest_63 post K22 tr_fruits tr_standings tr_x tr_height tr_foot tr_fork tr_settings x1 x2 x3 x4 ro_size ro_numbers := by
  have l0 : Int32.toInt (1 : Int32) = 1 := (by decide)
  intro v1 ev1
  have f2 : Int32.toInt (x4 + 1) = Int32.toInt x4 + Int32.toInt (1 : Int32) := ta_add _ _ (by omega)
  rw [← ev1] at f2
  exact hK22 x1 x2 x3 v1 ro_size ro_numbers (by omega) (by omega) (by omega) (by omega) (by omega) (by omega)
set_option maxHeartbeats 8000000 in
set_option maxRecDepth 200000 in
theorem ts_X9_nearest_22 {post : Int32 → Int32 → (Nat → Int32) → Prop} {next : Int32 → Int32 → Int32 → Int32 → Int32 → (Nat → Int32) → Prop} {n22 : Int} (tr_fruits : Int32) (tr_standings : Int32) (tr_x : Nat → Int32) (tr_height : Nat → Int32) (tr_foot : Nat → Int32) (tr_fork : Nat → Int32) (tr_settings : Nat → Int32) (h_tr_fruits : 0 ≤ Int32.toInt tr_fruits ∧ Int32.toInt tr_fruits ≤ 16) (h_tr_standings : 0 ≤ Int32.toInt tr_standings ∧ Int32.toInt tr_standings ≤ 8) (hpost : ∀ (r : Int32) (ro_size' : Int32) (ro_numbers' : Nat → Int32), (-2 ≤ Int32.toInt r ∧ Int32.toInt r ≤ 7) → (0 ≤ Int32.toInt ro_size' ∧ Int32.toInt ro_size' ≤ 16) → post r ro_size' ro_numbers') (hKn : ∀ (x1 : Int32) (x2 : Int32) (x3 : Int32) (x4 : Int32) (ro_size : Int32) (ro_numbers : Nat → Int32), (0 ≤ Int32.toInt x1 ∧ Int32.toInt x1 ≤ 15) → (-2 ≤ Int32.toInt x2 ∧ Int32.toInt x2 ≤ 7) → (0 ≤ Int32.toInt x3 ∧ Int32.toInt x3 ≤ 31) → (0 ≤ Int32.toInt x4 ∧ Int32.toInt x4 ≤ 8) → (0 ≤ Int32.toInt ro_size ∧ Int32.toInt ro_size ≤ 16) → (8 - Int32.toInt x4 < n22) → next x1 x2 x3 x4 ro_size ro_numbers) (x1 : Int32) (x2 : Int32) (x3 : Int32) (x4 : Int32) (ro_size : Int32) (ro_numbers : Nat → Int32) (h_x1 : 0 ≤ Int32.toInt x1 ∧ Int32.toInt x1 ≤ 15) (h_x2 : -2 ≤ Int32.toInt x2 ∧ Int32.toInt x2 ≤ 7) (h_x3 : 0 ≤ Int32.toInt x3 ∧ Int32.toInt x3 ≤ 31) (h_x4 : 0 ≤ Int32.toInt x4 ∧ Int32.toInt x4 ≤ 8) (h_ro_size : 0 ≤ Int32.toInt ro_size ∧ Int32.toInt ro_size ≤ 16) (hn22 : 8 - Int32.toInt x4 ≤ n22) : ws_X9_nearest_22 post next tr_fruits tr_standings tr_x tr_height tr_foot tr_fork tr_settings x1 x2 x3 x4 ro_size ro_numbers := by
  have l0 : Int32.toInt (0 : Int32) = 0 := (by decide)
  have l1 : Int32.toInt (1 : Int32) = 1 := (by decide)
  refine And.intro (fun c3 => ?_) (fun c3 => ?_)
  · skip
    have c3 := (fa_le _ _).mp c3
    refine And.intro (fun c4 => ?_) (fun c4 => ?_)
    · skip
      have c4 := (fa_lt _ _).mp c4
      exact hpost _ _ _ (by omega) (by omega)
    · skip
      have c4 := mt (fa_lt _ _).mpr c4
      refine And.intro (fun h9 => absurd h9 (by decide)) (fun _ => ?_)
      refine And.intro (t_in (by omega)) ?_
      intro v5 ev5
      have f6 : Int32.toInt (0 + 1) = Int32.toInt (0 : Int32) + Int32.toInt (1 : Int32) := ta_add _ _ (by omega)
      rw [← ev5] at f6
      exact hpost _ _ _ (by omega) (by omega)
  · skip
    have c3 := mt (fa_le _ _).mpr c3
    refine t_X3_leanNeeded (by omega) (by omega) (fun r7 h_r7 => ?_)
    refine And.intro (fun c8 => ?_) (fun c8 => ?_)
    · skip
      have c8 := (fa_lt _ _).mp c8
      exact ts_X9_nearest_63 tr_fruits tr_standings tr_x tr_height tr_foot tr_fork tr_settings h_tr_fruits h_tr_standings hpost hKn x1 x2 x3 x4 ro_size ro_numbers (by omega) (by omega) (by omega) (by omega) (by omega) (by omega)
    · skip
      have c8 := mt (fa_lt _ _).mpr c8
      refine And.intro (fun c9 => ?_) (fun c9 => ?_)
      · skip
        have c9 := (fa_le _ _).mp c9
        exact ts_X9_nearest_63 tr_fruits tr_standings tr_x tr_height tr_foot tr_fork tr_settings h_tr_fruits h_tr_standings hpost hKn x1 x2 x3 x4 ro_size ro_numbers (by omega) (by omega) (by omega) (by omega) (by omega) (by omega)
      · skip
        have c9 := mt (fa_le _ _).mpr c9
        exact ts_X9_nearest_63 tr_fruits tr_standings tr_x tr_height tr_foot tr_fork tr_settings h_tr_fruits h_tr_standings hpost hKn x1 x4 r7 x4 ro_size ro_numbers (by omega) (by omega) (by omega) (by omega) (by omega) (by omega)
set_option maxHeartbeats 8000000 in
set_option maxRecDepth 200000 in
theorem tb_X9_nearest_22 {post : Int32 → Int32 → (Nat → Int32) → Prop} (tr_fruits : Int32) (tr_standings : Int32) (tr_x : Nat → Int32) (tr_height : Nat → Int32) (tr_foot : Nat → Int32) (tr_fork : Nat → Int32) (tr_settings : Nat → Int32) (h_tr_fruits : 0 ≤ Int32.toInt tr_fruits ∧ Int32.toInt tr_fruits ≤ 16) (h_tr_standings : 0 ≤ Int32.toInt tr_standings ∧ Int32.toInt tr_standings ≤ 8) (hpost : ∀ (r : Int32) (ro_size' : Int32) (ro_numbers' : Nat → Int32), (-2 ≤ Int32.toInt r ∧ Int32.toInt r ≤ 7) → (0 ≤ Int32.toInt ro_size' ∧ Int32.toInt ro_size' ≤ 16) → post r ro_size' ro_numbers') : ∀ (n : Nat) (x1 : Int32) (x2 : Int32) (x3 : Int32) (x4 : Int32) (ro_size : Int32) (ro_numbers : Nat → Int32), (0 ≤ Int32.toInt x1 ∧ Int32.toInt x1 ≤ 15) → (-2 ≤ Int32.toInt x2 ∧ Int32.toInt x2 ≤ 7) → (0 ≤ Int32.toInt x3 ∧ Int32.toInt x3 ≤ 31) → (0 ≤ Int32.toInt x4 ∧ Int32.toInt x4 ≤ 8) → (0 ≤ Int32.toInt ro_size ∧ Int32.toInt ro_size ≤ 16) → (8 - Int32.toInt x4 < (n : Int)) → wb_X9_nearest_22 post tr_fruits tr_standings tr_x tr_height tr_foot tr_fork tr_settings n x1 x2 x3 x4 ro_size ro_numbers := by
  intro n
  induction n with
  | zero =>
    intro x1 x2 x3 x4 ro_size ro_numbers h_x1 h_x2 h_x3 h_x4 h_ro_size hm
    exfalso; omega
  | succ n ih =>
    intro x1 x2 x3 x4 ro_size ro_numbers h_x1 h_x2 h_x3 h_x4 h_ro_size hm
    exact ts_X9_nearest_22 tr_fruits tr_standings tr_x tr_height tr_foot tr_fork tr_settings h_tr_fruits h_tr_standings hpost ih x1 x2 x3 x4 ro_size ro_numbers h_x1 h_x2 h_x3 h_x4 h_ro_size (by omega)
set_option maxHeartbeats 8000000 in
set_option maxRecDepth 200000 in
theorem t_X9_nearest {post : Int32 → Int32 → (Nat → Int32) → Prop} {p0 : Int32} {tr_fruits : Int32} {tr_standings : Int32} {tr_x : Nat → Int32} {tr_height : Nat → Int32} {tr_foot : Nat → Int32} {tr_fork : Nat → Int32} {tr_settings : Nat → Int32} {ro_size : Int32} {ro_numbers : Nat → Int32} (h_tr_fruits : 0 ≤ Int32.toInt tr_fruits ∧ Int32.toInt tr_fruits ≤ 16) (h_tr_standings : 0 ≤ Int32.toInt tr_standings ∧ Int32.toInt tr_standings ≤ 8) (h_ro_size : 0 ≤ Int32.toInt ro_size ∧ Int32.toInt ro_size ≤ 16) (hpost : ∀ (r : Int32) (ro_size' : Int32) (ro_numbers' : Nat → Int32), (-2 ≤ Int32.toInt r ∧ Int32.toInt r ≤ 7) → (0 ≤ Int32.toInt ro_size' ∧ Int32.toInt ro_size' ≤ 16) → post r ro_size' ro_numbers') : wp_X9_nearest post p0 tr_fruits tr_standings tr_x tr_height tr_foot tr_fork tr_settings ro_size ro_numbers := by
  have l0 : Int32.toInt ((-1) : Int32) = -1 := (by decide)
  have l1 : Int32.toInt ((-2) : Int32) = -2 := (by decide)
  have l2 : Int32.toInt (0 : Int32) = 0 := (by decide)
  have l3 : Int32.toInt (31 : Int32) = 31 := (by decide)
  have f11 := tp_r p0
  refine And.intro (fun c10 => ?_) (fun c10 => ?_)
  · skip
    have c10 := (fa_lt _ _).mp c10
    refine And.intro (fun h9 => absurd h9 (by decide)) (fun _ => ?_)
    exact hpost _ _ _ (by omega) (by omega)
  · skip
    have c10 := mt (fa_lt _ _).mpr c10
    refine And.intro (fun c12 => ?_) (fun c12 => ?_)
    · skip
      have c12 := (fa_le _ _).mp c12
      refine And.intro (fun h9 => absurd h9 (by decide)) (fun _ => ?_)
      exact hpost _ _ _ (by omega) (by omega)
    · skip
      have c12 := mt (fa_le _ _).mpr c12
      refine And.intro (fun _ => ?_) (fun h9 => absurd h9 (by decide))
      exact ⟨10, tb_X9_nearest_22 tr_fruits tr_standings tr_x tr_height tr_foot tr_fork tr_settings h_tr_fruits h_tr_standings hpost _ p0 (-2) 31 0 ro_size ro_numbers (by omega) (by omega) (by omega) (by omega) (by omega) (by omega)⟩
set_option maxHeartbeats 8000000 in
set_option maxRecDepth 200000 in
theorem ts_X5_isEarlier_31 {post : Int32 → Prop} (hpost : ∀ (r : Int32) , (0 ≤ Int32.toInt r ∧ Int32.toInt r ≤ 1) → post r) : ws_X5_isEarlier_31 post := by
  have l0 : Int32.toInt (1 : Int32) = 1 := (by decide)
  exact hpost _ (by omega)
set_option maxHeartbeats 8000000 in
set_option maxRecDepth 200000 in
theorem t_X5_isEarlier {post : Int32 → Prop} {p0 : Int32} {p1 : Int32} (h_p0 : 0 ≤ Int32.toInt p0 ∧ Int32.toInt p0 ≤ 255) (h_p1 : 0 ≤ Int32.toInt p1 ∧ Int32.toInt p1 ≤ 255) (hpost : ∀ (r : Int32) , (0 ≤ Int32.toInt r ∧ Int32.toInt r ≤ 1) → post r) : wp_X5_isEarlier post p0 p1 := by
  have l0 : Int32.toInt (0 : Int32) = 0 := (by decide)
  have l1 : Int32.toInt (1431655765 : Int32) = 1431655765 := (by decide)
  have l2 : Int32.toInt (252645135 : Int32) = 252645135 := (by decide)
  have l3 : Int32.toInt (63 : Int32) = 63 := (by decide)
  have l4 : Int32.toInt (858993459 : Int32) = 858993459 := (by decide)
  intro v1 ev1
  intro v2 ev2
  have f4 := ti_andr v1 1431655765 (by omega)
  have f3 : Int32.toInt (p0 - (v1 &&& 1431655765)) = Int32.toInt p0 - Int32.toInt (v1 &&& 1431655765) := ta_sub _ _ (by omega)
  rw [← ev2] at f3
  intro v5 ev5
  have f6 := ti_andr v2 858993459 (by omega)
  have hv5 := congrArg Int32.toInt ev5
  intro v7 ev7
  intro v8 ev8
  have f10 := ti_andr v7 858993459 (by omega)
  have f9 : Int32.toInt (v5 + (v7 &&& 858993459)) = Int32.toInt v5 + Int32.toInt (v7 &&& 858993459) := ta_add _ _ (by omega)
  rw [← ev8] at f9
  intro v11 ev11
  have hv11 := congrArg Int32.toInt ev11
  intro v13 ev13
  have f14 := ti_andr v11 252645135 (by omega)
  have hv13 := congrArg Int32.toInt ev13
  intro v15 ev15
  have hv15 := congrArg Int32.toInt ev15
  intro v17 ev17
  have hv17 := congrArg Int32.toInt ev17
  intro v19 ev19
  intro v20 ev20
  have f22 := ti_andr v19 1431655765 (by omega)
  have f21 : Int32.toInt (p1 - (v19 &&& 1431655765)) = Int32.toInt p1 - Int32.toInt (v19 &&& 1431655765) := ta_sub _ _ (by omega)
  rw [← ev20] at f21
  intro v23 ev23
  have f24 := ti_andr v20 858993459 (by omega)
  have hv23 := congrArg Int32.toInt ev23
  intro v25 ev25
  intro v26 ev26
  have f28 := ti_andr v25 858993459 (by omega)
  have f27 : Int32.toInt (v23 + (v25 &&& 858993459)) = Int32.toInt v23 + Int32.toInt (v25 &&& 858993459) := ta_add _ _ (by omega)
  rw [← ev26] at f27
  intro v29 ev29
  have hv29 := congrArg Int32.toInt ev29
  intro v31 ev31
  have f32 := ti_andr v29 252645135 (by omega)
  have hv31 := congrArg Int32.toInt ev31
  intro v33 ev33
  have hv33 := congrArg Int32.toInt ev33
  intro v35 ev35
  have hv35 := congrArg Int32.toInt ev35
  intro v37 ev37
  have f39 := ti_andr v17 63 (by omega)
  have f40 := ti_andr v35 63 (by omega)
  have f38 : Int32.toInt ((v17 &&& 63) - (v35 &&& 63)) = Int32.toInt (v17 &&& 63) - Int32.toInt (v35 &&& 63) := ta_sub _ _ (by omega)
  rw [← ev37] at f38
  intro v41 ev41
  have f42 := ti_xor 8 256 p0 p1 (by decide) (by omega) (by omega)
  have hv41 := congrArg Int32.toInt ev41
  refine And.intro (fun c43 => ?_) (fun c43 => ?_)
  · skip
    have c43 := (fa_lt _ _).mp c43
    exact ts_X5_isEarlier_31 hpost 
  · skip
    have c43 := mt (fa_lt _ _).mpr c43
    refine And.intro (fun c44 => ?_) (fun c44 => ?_)
    · skip
      have c44 := mt (fa_eq _ _).mpr c44
      exact hpost _ (by omega)
    · skip
      have c44 := (fa_eq _ _).mp c44
      intro v45 ev45
      have f46 := ti_andr p0 v41 (by omega)
      have f47 := ti_andl p0 v41 (by omega)
      have hv45 := congrArg Int32.toInt ev45
      have f50 := ti_andl v45 (-v41) (by omega)
      refine And.intro (fun c48 => ?_) (fun c48 => ?_)
      · skip
        have c48 := (fa_eq _ _).mp c48
        exact hpost _ (by omega)
      · skip
        have c48 := mt (fa_eq _ _).mpr c48
        exact ts_X5_isEarlier_31 hpost 
set_option maxHeartbeats 8000000 in
set_option maxRecDepth 200000 in
theorem ts_X5_smallestCover_45 {post : Int32 → Prop} {K5 : Int32 → Int32 → Int32 → Int32 → Prop} {n5 : Int} (pl_near : Nat → Int32) (tr_standings : Int32) (h_pl_near : ∀ k : Nat, 0 ≤ Int32.toInt (pl_near k) ∧ Int32.toInt (pl_near k) ≤ 65535) (h_tr_standings : 0 ≤ Int32.toInt tr_standings ∧ Int32.toInt tr_standings ≤ 8) (hpost : ∀ (r : Int32) , (0 ≤ Int32.toInt r ∧ Int32.toInt r ≤ 255) → post r) (hK5 : ∀ (x1 : Int32) (x2 : Int32) (x3 : Int32) (x4 : Int32), (0 ≤ Int32.toInt x1 ∧ Int32.toInt x1 ≤ 65535) → (0 ≤ Int32.toInt x2 ∧ Int32.toInt x2 ≤ 255) → (0 ≤ Int32.toInt x3 ∧ Int32.toInt x3 ≤ 255) → (0 ≤ Int32.toInt x4 ∧ Int32.toInt x4 ≤ 256) → (256 - Int32.toInt x4 < n5) → K5 x1 x2 x3 x4) (x1 : Int32) (x2 : Int32) (x3 : Int32) (x4 : Int32) (h_x1 : 0 ≤ Int32.toInt x1 ∧ Int32.toInt x1 ≤ 65535) (h_x2 : 1 ≤ Int32.toInt x2 ∧ Int32.toInt x2 ≤ 255) (h_x3 : 0 ≤ Int32.toInt x3 ∧ Int32.toInt x3 ≤ 255) (h_x4 : 0 ≤ Int32.toInt x4 ∧ Int32.toInt x4 ≤ 255) (hn5 : 256 - Int32.toInt x4 ≤ n5) : ws_X5_smallestCover_45 post K5 pl_near tr_standings x1 x2 x3 x4 := by
  have l0 : Int32.toInt (1 : Int32) = 1 := (by decide)
  intro v1 ev1
  have f2 : Int32.toInt (x4 + 1) = Int32.toInt x4 + Int32.toInt (1 : Int32) := ta_add _ _ (by omega)
  rw [← ev1] at f2
  exact hK5 x1 x2 x3 v1 (by omega) (by omega) (by omega) (by omega) (by omega)
set_option maxHeartbeats 8000000 in
set_option maxRecDepth 200000 in
theorem ts_X5_smallestCover_5 {post : Int32 → Prop} {next : Int32 → Int32 → Int32 → Int32 → Prop} {n5 : Int} (pl_near : Nat → Int32) (tr_standings : Int32) (h_pl_near : ∀ k : Nat, 0 ≤ Int32.toInt (pl_near k) ∧ Int32.toInt (pl_near k) ≤ 65535) (h_tr_standings : 0 ≤ Int32.toInt tr_standings ∧ Int32.toInt tr_standings ≤ 8) (hpost : ∀ (r : Int32) , (0 ≤ Int32.toInt r ∧ Int32.toInt r ≤ 255) → post r) (hKn : ∀ (x1 : Int32) (x2 : Int32) (x3 : Int32) (x4 : Int32), (0 ≤ Int32.toInt x1 ∧ Int32.toInt x1 ≤ 65535) → (0 ≤ Int32.toInt x2 ∧ Int32.toInt x2 ≤ 255) → (0 ≤ Int32.toInt x3 ∧ Int32.toInt x3 ≤ 255) → (0 ≤ Int32.toInt x4 ∧ Int32.toInt x4 ≤ 256) → (256 - Int32.toInt x4 < n5) → next x1 x2 x3 x4) (x1 : Int32) (x2 : Int32) (x3 : Int32) (x4 : Int32) (h_x1 : 0 ≤ Int32.toInt x1 ∧ Int32.toInt x1 ≤ 65535) (h_x2 : 0 ≤ Int32.toInt x2 ∧ Int32.toInt x2 ≤ 255) (h_x3 : 0 ≤ Int32.toInt x3 ∧ Int32.toInt x3 ≤ 255) (h_x4 : 0 ≤ Int32.toInt x4 ∧ Int32.toInt x4 ≤ 256) (hn5 : 256 - Int32.toInt x4 ≤ n5) : ws_X5_smallestCover_5 post next pl_near tr_standings x1 x2 x3 x4 := by
  have l0 : Int32.toInt (0 : Int32) = 0 := (by decide)
  refine And.intro (fun c3 => ?_) (fun c3 => ?_)
  · skip
    have c3 := (fa_le _ _).mp c3
    exact hpost _ (by omega)
  · skip
    have c3 := mt (fa_le _ _).mpr c3
    have f6 := ti_andl x4 (x2 ^^^ (-1)) (by omega)
    refine And.intro (fun c4 => ?_) (fun c4 => ?_)
    · skip
      have c4 := mt (fa_eq _ _).mpr c4
      exact ts_X5_smallestCover_45 pl_near tr_standings h_pl_near h_tr_standings hpost hKn x1 x2 x3 x4 (by omega) (by omega) (by omega) (by omega) (by omega)
    · skip
      have c4Z := c4
      have c4 := (fa_eq _ _).mp c4
      have s7 := ti_subset x4 x2 (c4Z) (by omega)
      refine t_X5_reachedBy (by omega) (fun k => by have q9 := h_pl_near k; omega) (by omega) (fun r8 h_r8 => ?_)
      have f11 := ti_andl x1 (r8 ^^^ (-1)) (by omega)
      refine And.intro (fun c9 => ?_) (fun c9 => ?_)
      · skip
        have c9 := mt (fa_eq _ _).mpr c9
        exact ts_X5_smallestCover_45 pl_near tr_standings h_pl_near h_tr_standings hpost hKn x1 x2 x3 x4 (by omega) (by omega) (by omega) (by omega) (by omega)
      · skip
        have c9Z := c9
        have c9 := (fa_eq _ _).mp c9
        have s12 := ti_subset x1 r8 (c9Z) (by omega)
        refine t_X5_isEarlier (by omega) (by omega) (fun r13 h_r13 => ?_)
        refine And.intro (fun c14 => ?_) (fun c14 => ?_)
        · skip
          have c14 := (fa_eq _ _).mp c14
          exact ts_X5_smallestCover_45 pl_near tr_standings h_pl_near h_tr_standings hpost hKn x1 x2 x3 x4 (by omega) (by omega) (by omega) (by omega) (by omega)
        · skip
          have c14 := mt (fa_eq _ _).mpr c14
          exact ts_X5_smallestCover_45 pl_near tr_standings h_pl_near h_tr_standings hpost hKn x1 x2 x4 x4 (by omega) (by omega) (by omega) (by omega) (by omega)
set_option maxHeartbeats 8000000 in
set_option maxRecDepth 200000 in
theorem tb_X5_smallestCover_5 {post : Int32 → Prop} (pl_near : Nat → Int32) (tr_standings : Int32) (h_pl_near : ∀ k : Nat, 0 ≤ Int32.toInt (pl_near k) ∧ Int32.toInt (pl_near k) ≤ 65535) (h_tr_standings : 0 ≤ Int32.toInt tr_standings ∧ Int32.toInt tr_standings ≤ 8) (hpost : ∀ (r : Int32) , (0 ≤ Int32.toInt r ∧ Int32.toInt r ≤ 255) → post r) : ∀ (n : Nat) (x1 : Int32) (x2 : Int32) (x3 : Int32) (x4 : Int32), (0 ≤ Int32.toInt x1 ∧ Int32.toInt x1 ≤ 65535) → (0 ≤ Int32.toInt x2 ∧ Int32.toInt x2 ≤ 255) → (0 ≤ Int32.toInt x3 ∧ Int32.toInt x3 ≤ 255) → (0 ≤ Int32.toInt x4 ∧ Int32.toInt x4 ≤ 256) → (256 - Int32.toInt x4 < (n : Int)) → wb_X5_smallestCover_5 post pl_near tr_standings n x1 x2 x3 x4 := by
  intro n
  induction n with
  | zero =>
    intro x1 x2 x3 x4 h_x1 h_x2 h_x3 h_x4 hm
    exfalso; omega
  | succ n ih =>
    intro x1 x2 x3 x4 h_x1 h_x2 h_x3 h_x4 hm
    exact ts_X5_smallestCover_5 pl_near tr_standings h_pl_near h_tr_standings hpost ih x1 x2 x3 x4 h_x1 h_x2 h_x3 h_x4 (by omega)
set_option maxHeartbeats 8000000 in
set_option maxRecDepth 200000 in
theorem t_X5_smallestCover {post : Int32 → Prop} {p0 : Int32} {p1 : Int32} {pl_near : Nat → Int32} {tr_standings : Int32} (h_p0 : 0 ≤ Int32.toInt p0 ∧ Int32.toInt p0 ≤ 65535) (h_p1 : 0 ≤ Int32.toInt p1 ∧ Int32.toInt p1 ≤ 255) (h_pl_near : ∀ k : Nat, 0 ≤ Int32.toInt (pl_near k) ∧ Int32.toInt (pl_near k) ≤ 65535) (h_tr_standings : 0 ≤ Int32.toInt tr_standings ∧ Int32.toInt tr_standings ≤ 8) (hpost : ∀ (r : Int32) , (0 ≤ Int32.toInt r ∧ Int32.toInt r ≤ 255) → post r) : wp_X5_smallestCover post p0 p1 pl_near tr_standings := by
  have l0 : Int32.toInt (0 : Int32) = 0 := (by decide)
  exact ⟨258, tb_X5_smallestCover_5 pl_near tr_standings h_pl_near h_tr_standings hpost _ p0 p1 p1 0 (by omega) (by omega) (by omega) (by omega) (by omega)⟩
set_option maxHeartbeats 8000000 in
set_option maxRecDepth 200000 in
theorem ts_X9_tellMembers_31 {post : Int32 → Int32 → (Nat → Int32) → Prop} {K9 : Int32 → Int32 → Int32 → (Nat → Int32) → Prop} {n9 : Int} (hpost : ∀ (r : Int32) (ro_size' : Int32) (ro_numbers' : Nat → Int32), (0 ≤ Int32.toInt r ∧ Int32.toInt r ≤ 16) → (0 ≤ Int32.toInt ro_size' ∧ Int32.toInt ro_size' ≤ 16) → post r ro_size' ro_numbers') (hK9 : ∀ (x1 : Int32) (x2 : Int32) (ro_size : Int32) (ro_numbers : Nat → Int32), (0 ≤ Int32.toInt x1 ∧ Int32.toInt x1 ≤ 255) → (0 ≤ Int32.toInt x2 ∧ Int32.toInt x2 ≤ 8) → (0 ≤ Int32.toInt ro_size ∧ Int32.toInt ro_size ≤ 16) → (8 - Int32.toInt x2 < n9) → K9 x1 x2 ro_size ro_numbers) (x1 : Int32) (x2 : Int32) (ro_size : Int32) (ro_numbers : Nat → Int32) (h_x1 : 0 ≤ Int32.toInt x1 ∧ Int32.toInt x1 ≤ 255) (h_x2 : 0 ≤ Int32.toInt x2 ∧ Int32.toInt x2 ≤ 7) (h_ro_size : 0 ≤ Int32.toInt ro_size ∧ Int32.toInt ro_size ≤ 16) (hn9 : 8 - Int32.toInt x2 ≤ n9) : ws_X9_tellMembers_31 post K9 x1 x2 ro_size ro_numbers := by
  have l0 : Int32.toInt (1 : Int32) = 1 := (by decide)
  intro v1 ev1
  have f2 : Int32.toInt (x2 + 1) = Int32.toInt x2 + Int32.toInt (1 : Int32) := ta_add _ _ (by omega)
  rw [← ev1] at f2
  exact hK9 x1 v1 ro_size ro_numbers (by omega) (by omega) (by omega) (by omega)
set_option maxHeartbeats 8000000 in
set_option maxRecDepth 200000 in
theorem ts_X9_tellMembers_9 {post : Int32 → Int32 → (Nat → Int32) → Prop} {next : Int32 → Int32 → Int32 → (Nat → Int32) → Prop} {n9 : Int} (hpost : ∀ (r : Int32) (ro_size' : Int32) (ro_numbers' : Nat → Int32), (0 ≤ Int32.toInt r ∧ Int32.toInt r ≤ 16) → (0 ≤ Int32.toInt ro_size' ∧ Int32.toInt ro_size' ≤ 16) → post r ro_size' ro_numbers') (hKn : ∀ (x1 : Int32) (x2 : Int32) (ro_size : Int32) (ro_numbers : Nat → Int32), (0 ≤ Int32.toInt x1 ∧ Int32.toInt x1 ≤ 255) → (0 ≤ Int32.toInt x2 ∧ Int32.toInt x2 ≤ 8) → (0 ≤ Int32.toInt ro_size ∧ Int32.toInt ro_size ≤ 16) → (8 - Int32.toInt x2 < n9) → next x1 x2 ro_size ro_numbers) (x1 : Int32) (x2 : Int32) (ro_size : Int32) (ro_numbers : Nat → Int32) (h_x1 : 0 ≤ Int32.toInt x1 ∧ Int32.toInt x1 ≤ 255) (h_x2 : 0 ≤ Int32.toInt x2 ∧ Int32.toInt x2 ≤ 8) (h_ro_size : 0 ≤ Int32.toInt ro_size ∧ Int32.toInt ro_size ≤ 16) (hn9 : 8 - Int32.toInt x2 ≤ n9) : ws_X9_tellMembers_9 post next x1 x2 ro_size ro_numbers := by
  have l0 : Int32.toInt (0 : Int32) = 0 := (by decide)
  have l1 : Int32.toInt (1 : Int32) = 1 := (by decide)
  have l2 : Int32.toInt (16 : Int32) = 16 := (by decide)
  have l3 : Int32.toInt (8 : Int32) = 8 := (by decide)
  refine And.intro (fun c3 => ?_) (fun c3 => ?_)
  · skip
    have c3 := (fa_le _ _).mp c3
    exact hpost _ _ _ (by omega) (by omega)
  · skip
    have c3 := mt (fa_le _ _).mpr c3
    intro v4 ev4
    have f5 := ti_shr x1 x2 (by omega)
    have hv4 := congrArg Int32.toInt ev4
    have f7 := ti_andr v4 1 (by omega)
    have f8 := ti_andl v4 1 (by omega)
    refine And.intro (fun c6 => ?_) (fun c6 => ?_)
    · skip
      have c6 := (fa_eq _ _).mp c6
      exact ts_X9_tellMembers_31 hpost hKn x1 x2 ro_size ro_numbers (by omega) (by omega) (by omega) (by omega)
    · skip
      have c6 := mt (fa_eq _ _).mpr c6
      refine And.intro (fun c9 => ?_) (fun c9 => ?_)
      · skip
        have c9 := (fa_le _ _).mp c9
        exact ts_X9_tellMembers_31 hpost hKn x1 x2 ro_size ro_numbers (by omega) (by omega) (by omega) (by omega)
      · skip
        have c9 := mt (fa_le _ _).mpr c9
        refine And.intro (t_in (by omega)) ?_
        intro v10 ev10
        have f11 : Int32.toInt (ro_size + 1) = Int32.toInt ro_size + Int32.toInt (1 : Int32) := ta_add _ _ (by omega)
        rw [← ev10] at f11
        exact ts_X9_tellMembers_31 hpost hKn x1 x2 v10 (upd ro_numbers ro_size.toNatClampNeg x2) (by omega) (by omega) (by omega) (by omega)
set_option maxHeartbeats 8000000 in
set_option maxRecDepth 200000 in
theorem tb_X9_tellMembers_9 {post : Int32 → Int32 → (Nat → Int32) → Prop} (hpost : ∀ (r : Int32) (ro_size' : Int32) (ro_numbers' : Nat → Int32), (0 ≤ Int32.toInt r ∧ Int32.toInt r ≤ 16) → (0 ≤ Int32.toInt ro_size' ∧ Int32.toInt ro_size' ≤ 16) → post r ro_size' ro_numbers') : ∀ (n : Nat) (x1 : Int32) (x2 : Int32) (ro_size : Int32) (ro_numbers : Nat → Int32), (0 ≤ Int32.toInt x1 ∧ Int32.toInt x1 ≤ 255) → (0 ≤ Int32.toInt x2 ∧ Int32.toInt x2 ≤ 8) → (0 ≤ Int32.toInt ro_size ∧ Int32.toInt ro_size ≤ 16) → (8 - Int32.toInt x2 < (n : Int)) → wb_X9_tellMembers_9 post n x1 x2 ro_size ro_numbers := by
  intro n
  induction n with
  | zero =>
    intro x1 x2 ro_size ro_numbers h_x1 h_x2 h_ro_size hm
    exfalso; omega
  | succ n ih =>
    intro x1 x2 ro_size ro_numbers h_x1 h_x2 h_ro_size hm
    exact ts_X9_tellMembers_9 hpost ih x1 x2 ro_size ro_numbers h_x1 h_x2 h_ro_size (by omega)
set_option maxHeartbeats 8000000 in
set_option maxRecDepth 200000 in
theorem t_X9_tellMembers {post : Int32 → Int32 → (Nat → Int32) → Prop} {p0 : Int32} {ro_size : Int32} {ro_numbers : Nat → Int32} (h_p0 : 0 ≤ Int32.toInt p0 ∧ Int32.toInt p0 ≤ 255) (h_ro_size : 0 ≤ Int32.toInt ro_size ∧ Int32.toInt ro_size ≤ 16) (hpost : ∀ (r : Int32) (ro_size' : Int32) (ro_numbers' : Nat → Int32), (0 ≤ Int32.toInt r ∧ Int32.toInt r ≤ 16) → (0 ≤ Int32.toInt ro_size' ∧ Int32.toInt ro_size' ≤ 16) → post r ro_size' ro_numbers') : wp_X9_tellMembers post p0 ro_size ro_numbers := by
  have l0 : Int32.toInt (0 : Int32) = 0 := (by decide)
  exact ⟨10, tb_X9_tellMembers_9 hpost _ p0 0 0 ro_numbers (by omega) (by omega) (by omega) (by omega)⟩
set_option maxHeartbeats 8000000 in
set_option maxRecDepth 200000 in
theorem t_X9_fewest {post : Int32 → Int32 → (Nat → Int32) → Int32 → (Nat → Int32) → Prop} {pl_wanted : Int32} {pl_near : Nat → Int32} {tr_fruits : Int32} {tr_standings : Int32} {tr_x : Nat → Int32} {tr_height : Nat → Int32} {tr_ripe : Nat → Int32} {tr_foot : Nat → Int32} {tr_fork : Nat → Int32} {tr_settings : Nat → Int32} {no_apron : Int32} {no_basket : Int32} {no_ground : Int32} {no_helper : Int32} {no_today : Int32} {ro_size : Int32} {ro_numbers : Nat → Int32} (h_pl_wanted : 0 ≤ Int32.toInt pl_wanted ∧ Int32.toInt pl_wanted ≤ 65535) (h_pl_near : ∀ k : Nat, 0 ≤ Int32.toInt (pl_near k) ∧ Int32.toInt (pl_near k) ≤ 65535) (h_tr_fruits : 0 ≤ Int32.toInt tr_fruits ∧ Int32.toInt tr_fruits ≤ 16) (h_tr_standings : 0 ≤ Int32.toInt tr_standings ∧ Int32.toInt tr_standings ≤ 8) (h_no_today : 0 ≤ Int32.toInt no_today ∧ Int32.toInt no_today ≤ 9) (h_ro_size : 0 ≤ Int32.toInt ro_size ∧ Int32.toInt ro_size ≤ 16) (hpost : ∀ (r : Int32) (pl_wanted' : Int32) (pl_near' : Nat → Int32) (ro_size' : Int32) (ro_numbers' : Nat → Int32), (0 ≤ Int32.toInt r ∧ Int32.toInt r ≤ 16) → (0 ≤ Int32.toInt pl_wanted' ∧ Int32.toInt pl_wanted' ≤ 65535) → (∀ k : Nat, 0 ≤ Int32.toInt (pl_near' k) ∧ Int32.toInt (pl_near' k) ≤ 65535) → (0 ≤ Int32.toInt ro_size' ∧ Int32.toInt ro_size' ≤ 16) → post r pl_wanted' pl_near' ro_size' ro_numbers') : wp_X9_fewest post pl_wanted pl_near tr_fruits tr_standings tr_x tr_height tr_ripe tr_foot tr_fork tr_settings no_apron no_basket no_ground no_helper no_today ro_size ro_numbers := by
  have l0 : Int32.toInt (1 : Int32) = 1 := (by decide)
  refine t_X5_lookAs (by omega) (by omega) (fun k => by have q9 := h_pl_near k; omega) (by omega) (by omega) (fun pl_wanted_1 pl_near_2 h_pl_wanted_1 h_pl_near_2 => ?_)
  intro v3 ev3
  have f4 := ti_shl1 8 256 tr_standings (by decide) (by omega)
  have hv3 := congrArg Int32.toInt ev3
  have f6 : Int32.toInt (v3 - 1) = Int32.toInt v3 - Int32.toInt (1 : Int32) := ta_sub _ _ (by omega)
  refine t_X5_smallestCover (by omega) (by omega) (fun k => by have q9 := h_pl_near_2 k; omega) (by omega) (fun r5 h_r5 => ?_)
  refine t_X9_tellMembers (by omega) (by omega) (fun r9 ro_size_7 ro_numbers_8 h_r9 h_ro_size_7 => ?_)
  exact hpost _ _ _ _ _ (by omega) (by omega) (fun k => by have q9 := h_pl_near_2 k; omega) (by omega)
set_option maxHeartbeats 8000000 in
set_option maxRecDepth 200000 in
theorem ts_X9_needed_76 {post : Int32 → Int32 → (Nat → Int32) → Int32 → (Nat → Int32) → Prop} {K13 : Int32 → Int32 → Int32 → Int32 → (Nat → Int32) → Int32 → (Nat → Int32) → Prop} {n13 : Int} (tr_fruits : Int32) (tr_standings : Int32) (tr_x : Nat → Int32) (tr_height : Nat → Int32) (tr_ripe : Nat → Int32) (tr_foot : Nat → Int32) (tr_fork : Nat → Int32) (tr_settings : Nat → Int32) (no_apron : Int32) (no_basket : Int32) (no_ground : Int32) (no_helper : Int32) (no_today : Int32) (h_tr_fruits : 0 ≤ Int32.toInt tr_fruits ∧ Int32.toInt tr_fruits ≤ 16) (h_tr_standings : 0 ≤ Int32.toInt tr_standings ∧ Int32.toInt tr_standings ≤ 8) (h_no_today : 0 ≤ Int32.toInt no_today ∧ Int32.toInt no_today ≤ 9) (hpost : ∀ (r : Int32) (pl_wanted' : Int32) (pl_near' : Nat → Int32) (ro_size' : Int32) (ro_numbers' : Nat → Int32), (0 ≤ Int32.toInt r ∧ Int32.toInt r ≤ 255) → (0 ≤ Int32.toInt pl_wanted' ∧ Int32.toInt pl_wanted' ≤ 65535) → (∀ k : Nat, 0 ≤ Int32.toInt (pl_near' k) ∧ Int32.toInt (pl_near' k) ≤ 65535) → (1 ≤ Int32.toInt ro_size' ∧ Int32.toInt ro_size' ≤ 1) → post r pl_wanted' pl_near' ro_size' ro_numbers') (hK13 : ∀ (x1 : Int32) (x2 : Int32) (x3 : Int32) (pl_wanted : Int32) (pl_near : Nat → Int32) (ro_size : Int32) (ro_numbers : Nat → Int32), (0 ≤ Int32.toInt x1 ∧ Int32.toInt x1 ≤ 255) → (0 ≤ Int32.toInt x2 ∧ Int32.toInt x2 ≤ 65535) → (0 ≤ Int32.toInt x3 ∧ Int32.toInt x3 ≤ 8) → (0 ≤ Int32.toInt pl_wanted ∧ Int32.toInt pl_wanted ≤ 65535) → (∀ k : Nat, 0 ≤ Int32.toInt (pl_near k) ∧ Int32.toInt (pl_near k) ≤ 65535) → (0 ≤ Int32.toInt ro_size ∧ Int32.toInt ro_size ≤ 16) → (8 - Int32.toInt x3 < n13) → K13 x1 x2 x3 pl_wanted pl_near ro_size ro_numbers) (x1 : Int32) (x2 : Int32) (x3 : Int32) (pl_wanted : Int32) (pl_near : Nat → Int32) (ro_size : Int32) (ro_numbers : Nat → Int32) (h_x1 : 0 ≤ Int32.toInt x1 ∧ Int32.toInt x1 ≤ 255) (h_x2 : 0 ≤ Int32.toInt x2 ∧ Int32.toInt x2 ≤ 65535) (h_x3 : 0 ≤ Int32.toInt x3 ∧ Int32.toInt x3 ≤ 7) (h_pl_wanted : 0 ≤ Int32.toInt pl_wanted ∧ Int32.toInt pl_wanted ≤ 65535) (h_pl_near : ∀ k : Nat, 0 ≤ Int32.toInt (pl_near k) ∧ Int32.toInt (pl_near k) ≤ 65535) (h_ro_size : 0 ≤ Int32.toInt ro_size ∧ Int32.toInt ro_size ≤ 16) (hn13 : 8 - Int32.toInt x3 ≤ n13) : ws_X9_needed_76 post K13 tr_fruits tr_standings tr_x tr_height tr_ripe tr_foot tr_fork tr_settings no_apron no_basket no_ground no_helper no_today x1 x2 x3 pl_wanted pl_near ro_size ro_numbers := by
  have l0 : Int32.toInt (1 : Int32) = 1 := (by decide)
  intro v1 ev1
  have f2 : Int32.toInt (x3 + 1) = Int32.toInt x3 + Int32.toInt (1 : Int32) := ta_add _ _ (by omega)
  rw [← ev1] at f2
  exact hK13 x1 x2 v1 pl_wanted pl_near ro_size ro_numbers (by omega) (by omega) (by omega) (by omega) (fun k => by have q9 := h_pl_near k; omega) (by omega) (by omega)
set_option maxHeartbeats 8000000 in
set_option maxRecDepth 200000 in
theorem ts_X9_needed_13 {post : Int32 → Int32 → (Nat → Int32) → Int32 → (Nat → Int32) → Prop} {next : Int32 → Int32 → Int32 → Int32 → (Nat → Int32) → Int32 → (Nat → Int32) → Prop} {n13 : Int} (tr_fruits : Int32) (tr_standings : Int32) (tr_x : Nat → Int32) (tr_height : Nat → Int32) (tr_ripe : Nat → Int32) (tr_foot : Nat → Int32) (tr_fork : Nat → Int32) (tr_settings : Nat → Int32) (no_apron : Int32) (no_basket : Int32) (no_ground : Int32) (no_helper : Int32) (no_today : Int32) (h_tr_fruits : 0 ≤ Int32.toInt tr_fruits ∧ Int32.toInt tr_fruits ≤ 16) (h_tr_standings : 0 ≤ Int32.toInt tr_standings ∧ Int32.toInt tr_standings ≤ 8) (h_no_today : 0 ≤ Int32.toInt no_today ∧ Int32.toInt no_today ≤ 9) (hpost : ∀ (r : Int32) (pl_wanted' : Int32) (pl_near' : Nat → Int32) (ro_size' : Int32) (ro_numbers' : Nat → Int32), (0 ≤ Int32.toInt r ∧ Int32.toInt r ≤ 255) → (0 ≤ Int32.toInt pl_wanted' ∧ Int32.toInt pl_wanted' ≤ 65535) → (∀ k : Nat, 0 ≤ Int32.toInt (pl_near' k) ∧ Int32.toInt (pl_near' k) ≤ 65535) → (1 ≤ Int32.toInt ro_size' ∧ Int32.toInt ro_size' ≤ 1) → post r pl_wanted' pl_near' ro_size' ro_numbers') (hKn : ∀ (x1 : Int32) (x2 : Int32) (x3 : Int32) (pl_wanted : Int32) (pl_near : Nat → Int32) (ro_size : Int32) (ro_numbers : Nat → Int32), (0 ≤ Int32.toInt x1 ∧ Int32.toInt x1 ≤ 255) → (0 ≤ Int32.toInt x2 ∧ Int32.toInt x2 ≤ 65535) → (0 ≤ Int32.toInt x3 ∧ Int32.toInt x3 ≤ 8) → (0 ≤ Int32.toInt pl_wanted ∧ Int32.toInt pl_wanted ≤ 65535) → (∀ k : Nat, 0 ≤ Int32.toInt (pl_near k) ∧ Int32.toInt (pl_near k) ≤ 65535) → (0 ≤ Int32.toInt ro_size ∧ Int32.toInt ro_size ≤ 16) → (8 - Int32.toInt x3 < n13) → next x1 x2 x3 pl_wanted pl_near ro_size ro_numbers) (x1 : Int32) (x2 : Int32) (x3 : Int32) (pl_wanted : Int32) (pl_near : Nat → Int32) (ro_size : Int32) (ro_numbers : Nat → Int32) (h_x1 : 0 ≤ Int32.toInt x1 ∧ Int32.toInt x1 ≤ 255) (h_x2 : 0 ≤ Int32.toInt x2 ∧ Int32.toInt x2 ≤ 65535) (h_x3 : 0 ≤ Int32.toInt x3 ∧ Int32.toInt x3 ≤ 8) (h_pl_wanted : 0 ≤ Int32.toInt pl_wanted ∧ Int32.toInt pl_wanted ≤ 65535) (h_pl_near : ∀ k : Nat, 0 ≤ Int32.toInt (pl_near k) ∧ Int32.toInt (pl_near k) ≤ 65535) (h_ro_size : 0 ≤ Int32.toInt ro_size ∧ Int32.toInt ro_size ≤ 16) (hn13 : 8 - Int32.toInt x3 ≤ n13) : ws_X9_needed_13 post next tr_fruits tr_standings tr_x tr_height tr_ripe tr_foot tr_fork tr_settings no_apron no_basket no_ground no_helper no_today x1 x2 x3 pl_wanted pl_near ro_size ro_numbers := by
  have l0 : Int32.toInt (0 : Int32) = 0 := (by decide)
  have l1 : Int32.toInt (1 : Int32) = 1 := (by decide)
  refine And.intro (fun c3 => ?_) (fun c3 => ?_)
  · skip
    have c3 := (fa_le _ _).mp c3
    refine And.intro (fun h9 => absurd h9 (by decide)) (fun _ => ?_)
    refine And.intro (t_in (by omega)) ?_
    intro v4 ev4
    have f5 : Int32.toInt (0 + 1) = Int32.toInt (0 : Int32) + Int32.toInt (1 : Int32) := ta_add _ _ (by omega)
    rw [← ev4] at f5
    exact hpost _ _ _ _ _ (by omega) (by omega) (fun k => by have q9 := h_pl_near k; omega) (by omega)
  · skip
    have c3 := mt (fa_le _ _).mpr c3
    intro v6 ev6
    have f7 := ti_shl1 8 256 tr_standings (by decide) (by omega)
    have hv6 := congrArg Int32.toInt ev6
    intro v8 ev8
    have f9 := ti_shl1 7 128 x3 (by decide) (by omega)
    have hv8 := congrArg Int32.toInt ev8
    intro v10 ev10
    have f12 : Int32.toInt (v6 - 1) = Int32.toInt v6 - Int32.toInt (1 : Int32) := ta_sub _ _ (by omega)
    have f13 := ti_andl (v6 - 1) (v8 ^^^ (-1)) (by omega)
    have hv10 := congrArg Int32.toInt ev10
    refine t_X5_reachedBy (by omega) (fun k => by have q9 := h_pl_near k; omega) (by omega) (fun r14 h_r14 => ?_)
    intro v15 ev15
    have f17 := ti_andl pl_wanted (r14 ^^^ (-1)) (by omega)
    have hv15 := congrArg Int32.toInt ev15
    refine And.intro (fun c18 => ?_) (fun c18 => ?_)
    · skip
      have c18 := (fa_eq _ _).mp c18
      exact ts_X9_needed_76 tr_fruits tr_standings tr_x tr_height tr_ripe tr_foot tr_fork tr_settings no_apron no_basket no_ground no_helper no_today h_tr_fruits h_tr_standings h_no_today hpost hKn x1 x2 x3 pl_wanted pl_near ro_size ro_numbers (by omega) (by omega) (by omega) (by omega) (fun k => by have q9 := h_pl_near k; omega) (by omega) (by omega)
    · skip
      have c18 := mt (fa_eq _ _).mpr c18
      intro v19 ev19
      have f20 := ti_or 8 256 x1 (1 <<< (x3 &&& 31)) (by decide) (by omega) (by omega)
      have hv19 := congrArg Int32.toInt ev19
      intro v21 ev21
      have f22 := ti_or 16 65536 x2 v15 (by decide) (by omega) (by omega)
      have hv21 := congrArg Int32.toInt ev21
      exact ts_X9_needed_76 tr_fruits tr_standings tr_x tr_height tr_ripe tr_foot tr_fork tr_settings no_apron no_basket no_ground no_helper no_today h_tr_fruits h_tr_standings h_no_today hpost hKn v19 v21 x3 pl_wanted pl_near ro_size ro_numbers (by omega) (by omega) (by omega) (by omega) (fun k => by have q9 := h_pl_near k; omega) (by omega) (by omega)
set_option maxHeartbeats 8000000 in
set_option maxRecDepth 200000 in
theorem tb_X9_needed_13 {post : Int32 → Int32 → (Nat → Int32) → Int32 → (Nat → Int32) → Prop} (tr_fruits : Int32) (tr_standings : Int32) (tr_x : Nat → Int32) (tr_height : Nat → Int32) (tr_ripe : Nat → Int32) (tr_foot : Nat → Int32) (tr_fork : Nat → Int32) (tr_settings : Nat → Int32) (no_apron : Int32) (no_basket : Int32) (no_ground : Int32) (no_helper : Int32) (no_today : Int32) (h_tr_fruits : 0 ≤ Int32.toInt tr_fruits ∧ Int32.toInt tr_fruits ≤ 16) (h_tr_standings : 0 ≤ Int32.toInt tr_standings ∧ Int32.toInt tr_standings ≤ 8) (h_no_today : 0 ≤ Int32.toInt no_today ∧ Int32.toInt no_today ≤ 9) (hpost : ∀ (r : Int32) (pl_wanted' : Int32) (pl_near' : Nat → Int32) (ro_size' : Int32) (ro_numbers' : Nat → Int32), (0 ≤ Int32.toInt r ∧ Int32.toInt r ≤ 255) → (0 ≤ Int32.toInt pl_wanted' ∧ Int32.toInt pl_wanted' ≤ 65535) → (∀ k : Nat, 0 ≤ Int32.toInt (pl_near' k) ∧ Int32.toInt (pl_near' k) ≤ 65535) → (1 ≤ Int32.toInt ro_size' ∧ Int32.toInt ro_size' ≤ 1) → post r pl_wanted' pl_near' ro_size' ro_numbers') : ∀ (n : Nat) (x1 : Int32) (x2 : Int32) (x3 : Int32) (pl_wanted : Int32) (pl_near : Nat → Int32) (ro_size : Int32) (ro_numbers : Nat → Int32), (0 ≤ Int32.toInt x1 ∧ Int32.toInt x1 ≤ 255) → (0 ≤ Int32.toInt x2 ∧ Int32.toInt x2 ≤ 65535) → (0 ≤ Int32.toInt x3 ∧ Int32.toInt x3 ≤ 8) → (0 ≤ Int32.toInt pl_wanted ∧ Int32.toInt pl_wanted ≤ 65535) → (∀ k : Nat, 0 ≤ Int32.toInt (pl_near k) ∧ Int32.toInt (pl_near k) ≤ 65535) → (0 ≤ Int32.toInt ro_size ∧ Int32.toInt ro_size ≤ 16) → (8 - Int32.toInt x3 < (n : Int)) → wb_X9_needed_13 post tr_fruits tr_standings tr_x tr_height tr_ripe tr_foot tr_fork tr_settings no_apron no_basket no_ground no_helper no_today n x1 x2 x3 pl_wanted pl_near ro_size ro_numbers := by
  intro n
  induction n with
  | zero =>
    intro x1 x2 x3 pl_wanted pl_near ro_size ro_numbers h_x1 h_x2 h_x3 h_pl_wanted h_pl_near h_ro_size hm
    exfalso; omega
  | succ n ih =>
    intro x1 x2 x3 pl_wanted pl_near ro_size ro_numbers h_x1 h_x2 h_x3 h_pl_wanted h_pl_near h_ro_size hm
    exact ts_X9_needed_13 tr_fruits tr_standings tr_x tr_height tr_ripe tr_foot tr_fork tr_settings no_apron no_basket no_ground no_helper no_today h_tr_fruits h_tr_standings h_no_today hpost ih x1 x2 x3 pl_wanted pl_near ro_size ro_numbers h_x1 h_x2 h_x3 h_pl_wanted h_pl_near h_ro_size (by omega)
set_option maxHeartbeats 8000000 in
set_option maxRecDepth 200000 in
theorem t_X9_needed {post : Int32 → Int32 → (Nat → Int32) → Int32 → (Nat → Int32) → Prop} {pl_wanted : Int32} {pl_near : Nat → Int32} {tr_fruits : Int32} {tr_standings : Int32} {tr_x : Nat → Int32} {tr_height : Nat → Int32} {tr_ripe : Nat → Int32} {tr_foot : Nat → Int32} {tr_fork : Nat → Int32} {tr_settings : Nat → Int32} {no_apron : Int32} {no_basket : Int32} {no_ground : Int32} {no_helper : Int32} {no_today : Int32} {ro_size : Int32} {ro_numbers : Nat → Int32} (h_pl_wanted : 0 ≤ Int32.toInt pl_wanted ∧ Int32.toInt pl_wanted ≤ 65535) (h_pl_near : ∀ k : Nat, 0 ≤ Int32.toInt (pl_near k) ∧ Int32.toInt (pl_near k) ≤ 65535) (h_tr_fruits : 0 ≤ Int32.toInt tr_fruits ∧ Int32.toInt tr_fruits ≤ 16) (h_tr_standings : 0 ≤ Int32.toInt tr_standings ∧ Int32.toInt tr_standings ≤ 8) (h_no_today : 0 ≤ Int32.toInt no_today ∧ Int32.toInt no_today ≤ 9) (h_ro_size : 0 ≤ Int32.toInt ro_size ∧ Int32.toInt ro_size ≤ 16) (hpost : ∀ (r : Int32) (pl_wanted' : Int32) (pl_near' : Nat → Int32) (ro_size' : Int32) (ro_numbers' : Nat → Int32), (0 ≤ Int32.toInt r ∧ Int32.toInt r ≤ 255) → (0 ≤ Int32.toInt pl_wanted' ∧ Int32.toInt pl_wanted' ≤ 65535) → (∀ k : Nat, 0 ≤ Int32.toInt (pl_near' k) ∧ Int32.toInt (pl_near' k) ≤ 65535) → (1 ≤ Int32.toInt ro_size' ∧ Int32.toInt ro_size' ≤ 1) → post r pl_wanted' pl_near' ro_size' ro_numbers') : wp_X9_needed post pl_wanted pl_near tr_fruits tr_standings tr_x tr_height tr_ripe tr_foot tr_fork tr_settings no_apron no_basket no_ground no_helper no_today ro_size ro_numbers := by
  have l0 : Int32.toInt (0 : Int32) = 0 := (by decide)
  refine t_X5_lookAs (by omega) (by omega) (fun k => by have q9 := h_pl_near k; omega) (by omega) (by omega) (fun pl_wanted_23 pl_near_24 h_pl_wanted_23 h_pl_near_24 => ?_)
  exact ⟨10, tb_X9_needed_13 tr_fruits tr_standings tr_x tr_height tr_ripe tr_foot tr_fork tr_settings no_apron no_basket no_ground no_helper no_today h_tr_fruits h_tr_standings h_no_today hpost _ 0 0 0 pl_wanted_23 pl_near_24 ro_size ro_numbers (by omega) (by omega) (by omega) (by omega) (fun k => by have q9 := h_pl_near_24 k; omega) (by omega) (by omega)⟩
set_option maxHeartbeats 8000000 in
set_option maxRecDepth 200000 in
theorem ts_X9_isFewer_23 {post : Int32 → Prop} (hpost : ∀ (r : Int32) , (0 ≤ Int32.toInt r ∧ Int32.toInt r ≤ 1) → post r) : ws_X9_isFewer_23 post := by
  have l0 : Int32.toInt (1 : Int32) = 1 := (by decide)
  exact hpost _ (by omega)
set_option maxHeartbeats 8000000 in
set_option maxRecDepth 200000 in
theorem t_X9_isFewer {post : Int32 → Prop} {p0 : Int32} {p1 : Int32} (h_p0 : 0 ≤ Int32.toInt p0 ∧ Int32.toInt p0 ≤ 255) (h_p1 : 0 ≤ Int32.toInt p1 ∧ Int32.toInt p1 ≤ 255) (hpost : ∀ (r : Int32) , (0 ≤ Int32.toInt r ∧ Int32.toInt r ≤ 1) → post r) : wp_X9_isFewer post p0 p1 := by
  have l0 : Int32.toInt (0 : Int32) = 0 := (by decide)
  have l1 : Int32.toInt (1431655765 : Int32) = 1431655765 := (by decide)
  have l2 : Int32.toInt (252645135 : Int32) = 252645135 := (by decide)
  have l3 : Int32.toInt (63 : Int32) = 63 := (by decide)
  have l4 : Int32.toInt (858993459 : Int32) = 858993459 := (by decide)
  intro v1 ev1
  intro v2 ev2
  have f4 := ti_andr v1 1431655765 (by omega)
  have f3 : Int32.toInt (p0 - (v1 &&& 1431655765)) = Int32.toInt p0 - Int32.toInt (v1 &&& 1431655765) := ta_sub _ _ (by omega)
  rw [← ev2] at f3
  intro v5 ev5
  have f6 := ti_andr v2 858993459 (by omega)
  have hv5 := congrArg Int32.toInt ev5
  intro v7 ev7
  intro v8 ev8
  have f10 := ti_andr v7 858993459 (by omega)
  have f9 : Int32.toInt (v5 + (v7 &&& 858993459)) = Int32.toInt v5 + Int32.toInt (v7 &&& 858993459) := ta_add _ _ (by omega)
  rw [← ev8] at f9
  intro v11 ev11
  have hv11 := congrArg Int32.toInt ev11
  intro v13 ev13
  have f14 := ti_andr v11 252645135 (by omega)
  have hv13 := congrArg Int32.toInt ev13
  intro v15 ev15
  have hv15 := congrArg Int32.toInt ev15
  intro v17 ev17
  have hv17 := congrArg Int32.toInt ev17
  intro v19 ev19
  intro v20 ev20
  have f22 := ti_andr v19 1431655765 (by omega)
  have f21 : Int32.toInt (p1 - (v19 &&& 1431655765)) = Int32.toInt p1 - Int32.toInt (v19 &&& 1431655765) := ta_sub _ _ (by omega)
  rw [← ev20] at f21
  intro v23 ev23
  have f24 := ti_andr v20 858993459 (by omega)
  have hv23 := congrArg Int32.toInt ev23
  intro v25 ev25
  intro v26 ev26
  have f28 := ti_andr v25 858993459 (by omega)
  have f27 : Int32.toInt (v23 + (v25 &&& 858993459)) = Int32.toInt v23 + Int32.toInt (v25 &&& 858993459) := ta_add _ _ (by omega)
  rw [← ev26] at f27
  intro v29 ev29
  have hv29 := congrArg Int32.toInt ev29
  intro v31 ev31
  have f32 := ti_andr v29 252645135 (by omega)
  have hv31 := congrArg Int32.toInt ev31
  intro v33 ev33
  have hv33 := congrArg Int32.toInt ev33
  intro v35 ev35
  have hv35 := congrArg Int32.toInt ev35
  intro v37 ev37
  have f39 := ti_andr v17 63 (by omega)
  have f40 := ti_andr v35 63 (by omega)
  have f38 : Int32.toInt ((v17 &&& 63) - (v35 &&& 63)) = Int32.toInt (v17 &&& 63) - Int32.toInt (v35 &&& 63) := ta_sub _ _ (by omega)
  rw [← ev37] at f38
  refine And.intro (fun c41 => ?_) (fun c41 => ?_)
  · skip
    have c41 := (fa_lt _ _).mp c41
    exact ts_X9_isFewer_23 hpost 
  · skip
    have c41 := mt (fa_lt _ _).mpr c41
    refine And.intro (fun c42 => ?_) (fun c42 => ?_)
    · skip
      have c42 := mt (fa_eq _ _).mpr c42
      exact hpost _ (by omega)
    · skip
      have c42 := (fa_eq _ _).mp c42
      refine And.intro (fun c43 => ?_) (fun c43 => ?_)
      · skip
        have c43 := (fa_le _ _).mp c43
        exact hpost _ (by omega)
      · skip
        have c43 := mt (fa_le _ _).mpr c43
        exact ts_X9_isFewer_23 hpost 
set_option maxHeartbeats 8000000 in
set_option maxRecDepth 200000 in
theorem ts_X9_birds_92 {post : Int32 → Int32 → (Nat → Int32) → Int32 → (Nat → Int32) → Prop} {K33 : Int32 → Int32 → Int32 → Int32 → Int32 → (Nat → Int32) → Int32 → (Nat → Int32) → Prop} {n33 : Int} (tr_fruits : Int32) (tr_standings : Int32) (tr_x : Nat → Int32) (tr_height : Nat → Int32) (tr_worth : Nat → Int32) (tr_ripe : Nat → Int32) (tr_foot : Nat → Int32) (tr_fork : Nat → Int32) (tr_settings : Nat → Int32) (no_apron : Int32) (no_basket : Int32) (no_ground : Int32) (no_bruised : Int32) (no_helper : Int32) (no_today : Int32) (h_tr_fruits : 0 ≤ Int32.toInt tr_fruits ∧ Int32.toInt tr_fruits ≤ 16) (h_tr_standings : 0 ≤ Int32.toInt tr_standings ∧ Int32.toInt tr_standings ≤ 8) (h_no_today : 0 ≤ Int32.toInt no_today ∧ Int32.toInt no_today ≤ 9) (hpost : ∀ (r : Int32) (pl_wanted' : Int32) (pl_near' : Nat → Int32) (ro_size' : Int32) (ro_numbers' : Nat → Int32), (0 ≤ Int32.toInt pl_wanted' ∧ Int32.toInt pl_wanted' ≤ 65535) → (∀ k : Nat, 0 ≤ Int32.toInt (pl_near' k) ∧ Int32.toInt (pl_near' k) ≤ 65535) → (0 ≤ Int32.toInt ro_size' ∧ Int32.toInt ro_size' ≤ 16) → post r pl_wanted' pl_near' ro_size' ro_numbers') (hK33 : ∀ (x1 : Int32) (x2 : Int32) (x3 : Int32) (x4 : Int32) (pl_wanted : Int32) (pl_near : Nat → Int32) (ro_size : Int32) (ro_numbers : Nat → Int32), (0 ≤ Int32.toInt x1 ∧ Int32.toInt x1 ≤ 8) → (0 ≤ Int32.toInt x2 ∧ Int32.toInt x2 ≤ 255) → (1 ≤ Int32.toInt x4 ∧ Int32.toInt x4 ≤ 256) → (0 ≤ Int32.toInt pl_wanted ∧ Int32.toInt pl_wanted ≤ 65535) → (∀ k : Nat, 0 ≤ Int32.toInt (pl_near k) ∧ Int32.toInt (pl_near k) ≤ 65535) → (0 ≤ Int32.toInt ro_size ∧ Int32.toInt ro_size ≤ 16) → (256 - Int32.toInt x4 < n33) → K33 x1 x2 x3 x4 pl_wanted pl_near ro_size ro_numbers) (x1 : Int32) (x2 : Int32) (x3 : Int32) (x4 : Int32) (pl_wanted : Int32) (pl_near : Nat → Int32) (ro_size : Int32) (ro_numbers : Nat → Int32) (h_x1 : 0 ≤ Int32.toInt x1 ∧ Int32.toInt x1 ≤ 8) (h_x2 : 0 ≤ Int32.toInt x2 ∧ Int32.toInt x2 ≤ 255) (h_x4 : 1 ≤ Int32.toInt x4 ∧ Int32.toInt x4 ≤ 255) (h_pl_wanted : 0 ≤ Int32.toInt pl_wanted ∧ Int32.toInt pl_wanted ≤ 65535) (h_pl_near : ∀ k : Nat, 0 ≤ Int32.toInt (pl_near k) ∧ Int32.toInt (pl_near k) ≤ 65535) (h_ro_size : 0 ≤ Int32.toInt ro_size ∧ Int32.toInt ro_size ≤ 16) (hn33 : 256 - Int32.toInt x4 ≤ n33) : ws_X9_birds_92 post K33 tr_fruits tr_standings tr_x tr_height tr_worth tr_ripe tr_foot tr_fork tr_settings no_apron no_basket no_ground no_bruised no_helper no_today x1 x2 x3 x4 pl_wanted pl_near ro_size ro_numbers := by
  have l0 : Int32.toInt (1 : Int32) = 1 := (by decide)
  intro v1 ev1
  have f2 : Int32.toInt (x4 + 1) = Int32.toInt x4 + Int32.toInt (1 : Int32) := ta_add _ _ (by omega)
  rw [← ev1] at f2
  have f3 := tp_r x3
  exact hK33 x1 x2 x3 v1 pl_wanted pl_near ro_size ro_numbers (by omega) (by omega) (by omega) (by omega) (fun k => by have q9 := h_pl_near k; omega) (by omega) (by omega)
set_option maxHeartbeats 8000000 in
set_option maxRecDepth 200000 in
theorem ts_X9_birds_86 {post : Int32 → Int32 → (Nat → Int32) → Int32 → (Nat → Int32) → Prop} {K33 : Int32 → Int32 → Int32 → Int32 → Int32 → (Nat → Int32) → Int32 → (Nat → Int32) → Prop} {n33 : Int} (tr_fruits : Int32) (tr_standings : Int32) (tr_x : Nat → Int32) (tr_height : Nat → Int32) (tr_worth : Nat → Int32) (tr_ripe : Nat → Int32) (tr_foot : Nat → Int32) (tr_fork : Nat → Int32) (tr_settings : Nat → Int32) (no_apron : Int32) (no_basket : Int32) (no_ground : Int32) (no_bruised : Int32) (no_helper : Int32) (no_today : Int32) (h_tr_fruits : 0 ≤ Int32.toInt tr_fruits ∧ Int32.toInt tr_fruits ≤ 16) (h_tr_standings : 0 ≤ Int32.toInt tr_standings ∧ Int32.toInt tr_standings ≤ 8) (h_no_today : 0 ≤ Int32.toInt no_today ∧ Int32.toInt no_today ≤ 9) (hpost : ∀ (r : Int32) (pl_wanted' : Int32) (pl_near' : Nat → Int32) (ro_size' : Int32) (ro_numbers' : Nat → Int32), (0 ≤ Int32.toInt pl_wanted' ∧ Int32.toInt pl_wanted' ≤ 65535) → (∀ k : Nat, 0 ≤ Int32.toInt (pl_near' k) ∧ Int32.toInt (pl_near' k) ≤ 65535) → (0 ≤ Int32.toInt ro_size' ∧ Int32.toInt ro_size' ≤ 16) → post r pl_wanted' pl_near' ro_size' ro_numbers') (hK33 : ∀ (x1 : Int32) (x2 : Int32) (x3 : Int32) (x4 : Int32) (pl_wanted : Int32) (pl_near : Nat → Int32) (ro_size : Int32) (ro_numbers : Nat → Int32), (0 ≤ Int32.toInt x1 ∧ Int32.toInt x1 ≤ 8) → (0 ≤ Int32.toInt x2 ∧ Int32.toInt x2 ≤ 255) → (1 ≤ Int32.toInt x4 ∧ Int32.toInt x4 ≤ 256) → (0 ≤ Int32.toInt pl_wanted ∧ Int32.toInt pl_wanted ≤ 65535) → (∀ k : Nat, 0 ≤ Int32.toInt (pl_near k) ∧ Int32.toInt (pl_near k) ≤ 65535) → (0 ≤ Int32.toInt ro_size ∧ Int32.toInt ro_size ≤ 16) → (256 - Int32.toInt x4 < n33) → K33 x1 x2 x3 x4 pl_wanted pl_near ro_size ro_numbers) (x1 : Int32) (x4 : Int32) (x5 : Int32) (pl_wanted : Int32) (pl_near : Nat → Int32) (ro_size : Int32) (ro_numbers : Nat → Int32) (h_x1 : 0 ≤ Int32.toInt x1 ∧ Int32.toInt x1 ≤ 8) (h_x4 : 1 ≤ Int32.toInt x4 ∧ Int32.toInt x4 ≤ 255) (h_pl_wanted : 0 ≤ Int32.toInt pl_wanted ∧ Int32.toInt pl_wanted ≤ 65535) (h_pl_near : ∀ k : Nat, 0 ≤ Int32.toInt (pl_near k) ∧ Int32.toInt (pl_near k) ≤ 65535) (h_ro_size : 0 ≤ Int32.toInt ro_size ∧ Int32.toInt ro_size ≤ 16) (hn33 : 256 - Int32.toInt x4 ≤ n33) : ws_X9_birds_86 post K33 tr_fruits tr_standings tr_x tr_height tr_worth tr_ripe tr_foot tr_fork tr_settings no_apron no_basket no_ground no_bruised no_helper no_today x1 x4 x5 pl_wanted pl_near ro_size ro_numbers := by
  have f4 := tp_r x5
  exact ts_X9_birds_92 tr_fruits tr_standings tr_x tr_height tr_worth tr_ripe tr_foot tr_fork tr_settings no_apron no_basket no_ground no_bruised no_helper no_today h_tr_fruits h_tr_standings h_no_today hpost hK33 x1 x4 x5 x4 pl_wanted pl_near ro_size ro_numbers (by omega) (by omega) (by omega) (by omega) (fun k => by have q9 := h_pl_near k; omega) (by omega) (by omega)
set_option maxHeartbeats 8000000 in
set_option maxRecDepth 200000 in
theorem ts_X9_birds_33 {post : Int32 → Int32 → (Nat → Int32) → Int32 → (Nat → Int32) → Prop} {next : Int32 → Int32 → Int32 → Int32 → Int32 → (Nat → Int32) → Int32 → (Nat → Int32) → Prop} {n33 : Int} (tr_fruits : Int32) (tr_standings : Int32) (tr_x : Nat → Int32) (tr_height : Nat → Int32) (tr_worth : Nat → Int32) (tr_ripe : Nat → Int32) (tr_foot : Nat → Int32) (tr_fork : Nat → Int32) (tr_settings : Nat → Int32) (no_apron : Int32) (no_basket : Int32) (no_ground : Int32) (no_bruised : Int32) (no_helper : Int32) (no_today : Int32) (h_tr_fruits : 0 ≤ Int32.toInt tr_fruits ∧ Int32.toInt tr_fruits ≤ 16) (h_tr_standings : 0 ≤ Int32.toInt tr_standings ∧ Int32.toInt tr_standings ≤ 8) (h_no_today : 0 ≤ Int32.toInt no_today ∧ Int32.toInt no_today ≤ 9) (hpost : ∀ (r : Int32) (pl_wanted' : Int32) (pl_near' : Nat → Int32) (ro_size' : Int32) (ro_numbers' : Nat → Int32), (0 ≤ Int32.toInt pl_wanted' ∧ Int32.toInt pl_wanted' ≤ 65535) → (∀ k : Nat, 0 ≤ Int32.toInt (pl_near' k) ∧ Int32.toInt (pl_near' k) ≤ 65535) → (0 ≤ Int32.toInt ro_size' ∧ Int32.toInt ro_size' ≤ 16) → post r pl_wanted' pl_near' ro_size' ro_numbers') (hKn : ∀ (x1 : Int32) (x2 : Int32) (x3 : Int32) (x4 : Int32) (pl_wanted : Int32) (pl_near : Nat → Int32) (ro_size : Int32) (ro_numbers : Nat → Int32), (0 ≤ Int32.toInt x1 ∧ Int32.toInt x1 ≤ 8) → (0 ≤ Int32.toInt x2 ∧ Int32.toInt x2 ≤ 255) → (1 ≤ Int32.toInt x4 ∧ Int32.toInt x4 ≤ 256) → (0 ≤ Int32.toInt pl_wanted ∧ Int32.toInt pl_wanted ≤ 65535) → (∀ k : Nat, 0 ≤ Int32.toInt (pl_near k) ∧ Int32.toInt (pl_near k) ≤ 65535) → (0 ≤ Int32.toInt ro_size ∧ Int32.toInt ro_size ≤ 16) → (256 - Int32.toInt x4 < n33) → next x1 x2 x3 x4 pl_wanted pl_near ro_size ro_numbers) (x1 : Int32) (x2 : Int32) (x3 : Int32) (x4 : Int32) (pl_wanted : Int32) (pl_near : Nat → Int32) (ro_size : Int32) (ro_numbers : Nat → Int32) (h_x1 : 0 ≤ Int32.toInt x1 ∧ Int32.toInt x1 ≤ 8) (h_x2 : 0 ≤ Int32.toInt x2 ∧ Int32.toInt x2 ≤ 255) (h_x4 : 1 ≤ Int32.toInt x4 ∧ Int32.toInt x4 ≤ 256) (h_pl_wanted : 0 ≤ Int32.toInt pl_wanted ∧ Int32.toInt pl_wanted ≤ 65535) (h_pl_near : ∀ k : Nat, 0 ≤ Int32.toInt (pl_near k) ∧ Int32.toInt (pl_near k) ≤ 65535) (h_ro_size : 0 ≤ Int32.toInt ro_size ∧ Int32.toInt ro_size ≤ 16) (hn33 : 256 - Int32.toInt x4 ≤ n33) : ws_X9_birds_33 post next tr_fruits tr_standings tr_x tr_height tr_worth tr_ripe tr_foot tr_fork tr_settings no_apron no_basket no_ground no_bruised no_helper no_today x1 x2 x3 x4 pl_wanted pl_near ro_size ro_numbers := by
  have l0 : Int32.toInt (0 : Int32) = 0 := (by decide)
  have l1 : Int32.toInt (1 : Int32) = 1 := (by decide)
  have l2 : Int32.toInt (1431655765 : Int32) = 1431655765 := (by decide)
  have l3 : Int32.toInt (16 : Int32) = 16 := (by decide)
  have l4 : Int32.toInt (252645135 : Int32) = 252645135 := (by decide)
  have l5 : Int32.toInt (63 : Int32) = 63 := (by decide)
  have l6 : Int32.toInt (858993459 : Int32) = 858993459 := (by decide)
  intro v5 ev5
  have f6 := ti_shl1 8 256 tr_standings (by decide) (by omega)
  have hv5 := congrArg Int32.toInt ev5
  have f8 : Int32.toInt (v5 - 1) = Int32.toInt v5 - Int32.toInt (1 : Int32) := ta_sub _ _ (by omega)
  refine And.intro (fun c7 => ?_) (fun c7 => ?_)
  · skip
    have c7 := (fa_lt _ _).mp c7
    refine t_X5_reachedBy (by omega) (fun k => by have q9 := h_pl_near k; omega) (by omega) (fun r9 h_r9 => ?_)
    intro v10 ev10
    have f12 := ti_andl pl_wanted (r9 ^^^ (-1)) (by omega)
    have hv10 := congrArg Int32.toInt ev10
    refine And.intro (fun h9 => absurd h9 (by decide)) (fun _ => ?_)
    refine And.intro (t_in (by omega)) ?_
    intro v13 ev13
    have f14 : Int32.toInt (0 + 1) = Int32.toInt (0 : Int32) + Int32.toInt (1 : Int32) := ta_add _ _ (by omega)
    rw [← ev13] at f14
    refine And.intro (fun c15 => ?_) (fun c15 => ?_)
    · skip
      have c15 := (fa_le _ _).mp c15
      exfalso; omega
    · skip
      have c15 := mt (fa_le _ _).mpr c15
      refine And.intro (t_in (by omega)) ?_
      intro v16 ev16
      have f17 : Int32.toInt (v13 + 1) = Int32.toInt v13 + Int32.toInt (1 : Int32) := ta_add _ _ (by omega)
      rw [← ev16] at f17
      exact hpost _ _ _ _ _ (by omega) (fun k => by have q9 := h_pl_near k; omega) (by omega)
  · skip
    have c7 := mt (fa_lt _ _).mpr c7
    intro v18 ev18
    intro v19 ev19
    have f21 := ti_andr v18 1431655765 (by omega)
    have f20 : Int32.toInt (x4 - (v18 &&& 1431655765)) = Int32.toInt x4 - Int32.toInt (v18 &&& 1431655765) := ta_sub _ _ (by omega)
    rw [← ev19] at f20
    intro v22 ev22
    have f23 := ti_andr v19 858993459 (by omega)
    have hv22 := congrArg Int32.toInt ev22
    intro v24 ev24
    intro v25 ev25
    have f27 := ti_andr v24 858993459 (by omega)
    have f26 : Int32.toInt (v22 + (v24 &&& 858993459)) = Int32.toInt v22 + Int32.toInt (v24 &&& 858993459) := ta_add _ _ (by omega)
    rw [← ev25] at f26
    intro v28 ev28
    have hv28 := congrArg Int32.toInt ev28
    intro v30 ev30
    have f31 := ti_andr v28 252645135 (by omega)
    have hv30 := congrArg Int32.toInt ev30
    intro v32 ev32
    have hv32 := congrArg Int32.toInt ev32
    intro v34 ev34
    have hv34 := congrArg Int32.toInt ev34
    have f37 := ti_andr v34 63 (by omega)
    refine And.intro (fun c36 => ?_) (fun c36 => ?_)
    · skip
      have c36 := (fa_lt _ _).mp c36
      have f38 := tp_r x3
      exact ts_X9_birds_92 tr_fruits tr_standings tr_x tr_height tr_worth tr_ripe tr_foot tr_fork tr_settings no_apron no_basket no_ground no_bruised no_helper no_today h_tr_fruits h_tr_standings h_no_today hpost hKn x1 x2 x3 x4 pl_wanted pl_near ro_size ro_numbers (by omega) (by omega) (by omega) (by omega) (fun k => by have q9 := h_pl_near k; omega) (by omega) (by omega)
    · skip
      have c36 := mt (fa_lt _ _).mpr c36
      refine t_X5_reachedBy (by omega) (fun k => by have q9 := h_pl_near k; omega) (by omega) (fun r39 h_r39 => ?_)
      intro v40 ev40
      have f42 := ti_andl pl_wanted (r39 ^^^ (-1)) (by omega)
      have hv40 := congrArg Int32.toInt ev40
      refine t_X3_worthOf (by omega) (fun r43 => ?_)
      have f45 := tp_r r43
      have f46 := tp_r x3
      refine And.intro (fun c44 => ?_) (fun c44 => ?_)
      · skip
        have c44 := (fa_lt _ _).mp c44
        exact ts_X9_birds_86 tr_fruits tr_standings tr_x tr_height tr_worth tr_ripe tr_foot tr_fork tr_settings no_apron no_basket no_ground no_bruised no_helper no_today h_tr_fruits h_tr_standings h_no_today hpost hKn x1 x4 r43 pl_wanted pl_near ro_size ro_numbers (by omega) (by omega) (by omega) (fun k => by have q9 := h_pl_near k; omega) (by omega) (by omega)
      · skip
        have c44 := mt (fa_lt _ _).mpr c44
        refine And.intro (fun c47 => ?_) (fun c47 => ?_)
        · skip
          have c47 := mt (fa_eq _ _).mpr c47
          exact ts_X9_birds_92 tr_fruits tr_standings tr_x tr_height tr_worth tr_ripe tr_foot tr_fork tr_settings no_apron no_basket no_ground no_bruised no_helper no_today h_tr_fruits h_tr_standings h_no_today hpost hKn x1 x2 x3 x4 pl_wanted pl_near ro_size ro_numbers (by omega) (by omega) (by omega) (by omega) (fun k => by have q9 := h_pl_near k; omega) (by omega) (by omega)
        · skip
          have c47 := (fa_eq _ _).mp c47
          refine t_X9_isFewer (by omega) (by omega) (fun r48 h_r48 => ?_)
          refine And.intro (fun c49 => ?_) (fun c49 => ?_)
          · skip
            have c49 := (fa_eq _ _).mp c49
            exact ts_X9_birds_92 tr_fruits tr_standings tr_x tr_height tr_worth tr_ripe tr_foot tr_fork tr_settings no_apron no_basket no_ground no_bruised no_helper no_today h_tr_fruits h_tr_standings h_no_today hpost hKn x1 x2 x3 x4 pl_wanted pl_near ro_size ro_numbers (by omega) (by omega) (by omega) (by omega) (fun k => by have q9 := h_pl_near k; omega) (by omega) (by omega)
          · skip
            have c49 := mt (fa_eq _ _).mpr c49
            exact ts_X9_birds_86 tr_fruits tr_standings tr_x tr_height tr_worth tr_ripe tr_foot tr_fork tr_settings no_apron no_basket no_ground no_bruised no_helper no_today h_tr_fruits h_tr_standings h_no_today hpost hKn x1 x4 r43 pl_wanted pl_near ro_size ro_numbers (by omega) (by omega) (by omega) (fun k => by have q9 := h_pl_near k; omega) (by omega) (by omega)
set_option maxHeartbeats 8000000 in
set_option maxRecDepth 200000 in
theorem tb_X9_birds_33 {post : Int32 → Int32 → (Nat → Int32) → Int32 → (Nat → Int32) → Prop} (tr_fruits : Int32) (tr_standings : Int32) (tr_x : Nat → Int32) (tr_height : Nat → Int32) (tr_worth : Nat → Int32) (tr_ripe : Nat → Int32) (tr_foot : Nat → Int32) (tr_fork : Nat → Int32) (tr_settings : Nat → Int32) (no_apron : Int32) (no_basket : Int32) (no_ground : Int32) (no_bruised : Int32) (no_helper : Int32) (no_today : Int32) (h_tr_fruits : 0 ≤ Int32.toInt tr_fruits ∧ Int32.toInt tr_fruits ≤ 16) (h_tr_standings : 0 ≤ Int32.toInt tr_standings ∧ Int32.toInt tr_standings ≤ 8) (h_no_today : 0 ≤ Int32.toInt no_today ∧ Int32.toInt no_today ≤ 9) (hpost : ∀ (r : Int32) (pl_wanted' : Int32) (pl_near' : Nat → Int32) (ro_size' : Int32) (ro_numbers' : Nat → Int32), (0 ≤ Int32.toInt pl_wanted' ∧ Int32.toInt pl_wanted' ≤ 65535) → (∀ k : Nat, 0 ≤ Int32.toInt (pl_near' k) ∧ Int32.toInt (pl_near' k) ≤ 65535) → (0 ≤ Int32.toInt ro_size' ∧ Int32.toInt ro_size' ≤ 16) → post r pl_wanted' pl_near' ro_size' ro_numbers') : ∀ (n : Nat) (x1 : Int32) (x2 : Int32) (x3 : Int32) (x4 : Int32) (pl_wanted : Int32) (pl_near : Nat → Int32) (ro_size : Int32) (ro_numbers : Nat → Int32), (0 ≤ Int32.toInt x1 ∧ Int32.toInt x1 ≤ 8) → (0 ≤ Int32.toInt x2 ∧ Int32.toInt x2 ≤ 255) → (1 ≤ Int32.toInt x4 ∧ Int32.toInt x4 ≤ 256) → (0 ≤ Int32.toInt pl_wanted ∧ Int32.toInt pl_wanted ≤ 65535) → (∀ k : Nat, 0 ≤ Int32.toInt (pl_near k) ∧ Int32.toInt (pl_near k) ≤ 65535) → (0 ≤ Int32.toInt ro_size ∧ Int32.toInt ro_size ≤ 16) → (256 - Int32.toInt x4 < (n : Int)) → wb_X9_birds_33 post tr_fruits tr_standings tr_x tr_height tr_worth tr_ripe tr_foot tr_fork tr_settings no_apron no_basket no_ground no_bruised no_helper no_today n x1 x2 x3 x4 pl_wanted pl_near ro_size ro_numbers := by
  intro n
  induction n with
  | zero =>
    intro x1 x2 x3 x4 pl_wanted pl_near ro_size ro_numbers h_x1 h_x2 h_x4 h_pl_wanted h_pl_near h_ro_size hm
    exfalso; omega
  | succ n ih =>
    intro x1 x2 x3 x4 pl_wanted pl_near ro_size ro_numbers h_x1 h_x2 h_x4 h_pl_wanted h_pl_near h_ro_size hm
    exact ts_X9_birds_33 tr_fruits tr_standings tr_x tr_height tr_worth tr_ripe tr_foot tr_fork tr_settings no_apron no_basket no_ground no_bruised no_helper no_today h_tr_fruits h_tr_standings h_no_today hpost ih x1 x2 x3 x4 pl_wanted pl_near ro_size ro_numbers h_x1 h_x2 h_x4 h_pl_wanted h_pl_near h_ro_size (by omega)
set_option maxHeartbeats 8000000 in
set_option maxRecDepth 200000 in
theorem t_X9_birds {post : Int32 → Int32 → (Nat → Int32) → Int32 → (Nat → Int32) → Prop} {p0 : Int32} {pl_wanted : Int32} {pl_near : Nat → Int32} {tr_fruits : Int32} {tr_standings : Int32} {tr_x : Nat → Int32} {tr_height : Nat → Int32} {tr_worth : Nat → Int32} {tr_ripe : Nat → Int32} {tr_foot : Nat → Int32} {tr_fork : Nat → Int32} {tr_settings : Nat → Int32} {no_apron : Int32} {no_basket : Int32} {no_ground : Int32} {no_bruised : Int32} {no_helper : Int32} {no_today : Int32} {ro_size : Int32} {ro_numbers : Nat → Int32} (h_pl_wanted : 0 ≤ Int32.toInt pl_wanted ∧ Int32.toInt pl_wanted ≤ 65535) (h_pl_near : ∀ k : Nat, 0 ≤ Int32.toInt (pl_near k) ∧ Int32.toInt (pl_near k) ≤ 65535) (h_tr_fruits : 0 ≤ Int32.toInt tr_fruits ∧ Int32.toInt tr_fruits ≤ 16) (h_tr_standings : 0 ≤ Int32.toInt tr_standings ∧ Int32.toInt tr_standings ≤ 8) (h_no_today : 0 ≤ Int32.toInt no_today ∧ Int32.toInt no_today ≤ 9) (h_ro_size : 0 ≤ Int32.toInt ro_size ∧ Int32.toInt ro_size ≤ 16) (hpost : ∀ (r : Int32) (pl_wanted' : Int32) (pl_near' : Nat → Int32) (ro_size' : Int32) (ro_numbers' : Nat → Int32), (0 ≤ Int32.toInt pl_wanted' ∧ Int32.toInt pl_wanted' ≤ 65535) → (∀ k : Nat, 0 ≤ Int32.toInt (pl_near' k) ∧ Int32.toInt (pl_near' k) ≤ 65535) → (0 ≤ Int32.toInt ro_size' ∧ Int32.toInt ro_size' ≤ 16) → post r pl_wanted' pl_near' ro_size' ro_numbers') : wp_X9_birds post p0 pl_wanted pl_near tr_fruits tr_standings tr_x tr_height tr_worth tr_ripe tr_foot tr_fork tr_settings no_apron no_basket no_ground no_bruised no_helper no_today ro_size ro_numbers := by
  have l0 : Int32.toInt (0 : Int32) = 0 := (by decide)
  have l1 : Int32.toInt (1 : Int32) = 1 := (by decide)
  have l2 : Int32.toInt (8 : Int32) = 8 := (by decide)
  have f51 := tp_r p0
  refine And.intro (fun c50 => ?_) (fun c50 => ?_)
  · skip
    have c50 := (fa_lt _ _).mp c50
    exact hpost _ _ _ _ _ (by omega) (fun k => by have q9 := h_pl_near k; omega) (by omega)
  · skip
    have c50 := mt (fa_lt _ _).mpr c50
    refine And.intro (fun c52 => ?_) (fun c52 => ?_)
    · skip
      have c52 := (fa_le _ _).mp c52
      refine t_X5_lookAs (by omega) (by omega) (fun k => by have q9 := h_pl_near k; omega) (by omega) (by omega) (fun pl_wanted_53 pl_near_54 h_pl_wanted_53 h_pl_near_54 => ?_)
      refine t_X5_reachedBy (by omega) (fun k => by have q9 := h_pl_near_54 k; omega) (by omega) (fun r55 h_r55 => ?_)
      intro v56 ev56
      have f58 := ti_andl pl_wanted_53 (r55 ^^^ (-1)) (by omega)
      have hv56 := congrArg Int32.toInt ev56
      refine t_X3_worthOf (by omega) (fun r59 => ?_)
      have f60 := tp_r r59
      exact ⟨257, tb_X9_birds_33 tr_fruits tr_standings tr_x tr_height tr_worth tr_ripe tr_foot tr_fork tr_settings no_apron no_basket no_ground no_bruised no_helper no_today h_tr_fruits h_tr_standings h_no_today hpost _ p0 0 r59 1 pl_wanted_53 pl_near_54 ro_size ro_numbers (by omega) (by omega) (by omega) (by omega) (fun k => by have q9 := h_pl_near_54 k; omega) (by omega) (by omega)⟩
    · skip
      have c52 := mt (fa_le _ _).mpr c52
      exact hpost _ _ _ _ _ (by omega) (fun k => by have q9 := h_pl_near k; omega) (by omega)
