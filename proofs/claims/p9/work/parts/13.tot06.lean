set_option maxHeartbeats 8000000 in
set_option maxRecDepth 200000 in
theorem ts_X9_pays_104 {post : Int32 → Int32 → (Nat → Int32) → (Nat → Int32) → (Nat → Int32) → Int32 → (Nat → Int32) → Prop} {K66 : Int32 → Int32 → Int32 → Int32 → Int32 → Int32 → (Nat → Int32) → (Nat → Int32) → (Nat → Int32) → Int32 → (Nat → Int32) → Prop} {n66 : Int} (tr_fruits : Int32) (tr_standings : Int32) (tr_x : Nat → Int32) (tr_height : Nat → Int32) (tr_worth : Nat → Int32) (tr_ripe : Nat → Int32) (tr_foot : Nat → Int32) (tr_fork : Nat → Int32) (tr_settings : Nat → Int32) (no_apron : Int32) (no_basket : Int32) (no_ground : Int32) (no_bruised : Int32) (no_ladder : Int32) (no_helper : Int32) (no_today : Int32) (ru_length : Int32) (ru_program : Nat → Int32) (h_tr_fruits : 0 ≤ Int32.toInt tr_fruits ∧ Int32.toInt tr_fruits ≤ 16) (h_tr_standings : 0 ≤ Int32.toInt tr_standings ∧ Int32.toInt tr_standings ≤ 8) (h_no_ladder : -1 ≤ Int32.toInt no_ladder ∧ Int32.toInt no_ladder ≤ 7) (h_no_today : 0 ≤ Int32.toInt no_today ∧ Int32.toInt no_today ≤ 9) (h_ru_length : 0 ≤ Int32.toInt ru_length ∧ Int32.toInt ru_length ≤ 40) (hpost : ∀ (r : Int32) (pl_wanted' : Int32) (pl_near' : Nat → Int32) (ru_given' : Nat → Int32) (ru_stack' : Nat → Int32) (ro_size' : Int32) (ro_numbers' : Nat → Int32), (0 ≤ Int32.toInt pl_wanted' ∧ Int32.toInt pl_wanted' ≤ 65535) → (∀ k : Nat, 0 ≤ Int32.toInt (pl_near' k) ∧ Int32.toInt (pl_near' k) ≤ 65535) → (0 ≤ Int32.toInt ro_size' ∧ Int32.toInt ro_size' ≤ 16) → post r pl_wanted' pl_near' ru_given' ru_stack' ro_size' ro_numbers') (hK66 : ∀ (x1 : Int32) (x2 : Int32) (x3 : Int32) (x4 : Int32) (x5 : Int32) (pl_wanted : Int32) (pl_near : Nat → Int32) (ru_given : Nat → Int32) (ru_stack : Nat → Int32) (ro_size : Int32) (ro_numbers : Nat → Int32), (0 ≤ Int32.toInt x1 ∧ Int32.toInt x1 ≤ 7) → (0 ≤ Int32.toInt x2 ∧ Int32.toInt x2 ≤ 65535) → (0 ≤ Int32.toInt x5 ∧ Int32.toInt x5 ≤ 16) → (0 ≤ Int32.toInt pl_wanted ∧ Int32.toInt pl_wanted ≤ 65535) → (∀ k : Nat, 0 ≤ Int32.toInt (pl_near k) ∧ Int32.toInt (pl_near k) ≤ 65535) → (0 ≤ Int32.toInt ro_size ∧ Int32.toInt ro_size ≤ 16) → (16 - Int32.toInt x5 < n66) → K66 x1 x2 x3 x4 x5 pl_wanted pl_near ru_given ru_stack ro_size ro_numbers) (x1 : Int32) (x2 : Int32) (x3 : Int32) (x4 : Int32) (x5 : Int32) (pl_wanted : Int32) (pl_near : Nat → Int32) (ru_given : Nat → Int32) (ru_stack : Nat → Int32) (ro_size : Int32) (ro_numbers : Nat → Int32) (h_x1 : 0 ≤ Int32.toInt x1 ∧ Int32.toInt x1 ≤ 7) (h_x2 : 0 ≤ Int32.toInt x2 ∧ Int32.toInt x2 ≤ 65535) (h_x5 : 0 ≤ Int32.toInt x5 ∧ Int32.toInt x5 ≤ 15) (h_pl_wanted : 0 ≤ Int32.toInt pl_wanted ∧ Int32.toInt pl_wanted ≤ 65535) (h_pl_near : ∀ k : Nat, 0 ≤ Int32.toInt (pl_near k) ∧ Int32.toInt (pl_near k) ≤ 65535) (h_ro_size : 0 ≤ Int32.toInt ro_size ∧ Int32.toInt ro_size ≤ 16) (hn66 : 16 - Int32.toInt x5 ≤ n66) : ws_X9_pays_104 post K66 tr_fruits tr_standings tr_x tr_height tr_worth tr_ripe tr_foot tr_fork tr_settings no_apron no_basket no_ground no_bruised no_ladder no_helper no_today ru_length ru_program x1 x2 x3 x4 x5 pl_wanted pl_near ru_given ru_stack ro_size ro_numbers := by
  have l0 : Int32.toInt (1 : Int32) = 1 := (by decide)
  intro v1 ev1
  have f2 : Int32.toInt (x5 + 1) = Int32.toInt x5 + Int32.toInt (1 : Int32) := ta_add _ _ (by omega)
  rw [← ev1] at f2
  have f3 := tp_r x3
  have f4 := tp_r x4
  exact hK66 x1 x2 x3 x4 v1 pl_wanted pl_near ru_given ru_stack ro_size ro_numbers (by omega) (by omega) (by omega) (by omega) (fun k => by have q9 := h_pl_near k; omega) (by omega) (by omega)
set_option maxHeartbeats 8000000 in
set_option maxRecDepth 200000 in
theorem ts_X9_pays_66 {post : Int32 → Int32 → (Nat → Int32) → (Nat → Int32) → (Nat → Int32) → Int32 → (Nat → Int32) → Prop} {next : Int32 → Int32 → Int32 → Int32 → Int32 → Int32 → (Nat → Int32) → (Nat → Int32) → (Nat → Int32) → Int32 → (Nat → Int32) → Prop} {n66 : Int} (tr_fruits : Int32) (tr_standings : Int32) (tr_x : Nat → Int32) (tr_height : Nat → Int32) (tr_worth : Nat → Int32) (tr_ripe : Nat → Int32) (tr_foot : Nat → Int32) (tr_fork : Nat → Int32) (tr_settings : Nat → Int32) (no_apron : Int32) (no_basket : Int32) (no_ground : Int32) (no_bruised : Int32) (no_ladder : Int32) (no_helper : Int32) (no_today : Int32) (ru_length : Int32) (ru_program : Nat → Int32) (h_tr_fruits : 0 ≤ Int32.toInt tr_fruits ∧ Int32.toInt tr_fruits ≤ 16) (h_tr_standings : 0 ≤ Int32.toInt tr_standings ∧ Int32.toInt tr_standings ≤ 8) (h_no_ladder : -1 ≤ Int32.toInt no_ladder ∧ Int32.toInt no_ladder ≤ 7) (h_no_today : 0 ≤ Int32.toInt no_today ∧ Int32.toInt no_today ≤ 9) (h_ru_length : 0 ≤ Int32.toInt ru_length ∧ Int32.toInt ru_length ≤ 40) (hpost : ∀ (r : Int32) (pl_wanted' : Int32) (pl_near' : Nat → Int32) (ru_given' : Nat → Int32) (ru_stack' : Nat → Int32) (ro_size' : Int32) (ro_numbers' : Nat → Int32), (0 ≤ Int32.toInt pl_wanted' ∧ Int32.toInt pl_wanted' ≤ 65535) → (∀ k : Nat, 0 ≤ Int32.toInt (pl_near' k) ∧ Int32.toInt (pl_near' k) ≤ 65535) → (0 ≤ Int32.toInt ro_size' ∧ Int32.toInt ro_size' ≤ 16) → post r pl_wanted' pl_near' ru_given' ru_stack' ro_size' ro_numbers') (hKn : ∀ (x1 : Int32) (x2 : Int32) (x3 : Int32) (x4 : Int32) (x5 : Int32) (pl_wanted : Int32) (pl_near : Nat → Int32) (ru_given : Nat → Int32) (ru_stack : Nat → Int32) (ro_size : Int32) (ro_numbers : Nat → Int32), (0 ≤ Int32.toInt x1 ∧ Int32.toInt x1 ≤ 7) → (0 ≤ Int32.toInt x2 ∧ Int32.toInt x2 ≤ 65535) → (0 ≤ Int32.toInt x5 ∧ Int32.toInt x5 ≤ 16) → (0 ≤ Int32.toInt pl_wanted ∧ Int32.toInt pl_wanted ≤ 65535) → (∀ k : Nat, 0 ≤ Int32.toInt (pl_near k) ∧ Int32.toInt (pl_near k) ≤ 65535) → (0 ≤ Int32.toInt ro_size ∧ Int32.toInt ro_size ≤ 16) → (16 - Int32.toInt x5 < n66) → next x1 x2 x3 x4 x5 pl_wanted pl_near ru_given ru_stack ro_size ro_numbers) (x1 : Int32) (x2 : Int32) (x3 : Int32) (x4 : Int32) (x5 : Int32) (pl_wanted : Int32) (pl_near : Nat → Int32) (ru_given : Nat → Int32) (ru_stack : Nat → Int32) (ro_size : Int32) (ro_numbers : Nat → Int32) (h_x1 : 0 ≤ Int32.toInt x1 ∧ Int32.toInt x1 ≤ 7) (h_x2 : 0 ≤ Int32.toInt x2 ∧ Int32.toInt x2 ≤ 65535) (h_x5 : 0 ≤ Int32.toInt x5 ∧ Int32.toInt x5 ≤ 16) (h_pl_wanted : 0 ≤ Int32.toInt pl_wanted ∧ Int32.toInt pl_wanted ≤ 65535) (h_pl_near : ∀ k : Nat, 0 ≤ Int32.toInt (pl_near k) ∧ Int32.toInt (pl_near k) ≤ 65535) (h_ro_size : 0 ≤ Int32.toInt ro_size ∧ Int32.toInt ro_size ≤ 16) (hn66 : 16 - Int32.toInt x5 ≤ n66) : ws_X9_pays_66 post next tr_fruits tr_standings tr_x tr_height tr_worth tr_ripe tr_foot tr_fork tr_settings no_apron no_basket no_ground no_bruised no_ladder no_helper no_today ru_length ru_program x1 x2 x3 x4 x5 pl_wanted pl_near ru_given ru_stack ro_size ro_numbers := by
  have l0 : Int32.toInt (0 : Int32) = 0 := (by decide)
  have l1 : Int32.toInt (1 : Int32) = 1 := (by decide)
  have l2 : Int32.toInt (1431655765 : Int32) = 1431655765 := (by decide)
  have l3 : Int32.toInt (16 : Int32) = 16 := (by decide)
  have l4 : Int32.toInt (252645135 : Int32) = 252645135 := (by decide)
  have l5 : Int32.toInt (4 : Int32) = 4 := (by decide)
  have l6 : Int32.toInt (858993459 : Int32) = 858993459 := (by decide)
  refine And.intro (fun c5 => ?_) (fun c5 => ?_)
  · skip
    have c5 := (fa_le _ _).mp c5
    intro v6 ev6
    intro v7 ev7
    have f9 := ti_andr v6 1431655765 (by omega)
    have f8 : Int32.toInt (x2 - (v6 &&& 1431655765)) = Int32.toInt x2 - Int32.toInt (v6 &&& 1431655765) := ta_sub _ _ (by omega)
    rw [← ev7] at f8
    intro v10 ev10
    have f11 := ti_andr v7 858993459 (by omega)
    have hv10 := congrArg Int32.toInt ev10
    intro v12 ev12
    intro v13 ev13
    have f15 := ti_andr v12 858993459 (by omega)
    have f14 : Int32.toInt (v10 + (v12 &&& 858993459)) = Int32.toInt v10 + Int32.toInt (v12 &&& 858993459) := ta_add _ _ (by omega)
    rw [← ev13] at f14
    intro v16 ev16
    have hv16 := congrArg Int32.toInt ev16
    intro v18 ev18
    have f19 := ti_andr v16 252645135 (by omega)
    have hv18 := congrArg Int32.toInt ev18
    intro v20 ev20
    have hv20 := congrArg Int32.toInt ev20
    intro v22 ev22
    have hv22 := congrArg Int32.toInt ev22
    intro v24 ev24
    have hv24 := congrArg Int32.toInt ev24
    intro v26 ev26
    have f27 := tp_r (if 1 < v24 then v24 else 1)
    have f29 := tp_r v24
    have f28 := ti_max (1 : Int32) v24
    have hv26 := congrArg Int32.toInt ev26
    intro v30 ev30
    have hv30 := congrArg Int32.toInt ev30
    intro v32 ev32
    have hv32 := congrArg Int32.toInt ev32
    have f34 := tp_r v26
    refine And.intro (mt (fa_eq _ _).mp (by omega)) ?_
    intro v35 ev35
    refine And.intro (t_in (by omega)) ?_
    intro v36 ev36
    have hv36 := congrArg Int32.toInt ev36
    intro v38 ev38
    have hv38 := congrArg Int32.toInt ev38
    refine And.intro (fun h9 => absurd h9 (by decide)) (fun _ => ?_)
    refine And.intro (t_in (by omega)) ?_
    intro v40 ev40
    have f41 : Int32.toInt (0 + 1) = Int32.toInt (0 : Int32) + Int32.toInt (1 : Int32) := ta_add _ _ (by omega)
    rw [← ev40] at f41
    refine And.intro (fun c42 => ?_) (fun c42 => ?_)
    · skip
      have c42 := (fa_le _ _).mp c42
      exfalso; omega
    · skip
      have c42 := mt (fa_le _ _).mpr c42
      refine And.intro (t_in (by omega)) ?_
      intro v43 ev43
      have f44 : Int32.toInt (v40 + 1) = Int32.toInt v40 + Int32.toInt (1 : Int32) := ta_add _ _ (by omega)
      rw [← ev43] at f44
      refine And.intro (fun c45 => ?_) (fun c45 => ?_)
      · skip
        have c45 := (fa_le _ _).mp c45
        exfalso; omega
      · skip
        have c45 := mt (fa_le _ _).mpr c45
        refine And.intro (t_in (by omega)) ?_
        intro v46 ev46
        have f47 : Int32.toInt (v43 + 1) = Int32.toInt v43 + Int32.toInt (1 : Int32) := ta_add _ _ (by omega)
        rw [← ev46] at f47
        refine t_X3_worthOf (by omega) (fun r48 => ?_)
        exact hpost _ _ _ _ _ _ _ (by omega) (fun k => by have q9 := h_pl_near k; omega) (by omega)
  · skip
    have c5 := mt (fa_le _ _).mpr c5
    intro v49 ev49
    have f50 := ti_shr x2 x5 (by omega)
    have hv49 := congrArg Int32.toInt ev49
    have f52 := ti_andr v49 1 (by omega)
    have f53 := ti_andl v49 1 (by omega)
    refine And.intro (fun c51 => ?_) (fun c51 => ?_)
    · skip
      have c51 := (fa_eq _ _).mp c51
      have f54 := tp_r x3
      have f55 := tp_r x4
      exact ts_X9_pays_104 tr_fruits tr_standings tr_x tr_height tr_worth tr_ripe tr_foot tr_fork tr_settings no_apron no_basket no_ground no_bruised no_ladder no_helper no_today ru_length ru_program h_tr_fruits h_tr_standings h_no_ladder h_no_today h_ru_length hpost hKn x1 x2 x3 x4 x5 pl_wanted pl_near ru_given ru_stack ro_size ro_numbers (by omega) (by omega) (by omega) (by omega) (fun k => by have q9 := h_pl_near k; omega) (by omega) (by omega)
    · skip
      have c51 := mt (fa_eq _ _).mpr c51
      refine t_X0_pickSeconds (by omega) (by omega) (by omega) (by omega) (by omega) (fun r58 ru_given_56 ru_stack_57 h_r58 => ?_)
      intro v59 ev59
      have hv59 := congrArg Int32.toInt ev59
      have f61 := tp_r x3
      have f62 := tp_r v59
      exact ts_X9_pays_104 tr_fruits tr_standings tr_x tr_height tr_worth tr_ripe tr_foot tr_fork tr_settings no_apron no_basket no_ground no_bruised no_ladder no_helper no_today ru_length ru_program h_tr_fruits h_tr_standings h_no_ladder h_no_today h_ru_length hpost hKn x1 x2 x3 v59 x5 pl_wanted pl_near ru_given_56 ru_stack_57 ro_size ro_numbers (by omega) (by omega) (by omega) (by omega) (fun k => by have q9 := h_pl_near k; omega) (by omega) (by omega)
set_option maxHeartbeats 8000000 in
set_option maxRecDepth 200000 in
theorem tb_X9_pays_66 {post : Int32 → Int32 → (Nat → Int32) → (Nat → Int32) → (Nat → Int32) → Int32 → (Nat → Int32) → Prop} (tr_fruits : Int32) (tr_standings : Int32) (tr_x : Nat → Int32) (tr_height : Nat → Int32) (tr_worth : Nat → Int32) (tr_ripe : Nat → Int32) (tr_foot : Nat → Int32) (tr_fork : Nat → Int32) (tr_settings : Nat → Int32) (no_apron : Int32) (no_basket : Int32) (no_ground : Int32) (no_bruised : Int32) (no_ladder : Int32) (no_helper : Int32) (no_today : Int32) (ru_length : Int32) (ru_program : Nat → Int32) (h_tr_fruits : 0 ≤ Int32.toInt tr_fruits ∧ Int32.toInt tr_fruits ≤ 16) (h_tr_standings : 0 ≤ Int32.toInt tr_standings ∧ Int32.toInt tr_standings ≤ 8) (h_no_ladder : -1 ≤ Int32.toInt no_ladder ∧ Int32.toInt no_ladder ≤ 7) (h_no_today : 0 ≤ Int32.toInt no_today ∧ Int32.toInt no_today ≤ 9) (h_ru_length : 0 ≤ Int32.toInt ru_length ∧ Int32.toInt ru_length ≤ 40) (hpost : ∀ (r : Int32) (pl_wanted' : Int32) (pl_near' : Nat → Int32) (ru_given' : Nat → Int32) (ru_stack' : Nat → Int32) (ro_size' : Int32) (ro_numbers' : Nat → Int32), (0 ≤ Int32.toInt pl_wanted' ∧ Int32.toInt pl_wanted' ≤ 65535) → (∀ k : Nat, 0 ≤ Int32.toInt (pl_near' k) ∧ Int32.toInt (pl_near' k) ≤ 65535) → (0 ≤ Int32.toInt ro_size' ∧ Int32.toInt ro_size' ≤ 16) → post r pl_wanted' pl_near' ru_given' ru_stack' ro_size' ro_numbers') : ∀ (n : Nat) (x1 : Int32) (x2 : Int32) (x3 : Int32) (x4 : Int32) (x5 : Int32) (pl_wanted : Int32) (pl_near : Nat → Int32) (ru_given : Nat → Int32) (ru_stack : Nat → Int32) (ro_size : Int32) (ro_numbers : Nat → Int32), (0 ≤ Int32.toInt x1 ∧ Int32.toInt x1 ≤ 7) → (0 ≤ Int32.toInt x2 ∧ Int32.toInt x2 ≤ 65535) → (0 ≤ Int32.toInt x5 ∧ Int32.toInt x5 ≤ 16) → (0 ≤ Int32.toInt pl_wanted ∧ Int32.toInt pl_wanted ≤ 65535) → (∀ k : Nat, 0 ≤ Int32.toInt (pl_near k) ∧ Int32.toInt (pl_near k) ≤ 65535) → (0 ≤ Int32.toInt ro_size ∧ Int32.toInt ro_size ≤ 16) → (16 - Int32.toInt x5 < (n : Int)) → wb_X9_pays_66 post tr_fruits tr_standings tr_x tr_height tr_worth tr_ripe tr_foot tr_fork tr_settings no_apron no_basket no_ground no_bruised no_ladder no_helper no_today ru_length ru_program n x1 x2 x3 x4 x5 pl_wanted pl_near ru_given ru_stack ro_size ro_numbers := by
  intro n
  induction n with
  | zero =>
    intro x1 x2 x3 x4 x5 pl_wanted pl_near ru_given ru_stack ro_size ro_numbers h_x1 h_x2 h_x5 h_pl_wanted h_pl_near h_ro_size hm
    exfalso; omega
  | succ n ih =>
    intro x1 x2 x3 x4 x5 pl_wanted pl_near ru_given ru_stack ro_size ro_numbers h_x1 h_x2 h_x5 h_pl_wanted h_pl_near h_ro_size hm
    exact ts_X9_pays_66 tr_fruits tr_standings tr_x tr_height tr_worth tr_ripe tr_foot tr_fork tr_settings no_apron no_basket no_ground no_bruised no_ladder no_helper no_today ru_length ru_program h_tr_fruits h_tr_standings h_no_ladder h_no_today h_ru_length hpost ih x1 x2 x3 x4 x5 pl_wanted pl_near ru_given ru_stack ro_size ro_numbers h_x1 h_x2 h_x5 h_pl_wanted h_pl_near h_ro_size (by omega)
set_option maxHeartbeats 8000000 in
set_option maxRecDepth 200000 in
theorem ts_X9_pays_59 {post : Int32 → Int32 → (Nat → Int32) → (Nat → Int32) → (Nat → Int32) → Int32 → (Nat → Int32) → Prop} (tr_fruits : Int32) (tr_standings : Int32) (tr_x : Nat → Int32) (tr_height : Nat → Int32) (tr_worth : Nat → Int32) (tr_ripe : Nat → Int32) (tr_foot : Nat → Int32) (tr_fork : Nat → Int32) (tr_settings : Nat → Int32) (no_apron : Int32) (no_basket : Int32) (no_ground : Int32) (no_bruised : Int32) (no_ladder : Int32) (no_helper : Int32) (no_today : Int32) (ru_length : Int32) (ru_program : Nat → Int32) (h_tr_fruits : 0 ≤ Int32.toInt tr_fruits ∧ Int32.toInt tr_fruits ≤ 16) (h_tr_standings : 0 ≤ Int32.toInt tr_standings ∧ Int32.toInt tr_standings ≤ 8) (h_no_ladder : -1 ≤ Int32.toInt no_ladder ∧ Int32.toInt no_ladder ≤ 7) (h_no_today : 0 ≤ Int32.toInt no_today ∧ Int32.toInt no_today ≤ 9) (h_ru_length : 0 ≤ Int32.toInt ru_length ∧ Int32.toInt ru_length ≤ 40) (hpost : ∀ (r : Int32) (pl_wanted' : Int32) (pl_near' : Nat → Int32) (ru_given' : Nat → Int32) (ru_stack' : Nat → Int32) (ro_size' : Int32) (ro_numbers' : Nat → Int32), (0 ≤ Int32.toInt pl_wanted' ∧ Int32.toInt pl_wanted' ≤ 65535) → (∀ k : Nat, 0 ≤ Int32.toInt (pl_near' k) ∧ Int32.toInt (pl_near' k) ≤ 65535) → (0 ≤ Int32.toInt ro_size' ∧ Int32.toInt ro_size' ≤ 16) → post r pl_wanted' pl_near' ru_given' ru_stack' ro_size' ro_numbers') (x1 : Int32) (x2 : Int32) (k0 : Int32) (pl_wanted : Int32) (pl_near : Nat → Int32) (ru_given : Nat → Int32) (ru_stack : Nat → Int32) (ro_size : Int32) (ro_numbers : Nat → Int32) (h_x1 : 0 ≤ Int32.toInt x1 ∧ Int32.toInt x1 ≤ 7) (h_x2 : 0 ≤ Int32.toInt x2 ∧ Int32.toInt x2 ≤ 65535) (h_pl_wanted : 0 ≤ Int32.toInt pl_wanted ∧ Int32.toInt pl_wanted ≤ 65535) (h_pl_near : ∀ k : Nat, 0 ≤ Int32.toInt (pl_near k) ∧ Int32.toInt (pl_near k) ≤ 65535) (h_ro_size : 0 ≤ Int32.toInt ro_size ∧ Int32.toInt ro_size ≤ 16) : ws_X9_pays_59 post tr_fruits tr_standings tr_x tr_height tr_worth tr_ripe tr_foot tr_fork tr_settings no_apron no_basket no_ground no_bruised no_ladder no_helper no_today ru_length ru_program x1 x2 k0 pl_wanted pl_near ru_given ru_stack ro_size ro_numbers := by
  have l0 : Int32.toInt (0 : Int32) = 0 := (by decide)
  have f63 := tp_r k0
  exact ⟨18, tb_X9_pays_66 tr_fruits tr_standings tr_x tr_height tr_worth tr_ripe tr_foot tr_fork tr_settings no_apron no_basket no_ground no_bruised no_ladder no_helper no_today ru_length ru_program h_tr_fruits h_tr_standings h_no_ladder h_no_today h_ru_length hpost _ x1 x2 k0 0 0 pl_wanted pl_near ru_given ru_stack ro_size ro_numbers (by omega) (by omega) (by omega) (by omega) (fun k => by have q9 := h_pl_near k; omega) (by omega) (by omega)⟩
set_option maxHeartbeats 8000000 in
set_option maxRecDepth 200000 in
theorem t_X9_pays {post : Int32 → Int32 → (Nat → Int32) → (Nat → Int32) → (Nat → Int32) → Int32 → (Nat → Int32) → Prop} {p0 : Int32} {pl_wanted : Int32} {pl_near : Nat → Int32} {tr_fruits : Int32} {tr_standings : Int32} {tr_x : Nat → Int32} {tr_height : Nat → Int32} {tr_worth : Nat → Int32} {tr_ripe : Nat → Int32} {tr_foot : Nat → Int32} {tr_fork : Nat → Int32} {tr_settings : Nat → Int32} {no_apron : Int32} {no_basket : Int32} {no_ground : Int32} {no_bruised : Int32} {no_ladder : Int32} {no_helper : Int32} {no_today : Int32} {ru_length : Int32} {ru_given : Nat → Int32} {ru_stack : Nat → Int32} {ru_program : Nat → Int32} {ro_size : Int32} {ro_numbers : Nat → Int32} (h_pl_wanted : 0 ≤ Int32.toInt pl_wanted ∧ Int32.toInt pl_wanted ≤ 65535) (h_pl_near : ∀ k : Nat, 0 ≤ Int32.toInt (pl_near k) ∧ Int32.toInt (pl_near k) ≤ 65535) (h_tr_fruits : 0 ≤ Int32.toInt tr_fruits ∧ Int32.toInt tr_fruits ≤ 16) (h_tr_standings : 0 ≤ Int32.toInt tr_standings ∧ Int32.toInt tr_standings ≤ 8) (h_no_ladder : -1 ≤ Int32.toInt no_ladder ∧ Int32.toInt no_ladder ≤ 7) (h_no_today : 0 ≤ Int32.toInt no_today ∧ Int32.toInt no_today ≤ 9) (h_ru_length : 0 ≤ Int32.toInt ru_length ∧ Int32.toInt ru_length ≤ 40) (h_ro_size : 0 ≤ Int32.toInt ro_size ∧ Int32.toInt ro_size ≤ 16) (hpost : ∀ (r : Int32) (pl_wanted' : Int32) (pl_near' : Nat → Int32) (ru_given' : Nat → Int32) (ru_stack' : Nat → Int32) (ro_size' : Int32) (ro_numbers' : Nat → Int32), (0 ≤ Int32.toInt pl_wanted' ∧ Int32.toInt pl_wanted' ≤ 65535) → (∀ k : Nat, 0 ≤ Int32.toInt (pl_near' k) ∧ Int32.toInt (pl_near' k) ≤ 65535) → (0 ≤ Int32.toInt ro_size' ∧ Int32.toInt ro_size' ≤ 16) → post r pl_wanted' pl_near' ru_given' ru_stack' ro_size' ro_numbers') : wp_X9_pays post p0 pl_wanted pl_near tr_fruits tr_standings tr_x tr_height tr_worth tr_ripe tr_foot tr_fork tr_settings no_apron no_basket no_ground no_bruised no_ladder no_helper no_today ru_length ru_given ru_stack ru_program ro_size ro_numbers := by
  have l0 : Int32.toInt ((-1) : Int32) = -1 := (by decide)
  have l1 : Int32.toInt (0 : Int32) = 0 := (by decide)
  have l2 : Int32.toInt (3 : Int32) = 3 := (by decide)
  have l3 : Int32.toInt (9 : Int32) = 9 := (by decide)
  have f65 := tp_r p0
  refine And.intro (fun c64 => ?_) (fun c64 => ?_)
  · skip
    have c64 := (fa_lt _ _).mp c64
    refine And.intro (fun h9 => absurd h9 (by decide)) (fun _ => ?_)
    exact hpost _ _ _ _ _ _ _ (by omega) (fun k => by have q9 := h_pl_near k; omega) (by omega)
  · skip
    have c64 := mt (fa_lt _ _).mpr c64
    refine And.intro (fun c66 => ?_) (fun c66 => ?_)
    · skip
      have c66 := (fa_le _ _).mp c66
      refine And.intro (fun h9 => absurd h9 (by decide)) (fun _ => ?_)
      exact hpost _ _ _ _ _ _ _ (by omega) (fun k => by have q9 := h_pl_near k; omega) (by omega)
    · skip
      have c66 := mt (fa_le _ _).mpr c66
      refine And.intro (fun _ => ?_) (fun h9 => absurd h9 (by decide))
      refine t_X5_lookAs (by omega) (by omega) (fun k => by have q9 := h_pl_near k; omega) (by omega) (by omega) (fun pl_wanted_67 pl_near_68 h_pl_wanted_67 h_pl_near_68 => ?_)
      refine And.intro (t_in (by omega)) ?_
      refine And.intro (fun c69 => ?_) (fun c69 => ?_)
      · skip
        have c69 := mt (fa_eq _ _).mpr c69
        refine And.intro (fun c70 => ?_) (fun c70 => ?_)
        · skip
          have c70 := mt (fa_eq _ _).mpr c70
          intro v71 ev71
          have hv71 := congrArg Int32.toInt ev71
          refine And.intro (t_in (by omega)) ?_
          intro v73 ev73
          have hv73 := congrArg Int32.toInt ev73
          refine And.intro (t_in (by omega)) ?_
          intro v75 ev75
          have hv75 := congrArg Int32.toInt ev75
          intro v77 ev77
          have hv77 := congrArg Int32.toInt ev77
          have f80 := h_pl_near_68 p0.toNatClampNeg
          have f79 := ti_andr pl_wanted_67 (pl_near_68 p0.toNatClampNeg) (by omega)
          have f81 := ti_andl pl_wanted_67 (pl_near_68 p0.toNatClampNeg) (by omega)
          exact ts_X9_pays_59 tr_fruits tr_standings tr_x tr_height tr_worth tr_ripe tr_foot tr_fork tr_settings no_apron no_basket no_ground no_bruised no_ladder no_helper no_today ru_length ru_program h_tr_fruits h_tr_standings h_no_ladder h_no_today h_ru_length hpost p0 (pl_wanted_67 &&& (pl_near_68 p0.toNatClampNeg)) (9 + (v71 * v77)) pl_wanted_67 pl_near_68 ru_given ru_stack ro_size ro_numbers (by omega) (by omega) (by omega) (fun k => by have q9 := h_pl_near_68 k; omega) (by omega)
        · skip
          have c70 := (fa_eq _ _).mp c70
          have f84 := h_pl_near_68 p0.toNatClampNeg
          have f83 := ti_andr pl_wanted_67 (pl_near_68 p0.toNatClampNeg) (by omega)
          have f85 := ti_andl pl_wanted_67 (pl_near_68 p0.toNatClampNeg) (by omega)
          exact ts_X9_pays_59 tr_fruits tr_standings tr_x tr_height tr_worth tr_ripe tr_foot tr_fork tr_settings no_apron no_basket no_ground no_bruised no_ladder no_helper no_today ru_length ru_program h_tr_fruits h_tr_standings h_no_ladder h_no_today h_ru_length hpost p0 (pl_wanted_67 &&& (pl_near_68 p0.toNatClampNeg)) 9 pl_wanted_67 pl_near_68 ru_given ru_stack ro_size ro_numbers (by omega) (by omega) (by omega) (fun k => by have q9 := h_pl_near_68 k; omega) (by omega)
      · skip
        have c69 := (fa_eq _ _).mp c69
        have f87 := h_pl_near_68 p0.toNatClampNeg
        have f86 := ti_andr pl_wanted_67 (pl_near_68 p0.toNatClampNeg) (by omega)
        have f88 := ti_andl pl_wanted_67 (pl_near_68 p0.toNatClampNeg) (by omega)
        exact ts_X9_pays_59 tr_fruits tr_standings tr_x tr_height tr_worth tr_ripe tr_foot tr_fork tr_settings no_apron no_basket no_ground no_bruised no_ladder no_helper no_today ru_length ru_program h_tr_fruits h_tr_standings h_no_ladder h_no_today h_ru_length hpost p0 (pl_wanted_67 &&& (pl_near_68 p0.toNatClampNeg)) 0 pl_wanted_67 pl_near_68 ru_given ru_stack ro_size ro_numbers (by omega) (by omega) (by omega) (fun k => by have q9 := h_pl_near_68 k; omega) (by omega)
set_option maxHeartbeats 8000000 in
set_option maxRecDepth 200000 in
theorem ts_X9_trips_89 {post : Int32 → Int32 → (Nat → Int32) → Int32 → (Nat → Int32) → Prop} {K64 : Int32 → Int32 → Int32 → Int32 → Int32 → (Nat → Int32) → Int32 → (Nat → Int32) → Prop} {n64 : Int} (tr_fruits : Int32) (tr_standings : Int32) (tr_x : Nat → Int32) (tr_height : Nat → Int32) (tr_ripe : Nat → Int32) (tr_foot : Nat → Int32) (tr_fork : Nat → Int32) (tr_settings : Nat → Int32) (no_apron : Int32) (no_basket : Int32) (no_ground : Int32) (no_ladder : Int32) (no_helper : Int32) (no_today : Int32) (h_tr_fruits : 0 ≤ Int32.toInt tr_fruits ∧ Int32.toInt tr_fruits ≤ 16) (h_tr_standings : 0 ≤ Int32.toInt tr_standings ∧ Int32.toInt tr_standings ≤ 8) (h_no_ladder : -1 ≤ Int32.toInt no_ladder ∧ Int32.toInt no_ladder ≤ 7) (h_no_today : 0 ≤ Int32.toInt no_today ∧ Int32.toInt no_today ≤ 9) (hpost : ∀ (r : Int32) (pl_wanted' : Int32) (pl_near' : Nat → Int32) (ro_size' : Int32) (ro_numbers' : Nat → Int32), (0 ≤ Int32.toInt pl_wanted' ∧ Int32.toInt pl_wanted' ≤ 65535) → (∀ k : Nat, 0 ≤ Int32.toInt (pl_near' k) ∧ Int32.toInt (pl_near' k) ≤ 65535) → (0 ≤ Int32.toInt ro_size' ∧ Int32.toInt ro_size' ≤ 16) → post r pl_wanted' pl_near' ro_size' ro_numbers') (hK64 : ∀ (x2 : Int32) (x3 : Int32) (x4 : Int32) (x5 : Int32) (pl_wanted : Int32) (pl_near : Nat → Int32) (ro_size : Int32) (ro_numbers : Nat → Int32), (0 ≤ Int32.toInt x4 ∧ Int32.toInt x4 ≤ 63) → (0 ≤ Int32.toInt x5 ∧ Int32.toInt x5 ≤ 63) → (0 ≤ Int32.toInt pl_wanted ∧ Int32.toInt pl_wanted ≤ 65535) → (∀ k : Nat, 0 ≤ Int32.toInt (pl_near k) ∧ Int32.toInt (pl_near k) ≤ 65535) → (0 ≤ Int32.toInt ro_size ∧ Int32.toInt ro_size ≤ 16) → (63 - Int32.toInt x5 < n64) → K64 x2 x3 x4 x5 pl_wanted pl_near ro_size ro_numbers) (x2 : Int32) (x3 : Int32) (x4 : Int32) (x5 : Int32) (pl_wanted : Int32) (pl_near : Nat → Int32) (ro_size : Int32) (ro_numbers : Nat → Int32) (h_x4 : 1 ≤ Int32.toInt x4 ∧ Int32.toInt x4 ≤ 63) (h_x5 : 0 ≤ Int32.toInt x5 ∧ Int32.toInt x5 ≤ 62) (h_pl_wanted : 0 ≤ Int32.toInt pl_wanted ∧ Int32.toInt pl_wanted ≤ 65535) (h_pl_near : ∀ k : Nat, 0 ≤ Int32.toInt (pl_near k) ∧ Int32.toInt (pl_near k) ≤ 65535) (h_ro_size : 0 ≤ Int32.toInt ro_size ∧ Int32.toInt ro_size ≤ 16) (hn64 : 63 - Int32.toInt x5 ≤ n64) : ws_X9_trips_89 post K64 tr_fruits tr_standings tr_x tr_height tr_ripe tr_foot tr_fork tr_settings no_apron no_basket no_ground no_ladder no_helper no_today x2 x3 x4 x5 pl_wanted pl_near ro_size ro_numbers := by
  have l0 : Int32.toInt (1 : Int32) = 1 := (by decide)
  intro v1 ev1
  have hv1 := congrArg Int32.toInt ev1
  intro v3 ev3
  have f4 : Int32.toInt (x5 + 1) = Int32.toInt x5 + Int32.toInt (1 : Int32) := ta_add _ _ (by omega)
  rw [← ev3] at f4
  have f5 := tp_r v1
  have f6 := tp_r x3
  exact hK64 v1 x3 x4 v3 pl_wanted pl_near ro_size ro_numbers (by omega) (by omega) (by omega) (fun k => by have q9 := h_pl_near k; omega) (by omega) (by omega)
set_option maxHeartbeats 8000000 in
set_option maxRecDepth 200000 in
theorem ts_X9_trips_64 {post : Int32 → Int32 → (Nat → Int32) → Int32 → (Nat → Int32) → Prop} {next : Int32 → Int32 → Int32 → Int32 → Int32 → (Nat → Int32) → Int32 → (Nat → Int32) → Prop} {n64 : Int} (tr_fruits : Int32) (tr_standings : Int32) (tr_x : Nat → Int32) (tr_height : Nat → Int32) (tr_ripe : Nat → Int32) (tr_foot : Nat → Int32) (tr_fork : Nat → Int32) (tr_settings : Nat → Int32) (no_apron : Int32) (no_basket : Int32) (no_ground : Int32) (no_ladder : Int32) (no_helper : Int32) (no_today : Int32) (h_tr_fruits : 0 ≤ Int32.toInt tr_fruits ∧ Int32.toInt tr_fruits ≤ 16) (h_tr_standings : 0 ≤ Int32.toInt tr_standings ∧ Int32.toInt tr_standings ≤ 8) (h_no_ladder : -1 ≤ Int32.toInt no_ladder ∧ Int32.toInt no_ladder ≤ 7) (h_no_today : 0 ≤ Int32.toInt no_today ∧ Int32.toInt no_today ≤ 9) (hpost : ∀ (r : Int32) (pl_wanted' : Int32) (pl_near' : Nat → Int32) (ro_size' : Int32) (ro_numbers' : Nat → Int32), (0 ≤ Int32.toInt pl_wanted' ∧ Int32.toInt pl_wanted' ≤ 65535) → (∀ k : Nat, 0 ≤ Int32.toInt (pl_near' k) ∧ Int32.toInt (pl_near' k) ≤ 65535) → (0 ≤ Int32.toInt ro_size' ∧ Int32.toInt ro_size' ≤ 16) → post r pl_wanted' pl_near' ro_size' ro_numbers') (hKn : ∀ (x2 : Int32) (x3 : Int32) (x4 : Int32) (x5 : Int32) (pl_wanted : Int32) (pl_near : Nat → Int32) (ro_size : Int32) (ro_numbers : Nat → Int32), (0 ≤ Int32.toInt x4 ∧ Int32.toInt x4 ≤ 63) → (0 ≤ Int32.toInt x5 ∧ Int32.toInt x5 ≤ 63) → (0 ≤ Int32.toInt pl_wanted ∧ Int32.toInt pl_wanted ≤ 65535) → (∀ k : Nat, 0 ≤ Int32.toInt (pl_near k) ∧ Int32.toInt (pl_near k) ≤ 65535) → (0 ≤ Int32.toInt ro_size ∧ Int32.toInt ro_size ≤ 16) → (63 - Int32.toInt x5 < n64) → next x2 x3 x4 x5 pl_wanted pl_near ro_size ro_numbers) (x2 : Int32) (x3 : Int32) (x4 : Int32) (x5 : Int32) (pl_wanted : Int32) (pl_near : Nat → Int32) (ro_size : Int32) (ro_numbers : Nat → Int32) (h_x4 : 0 ≤ Int32.toInt x4 ∧ Int32.toInt x4 ≤ 63) (h_x5 : 0 ≤ Int32.toInt x5 ∧ Int32.toInt x5 ≤ 63) (h_pl_wanted : 0 ≤ Int32.toInt pl_wanted ∧ Int32.toInt pl_wanted ≤ 65535) (h_pl_near : ∀ k : Nat, 0 ≤ Int32.toInt (pl_near k) ∧ Int32.toInt (pl_near k) ≤ 65535) (h_ro_size : 0 ≤ Int32.toInt ro_size ∧ Int32.toInt ro_size ≤ 16) (hn64 : 63 - Int32.toInt x5 ≤ n64) : ws_X9_trips_64 post next tr_fruits tr_standings tr_x tr_height tr_ripe tr_foot tr_fork tr_settings no_apron no_basket no_ground no_ladder no_helper no_today x2 x3 x4 x5 pl_wanted pl_near ro_size ro_numbers := by
  have l0 : Int32.toInt (0 : Int32) = 0 := (by decide)
  have l1 : Int32.toInt (1 : Int32) = 1 := (by decide)
  have l2 : Int32.toInt (4 : Int32) = 4 := (by decide)
  refine And.intro (fun c7 => ?_) (fun c7 => ?_)
  · skip
    have c7 := (fa_le _ _).mp c7
    refine And.intro (fun h9 => absurd h9 (by decide)) (fun _ => ?_)
    refine And.intro (t_in (by omega)) ?_
    intro v8 ev8
    have f9 : Int32.toInt (0 + 1) = Int32.toInt (0 : Int32) + Int32.toInt (1 : Int32) := ta_add _ _ (by omega)
    rw [← ev8] at f9
    exact hpost _ _ _ _ _ (by omega) (fun k => by have q9 := h_pl_near k; omega) (by omega)
  · skip
    have c7 := mt (fa_le _ _).mpr c7
    have f11 := tp_r x2
    refine And.intro (fun c10 => ?_) (fun c10 => ?_)
    · skip
      have c10 := (fa_lt _ _).mp c10
      have f13 := tp_r x3
      exact ts_X9_trips_89 tr_fruits tr_standings tr_x tr_height tr_ripe tr_foot tr_fork tr_settings no_apron no_basket no_ground no_ladder no_helper no_today h_tr_fruits h_tr_standings h_no_ladder h_no_today hpost hKn x2 x3 x4 x5 pl_wanted pl_near ro_size ro_numbers (by omega) (by omega) (by omega) (fun k => by have q9 := h_pl_near k; omega) (by omega) (by omega)
    · skip
      have c10 := mt (fa_lt _ _).mpr c10
      intro v14 ev14
      have hv14 := congrArg Int32.toInt ev14
      have f16 := tp_r v14
      exact ts_X9_trips_89 tr_fruits tr_standings tr_x tr_height tr_ripe tr_foot tr_fork tr_settings no_apron no_basket no_ground no_ladder no_helper no_today h_tr_fruits h_tr_standings h_no_ladder h_no_today hpost hKn 0 v14 x4 x5 pl_wanted pl_near ro_size ro_numbers (by omega) (by omega) (by omega) (fun k => by have q9 := h_pl_near k; omega) (by omega) (by omega)
set_option maxHeartbeats 8000000 in
set_option maxRecDepth 200000 in
theorem tb_X9_trips_64 {post : Int32 → Int32 → (Nat → Int32) → Int32 → (Nat → Int32) → Prop} (tr_fruits : Int32) (tr_standings : Int32) (tr_x : Nat → Int32) (tr_height : Nat → Int32) (tr_ripe : Nat → Int32) (tr_foot : Nat → Int32) (tr_fork : Nat → Int32) (tr_settings : Nat → Int32) (no_apron : Int32) (no_basket : Int32) (no_ground : Int32) (no_ladder : Int32) (no_helper : Int32) (no_today : Int32) (h_tr_fruits : 0 ≤ Int32.toInt tr_fruits ∧ Int32.toInt tr_fruits ≤ 16) (h_tr_standings : 0 ≤ Int32.toInt tr_standings ∧ Int32.toInt tr_standings ≤ 8) (h_no_ladder : -1 ≤ Int32.toInt no_ladder ∧ Int32.toInt no_ladder ≤ 7) (h_no_today : 0 ≤ Int32.toInt no_today ∧ Int32.toInt no_today ≤ 9) (hpost : ∀ (r : Int32) (pl_wanted' : Int32) (pl_near' : Nat → Int32) (ro_size' : Int32) (ro_numbers' : Nat → Int32), (0 ≤ Int32.toInt pl_wanted' ∧ Int32.toInt pl_wanted' ≤ 65535) → (∀ k : Nat, 0 ≤ Int32.toInt (pl_near' k) ∧ Int32.toInt (pl_near' k) ≤ 65535) → (0 ≤ Int32.toInt ro_size' ∧ Int32.toInt ro_size' ≤ 16) → post r pl_wanted' pl_near' ro_size' ro_numbers') : ∀ (n : Nat) (x2 : Int32) (x3 : Int32) (x4 : Int32) (x5 : Int32) (pl_wanted : Int32) (pl_near : Nat → Int32) (ro_size : Int32) (ro_numbers : Nat → Int32), (0 ≤ Int32.toInt x4 ∧ Int32.toInt x4 ≤ 63) → (0 ≤ Int32.toInt x5 ∧ Int32.toInt x5 ≤ 63) → (0 ≤ Int32.toInt pl_wanted ∧ Int32.toInt pl_wanted ≤ 65535) → (∀ k : Nat, 0 ≤ Int32.toInt (pl_near k) ∧ Int32.toInt (pl_near k) ≤ 65535) → (0 ≤ Int32.toInt ro_size ∧ Int32.toInt ro_size ≤ 16) → (63 - Int32.toInt x5 < (n : Int)) → wb_X9_trips_64 post tr_fruits tr_standings tr_x tr_height tr_ripe tr_foot tr_fork tr_settings no_apron no_basket no_ground no_ladder no_helper no_today n x2 x3 x4 x5 pl_wanted pl_near ro_size ro_numbers := by
  intro n
  induction n with
  | zero =>
    intro x2 x3 x4 x5 pl_wanted pl_near ro_size ro_numbers h_x4 h_x5 h_pl_wanted h_pl_near h_ro_size hm
    exfalso; omega
  | succ n ih =>
    intro x2 x3 x4 x5 pl_wanted pl_near ro_size ro_numbers h_x4 h_x5 h_pl_wanted h_pl_near h_ro_size hm
    exact ts_X9_trips_64 tr_fruits tr_standings tr_x tr_height tr_ripe tr_foot tr_fork tr_settings no_apron no_basket no_ground no_ladder no_helper no_today h_tr_fruits h_tr_standings h_no_ladder h_no_today hpost ih x2 x3 x4 x5 pl_wanted pl_near ro_size ro_numbers h_x4 h_x5 h_pl_wanted h_pl_near h_ro_size (by omega)
set_option maxHeartbeats 8000000 in
set_option maxRecDepth 200000 in
theorem ts_X9_trips_45 {post : Int32 → Int32 → (Nat → Int32) → Int32 → (Nat → Int32) → Prop} (tr_fruits : Int32) (tr_standings : Int32) (tr_x : Nat → Int32) (tr_height : Nat → Int32) (tr_ripe : Nat → Int32) (tr_foot : Nat → Int32) (tr_fork : Nat → Int32) (tr_settings : Nat → Int32) (no_apron : Int32) (no_basket : Int32) (no_ground : Int32) (no_ladder : Int32) (no_helper : Int32) (no_today : Int32) (h_tr_fruits : 0 ≤ Int32.toInt tr_fruits ∧ Int32.toInt tr_fruits ≤ 16) (h_tr_standings : 0 ≤ Int32.toInt tr_standings ∧ Int32.toInt tr_standings ≤ 8) (h_no_ladder : -1 ≤ Int32.toInt no_ladder ∧ Int32.toInt no_ladder ≤ 7) (h_no_today : 0 ≤ Int32.toInt no_today ∧ Int32.toInt no_today ≤ 9) (hpost : ∀ (r : Int32) (pl_wanted' : Int32) (pl_near' : Nat → Int32) (ro_size' : Int32) (ro_numbers' : Nat → Int32), (0 ≤ Int32.toInt pl_wanted' ∧ Int32.toInt pl_wanted' ≤ 65535) → (∀ k : Nat, 0 ≤ Int32.toInt (pl_near' k) ∧ Int32.toInt (pl_near' k) ≤ 65535) → (0 ≤ Int32.toInt ro_size' ∧ Int32.toInt ro_size' ≤ 16) → post r pl_wanted' pl_near' ro_size' ro_numbers') (x1 : Int32) (k0 : Int32) (pl_wanted : Int32) (pl_near : Nat → Int32) (ro_size : Int32) (ro_numbers : Nat → Int32) (h_x1 : 0 ≤ Int32.toInt x1 ∧ Int32.toInt x1 ≤ 7) (h_k0 : 0 ≤ Int32.toInt k0 ∧ Int32.toInt k0 ≤ 63) (h_pl_wanted : 0 ≤ Int32.toInt pl_wanted ∧ Int32.toInt pl_wanted ≤ 65535) (h_pl_near : ∀ k : Nat, 0 ≤ Int32.toInt (pl_near k) ∧ Int32.toInt (pl_near k) ≤ 65535) (h_ro_size : 0 ≤ Int32.toInt ro_size ∧ Int32.toInt ro_size ≤ 16) : ws_X9_trips_45 post tr_fruits tr_standings tr_x tr_height tr_ripe tr_foot tr_fork tr_settings no_apron no_basket no_ground no_ladder no_helper no_today x1 k0 pl_wanted pl_near ro_size ro_numbers := by
  have l0 : Int32.toInt (0 : Int32) = 0 := (by decide)
  have l1 : Int32.toInt (1431655765 : Int32) = 1431655765 := (by decide)
  have l2 : Int32.toInt (252645135 : Int32) = 252645135 := (by decide)
  have l3 : Int32.toInt (63 : Int32) = 63 := (by decide)
  have l4 : Int32.toInt (858993459 : Int32) = 858993459 := (by decide)
  refine And.intro (t_in (by omega)) ?_
  intro v17 ev17
  intro v18 ev18
  have f21 := h_pl_near x1.toNatClampNeg
  have f20 := ti_andr pl_wanted (pl_near x1.toNatClampNeg) (by omega)
  have f22 := ti_andl pl_wanted (pl_near x1.toNatClampNeg) (by omega)
  have f23 := ti_andr v17 1431655765 (by omega)
  have f19 : Int32.toInt ((pl_wanted &&& (pl_near x1.toNatClampNeg)) - (v17 &&& 1431655765)) = Int32.toInt (pl_wanted &&& (pl_near x1.toNatClampNeg)) - Int32.toInt (v17 &&& 1431655765) := ta_sub _ _ (by omega)
  rw [← ev18] at f19
  intro v24 ev24
  have f25 := ti_andr v18 858993459 (by omega)
  have hv24 := congrArg Int32.toInt ev24
  intro v26 ev26
  intro v27 ev27
  have f29 := ti_andr v26 858993459 (by omega)
  have f28 : Int32.toInt (v24 + (v26 &&& 858993459)) = Int32.toInt v24 + Int32.toInt (v26 &&& 858993459) := ta_add _ _ (by omega)
  rw [← ev27] at f28
  intro v30 ev30
  have hv30 := congrArg Int32.toInt ev30
  intro v32 ev32
  have f33 := ti_andr v30 252645135 (by omega)
  have hv32 := congrArg Int32.toInt ev32
  intro v34 ev34
  have hv34 := congrArg Int32.toInt ev34
  intro v36 ev36
  have hv36 := congrArg Int32.toInt ev36
  have f38 := ti_andr v36 63 (by omega)
  exact ⟨65, tb_X9_trips_64 tr_fruits tr_standings tr_x tr_height tr_ripe tr_foot tr_fork tr_settings no_apron no_basket no_ground no_ladder no_helper no_today h_tr_fruits h_tr_standings h_no_ladder h_no_today hpost _ k0 0 (v36 &&& 63) 0 pl_wanted pl_near ro_size ro_numbers (by omega) (by omega) (by omega) (fun k => by have q9 := h_pl_near k; omega) (by omega) (by omega)⟩
set_option maxHeartbeats 8000000 in
set_option maxRecDepth 200000 in
theorem t_X9_trips {post : Int32 → Int32 → (Nat → Int32) → Int32 → (Nat → Int32) → Prop} {p0 : Int32} {pl_wanted : Int32} {pl_near : Nat → Int32} {tr_fruits : Int32} {tr_standings : Int32} {tr_x : Nat → Int32} {tr_height : Nat → Int32} {tr_ripe : Nat → Int32} {tr_foot : Nat → Int32} {tr_fork : Nat → Int32} {tr_settings : Nat → Int32} {no_apron : Int32} {no_basket : Int32} {no_ground : Int32} {no_ladder : Int32} {no_helper : Int32} {no_today : Int32} {ro_size : Int32} {ro_numbers : Nat → Int32} (h_pl_wanted : 0 ≤ Int32.toInt pl_wanted ∧ Int32.toInt pl_wanted ≤ 65535) (h_pl_near : ∀ k : Nat, 0 ≤ Int32.toInt (pl_near k) ∧ Int32.toInt (pl_near k) ≤ 65535) (h_tr_fruits : 0 ≤ Int32.toInt tr_fruits ∧ Int32.toInt tr_fruits ≤ 16) (h_tr_standings : 0 ≤ Int32.toInt tr_standings ∧ Int32.toInt tr_standings ≤ 8) (h_no_ladder : -1 ≤ Int32.toInt no_ladder ∧ Int32.toInt no_ladder ≤ 7) (h_no_today : 0 ≤ Int32.toInt no_today ∧ Int32.toInt no_today ≤ 9) (h_ro_size : 0 ≤ Int32.toInt ro_size ∧ Int32.toInt ro_size ≤ 16) (hpost : ∀ (r : Int32) (pl_wanted' : Int32) (pl_near' : Nat → Int32) (ro_size' : Int32) (ro_numbers' : Nat → Int32), (0 ≤ Int32.toInt pl_wanted' ∧ Int32.toInt pl_wanted' ≤ 65535) → (∀ k : Nat, 0 ≤ Int32.toInt (pl_near' k) ∧ Int32.toInt (pl_near' k) ≤ 65535) → (0 ≤ Int32.toInt ro_size' ∧ Int32.toInt ro_size' ≤ 16) → post r pl_wanted' pl_near' ro_size' ro_numbers') : wp_X9_trips post p0 pl_wanted pl_near tr_fruits tr_standings tr_x tr_height tr_ripe tr_foot tr_fork tr_settings no_apron no_basket no_ground no_ladder no_helper no_today ro_size ro_numbers := by
  have l0 : Int32.toInt (0 : Int32) = 0 := (by decide)
  have l1 : Int32.toInt (252645135 : Int32) = 252645135 := (by decide)
  have l2 : Int32.toInt (63 : Int32) = 63 := (by decide)
  have l3 : Int32.toInt (858993459 : Int32) = 858993459 := (by decide)
  have f40 := tp_r p0
  refine And.intro (fun c39 => ?_) (fun c39 => ?_)
  · skip
    have c39 := (fa_lt _ _).mp c39
    refine And.intro (fun h9 => absurd h9 (by decide)) (fun _ => ?_)
    exact hpost _ _ _ _ _ (by omega) (fun k => by have q9 := h_pl_near k; omega) (by omega)
  · skip
    have c39 := mt (fa_lt _ _).mpr c39
    refine And.intro (fun c41 => ?_) (fun c41 => ?_)
    · skip
      have c41 := (fa_le _ _).mp c41
      refine And.intro (fun h9 => absurd h9 (by decide)) (fun _ => ?_)
      exact hpost _ _ _ _ _ (by omega) (fun k => by have q9 := h_pl_near k; omega) (by omega)
    · skip
      have c41 := mt (fa_le _ _).mpr c41
      refine And.intro (fun _ => ?_) (fun h9 => absurd h9 (by decide))
      refine t_X5_lookAs (by omega) (by omega) (fun k => by have q9 := h_pl_near k; omega) (by omega) (by omega) (fun pl_wanted_42 pl_near_43 h_pl_wanted_42 h_pl_near_43 => ?_)
      refine And.intro (fun c44 => ?_) (fun c44 => ?_)
      · skip
        have c44 := mt (fa_eq _ _).mpr c44
        exact ts_X9_trips_45 tr_fruits tr_standings tr_x tr_height tr_ripe tr_foot tr_fork tr_settings no_apron no_basket no_ground no_ladder no_helper no_today h_tr_fruits h_tr_standings h_no_ladder h_no_today hpost p0 0 pl_wanted_42 pl_near_43 ro_size ro_numbers (by omega) (by omega) (by omega) (fun k => by have q9 := h_pl_near_43 k; omega) (by omega)
      · skip
        have c44 := (fa_eq _ _).mp c44
        intro v45 ev45
        intro v46 ev46
        have hv46 := congrArg Int32.toInt ev46
        intro v48 ev48
        have f49 := ti_andr v46 858993459 (by omega)
        have hv48 := congrArg Int32.toInt ev48
        intro v50 ev50
        intro v51 ev51
        have f53 := ti_andr v50 858993459 (by omega)
        have f52 : Int32.toInt (v48 + (v50 &&& 858993459)) = Int32.toInt v48 + Int32.toInt (v50 &&& 858993459) := ta_add _ _ (by omega)
        rw [← ev51] at f52
        intro v54 ev54
        have hv54 := congrArg Int32.toInt ev54
        intro v56 ev56
        have f57 := ti_andr v54 252645135 (by omega)
        have hv56 := congrArg Int32.toInt ev56
        intro v58 ev58
        have hv58 := congrArg Int32.toInt ev58
        intro v60 ev60
        have hv60 := congrArg Int32.toInt ev60
        have f62 := ti_andr v60 63 (by omega)
        exact ts_X9_trips_45 tr_fruits tr_standings tr_x tr_height tr_ripe tr_foot tr_fork tr_settings no_apron no_basket no_ground no_ladder no_helper no_today h_tr_fruits h_tr_standings h_no_ladder h_no_today hpost p0 (v60 &&& 63) pl_wanted_42 pl_near_43 ro_size ro_numbers (by omega) (by omega) (by omega) (fun k => by have q9 := h_pl_near_43 k; omega) (by omega)
set_option maxHeartbeats 8000000 in
set_option maxRecDepth 200000 in
theorem t_X9_helps {post : Int32 → Int32 → (Nat → Int32) → Int32 → (Nat → Int32) → Prop} {pl_wanted : Int32} {pl_near : Nat → Int32} {tr_fruits : Int32} {tr_standings : Int32} {tr_x : Nat → Int32} {tr_height : Nat → Int32} {tr_ripe : Nat → Int32} {tr_foot : Nat → Int32} {tr_fork : Nat → Int32} {tr_settings : Nat → Int32} {no_apron : Int32} {no_basket : Int32} {no_ground : Int32} {no_today : Int32} {ro_size : Int32} {ro_numbers : Nat → Int32} (h_pl_wanted : 0 ≤ Int32.toInt pl_wanted ∧ Int32.toInt pl_wanted ≤ 65535) (h_pl_near : ∀ k : Nat, 0 ≤ Int32.toInt (pl_near k) ∧ Int32.toInt (pl_near k) ≤ 65535) (h_tr_fruits : 0 ≤ Int32.toInt tr_fruits ∧ Int32.toInt tr_fruits ≤ 16) (h_tr_standings : 0 ≤ Int32.toInt tr_standings ∧ Int32.toInt tr_standings ≤ 8) (h_no_today : 0 ≤ Int32.toInt no_today ∧ Int32.toInt no_today ≤ 9) (h_ro_size : 0 ≤ Int32.toInt ro_size ∧ Int32.toInt ro_size ≤ 16) (hpost : ∀ (r : Int32) (pl_wanted' : Int32) (pl_near' : Nat → Int32) (ro_size' : Int32) (ro_numbers' : Nat → Int32), (-63 ≤ Int32.toInt r ∧ Int32.toInt r ≤ 63) → (0 ≤ Int32.toInt pl_wanted' ∧ Int32.toInt pl_wanted' ≤ 65535) → (∀ k : Nat, 0 ≤ Int32.toInt (pl_near' k) ∧ Int32.toInt (pl_near' k) ≤ 65535) → (2 ≤ Int32.toInt ro_size' ∧ Int32.toInt ro_size' ≤ 2) → post r pl_wanted' pl_near' ro_size' ro_numbers') : wp_X9_helps post pl_wanted pl_near tr_fruits tr_standings tr_x tr_height tr_ripe tr_foot tr_fork tr_settings no_apron no_basket no_ground no_today ro_size ro_numbers := by
  have l0 : Int32.toInt (0 : Int32) = 0 := (by decide)
  have l1 : Int32.toInt (1 : Int32) = 1 := (by decide)
  have l2 : Int32.toInt (1431655765 : Int32) = 1431655765 := (by decide)
  have l3 : Int32.toInt (16 : Int32) = 16 := (by decide)
  have l4 : Int32.toInt (252645135 : Int32) = 252645135 := (by decide)
  have l5 : Int32.toInt (63 : Int32) = 63 := (by decide)
  have l6 : Int32.toInt (858993459 : Int32) = 858993459 := (by decide)
  refine t_X5_lookAs (by omega) (by omega) (fun k => by have q9 := h_pl_near k; omega) (by omega) (by omega) (fun pl_wanted_1 pl_near_2 h_pl_wanted_1 h_pl_near_2 => ?_)
  intro v3 ev3
  have f4 := ti_shl1 8 256 tr_standings (by decide) (by omega)
  have hv3 := congrArg Int32.toInt ev3
  have f6 : Int32.toInt (v3 - 1) = Int32.toInt v3 - Int32.toInt (1 : Int32) := ta_sub _ _ (by omega)
  refine t_X5_smallestCover (by omega) (by omega) (fun k => by have q9 := h_pl_near_2 k; omega) (by omega) (fun r5 h_r5 => ?_)
  refine t_X5_lookAs (by omega) (by omega) (fun k => by have q9 := h_pl_near_2 k; omega) (by omega) (by omega) (fun pl_wanted_7 pl_near_8 h_pl_wanted_7 h_pl_near_8 => ?_)
  intro v9 ev9
  have hv9 := congrArg Int32.toInt ev9
  have f11 : Int32.toInt (v9 - 1) = Int32.toInt v9 - Int32.toInt (1 : Int32) := ta_sub _ _ (by omega)
  refine t_X5_smallestCover (by omega) (by omega) (fun k => by have q9 := h_pl_near_8 k; omega) (by omega) (fun r10 h_r10 => ?_)
  intro v12 ev12
  intro v13 ev13
  have f15 := ti_andr v12 1431655765 (by omega)
  have f14 : Int32.toInt (pl_wanted_1 - (v12 &&& 1431655765)) = Int32.toInt pl_wanted_1 - Int32.toInt (v12 &&& 1431655765) := ta_sub _ _ (by omega)
  rw [← ev13] at f14
  intro v16 ev16
  have f17 := ti_andr v13 858993459 (by omega)
  have hv16 := congrArg Int32.toInt ev16
  intro v18 ev18
  intro v19 ev19
  have f21 := ti_andr v18 858993459 (by omega)
  have f20 : Int32.toInt (v16 + (v18 &&& 858993459)) = Int32.toInt v16 + Int32.toInt (v18 &&& 858993459) := ta_add _ _ (by omega)
  rw [← ev19] at f20
  intro v22 ev22
  have hv22 := congrArg Int32.toInt ev22
  intro v24 ev24
  have f25 := ti_andr v22 252645135 (by omega)
  have hv24 := congrArg Int32.toInt ev24
  intro v26 ev26
  have hv26 := congrArg Int32.toInt ev26
  intro v28 ev28
  have hv28 := congrArg Int32.toInt ev28
  intro v30 ev30
  intro v31 ev31
  have f33 := ti_andr v30 1431655765 (by omega)
  have f32 : Int32.toInt (pl_wanted_7 - (v30 &&& 1431655765)) = Int32.toInt pl_wanted_7 - Int32.toInt (v30 &&& 1431655765) := ta_sub _ _ (by omega)
  rw [← ev31] at f32
  intro v34 ev34
  have f35 := ti_andr v31 858993459 (by omega)
  have hv34 := congrArg Int32.toInt ev34
  intro v36 ev36
  intro v37 ev37
  have f39 := ti_andr v36 858993459 (by omega)
  have f38 : Int32.toInt (v34 + (v36 &&& 858993459)) = Int32.toInt v34 + Int32.toInt (v36 &&& 858993459) := ta_add _ _ (by omega)
  rw [← ev37] at f38
  intro v40 ev40
  have hv40 := congrArg Int32.toInt ev40
  intro v42 ev42
  have f43 := ti_andr v40 252645135 (by omega)
  have hv42 := congrArg Int32.toInt ev42
  intro v44 ev44
  have hv44 := congrArg Int32.toInt ev44
  intro v46 ev46
  have hv46 := congrArg Int32.toInt ev46
  refine And.intro (fun h9 => absurd h9 (by decide)) (fun _ => ?_)
  refine And.intro (t_in (by omega)) ?_
  intro v48 ev48
  have f49 : Int32.toInt (0 + 1) = Int32.toInt (0 : Int32) + Int32.toInt (1 : Int32) := ta_add _ _ (by omega)
  rw [← ev48] at f49
  refine And.intro (fun c50 => ?_) (fun c50 => ?_)
  · skip
    have c50 := (fa_le _ _).mp c50
    exfalso; omega
  · skip
    have c50 := mt (fa_le _ _).mpr c50
    refine And.intro (t_in (by omega)) ?_
    intro v51 ev51
    have f52 : Int32.toInt (v48 + 1) = Int32.toInt v48 + Int32.toInt (1 : Int32) := ta_add _ _ (by omega)
    rw [← ev51] at f52
    intro v53 ev53
    intro v54 ev54
    have f56 := ti_andr v53 1431655765 (by omega)
    have f55 : Int32.toInt (r5 - (v53 &&& 1431655765)) = Int32.toInt r5 - Int32.toInt (v53 &&& 1431655765) := ta_sub _ _ (by omega)
    rw [← ev54] at f55
    intro v57 ev57
    have f58 := ti_andr v54 858993459 (by omega)
    have hv57 := congrArg Int32.toInt ev57
    intro v59 ev59
    intro v60 ev60
    have f62 := ti_andr v59 858993459 (by omega)
    have f61 : Int32.toInt (v57 + (v59 &&& 858993459)) = Int32.toInt v57 + Int32.toInt (v59 &&& 858993459) := ta_add _ _ (by omega)
    rw [← ev60] at f61
    intro v63 ev63
    have hv63 := congrArg Int32.toInt ev63
    intro v65 ev65
    have f66 := ti_andr v63 252645135 (by omega)
    have hv65 := congrArg Int32.toInt ev65
    intro v67 ev67
    have hv67 := congrArg Int32.toInt ev67
    intro v69 ev69
    have hv69 := congrArg Int32.toInt ev69
    intro v71 ev71
    intro v72 ev72
    have f74 := ti_andr v71 1431655765 (by omega)
    have f73 : Int32.toInt (r10 - (v71 &&& 1431655765)) = Int32.toInt r10 - Int32.toInt (v71 &&& 1431655765) := ta_sub _ _ (by omega)
    rw [← ev72] at f73
    intro v75 ev75
    have f76 := ti_andr v72 858993459 (by omega)
    have hv75 := congrArg Int32.toInt ev75
    intro v77 ev77
    intro v78 ev78
    have f80 := ti_andr v77 858993459 (by omega)
    have f79 : Int32.toInt (v75 + (v77 &&& 858993459)) = Int32.toInt v75 + Int32.toInt (v77 &&& 858993459) := ta_add _ _ (by omega)
    rw [← ev78] at f79
    intro v81 ev81
    have hv81 := congrArg Int32.toInt ev81
    intro v83 ev83
    have f84 := ti_andr v81 252645135 (by omega)
    have hv83 := congrArg Int32.toInt ev83
    intro v85 ev85
    have hv85 := congrArg Int32.toInt ev85
    intro v87 ev87
    have hv87 := congrArg Int32.toInt ev87
    have f90 := ti_andr v69 63 (by omega)
    have f91 := ti_andr v87 63 (by omega)
    have f89 : Int32.toInt ((v69 &&& 63) - (v87 &&& 63)) = Int32.toInt (v69 &&& 63) - Int32.toInt (v87 &&& 63) := ta_sub _ _ (by omega)
    exact hpost _ _ _ _ _ (by omega) (by omega) (fun k => by have q9 := h_pl_near_8 k; omega) (by omega)
set_option maxHeartbeats 8000000 in
set_option maxRecDepth 200000 in
theorem ts_X9_hooked_115 {post : Int32 → Int32 → (Nat → Int32) → Int32 → (Nat → Int32) → Prop} {K50 : Int32 → Int32 → Int32 → Int32 → Int32 → Int32 → (Nat → Int32) → Int32 → (Nat → Int32) → Prop} {n50 : Int} (tr_fruits : Int32) (tr_standings : Int32) (tr_x : Nat → Int32) (tr_height : Nat → Int32) (tr_ripe : Nat → Int32) (tr_foot : Nat → Int32) (tr_fork : Nat → Int32) (tr_settings : Nat → Int32) (no_apron : Int32) (no_basket : Int32) (no_ground : Int32) (no_helper : Int32) (no_today : Int32) (h_tr_fruits : 0 ≤ Int32.toInt tr_fruits ∧ Int32.toInt tr_fruits ≤ 16) (h_tr_standings : 0 ≤ Int32.toInt tr_standings ∧ Int32.toInt tr_standings ≤ 8) (h_no_today : 0 ≤ Int32.toInt no_today ∧ Int32.toInt no_today ≤ 9) (hpost : ∀ (r : Int32) (pl_wanted' : Int32) (pl_near' : Nat → Int32) (ro_size' : Int32) (ro_numbers' : Nat → Int32), (0 ≤ Int32.toInt r ∧ Int32.toInt r ≤ 65535) → (0 ≤ Int32.toInt pl_wanted' ∧ Int32.toInt pl_wanted' ≤ 65535) → (∀ k : Nat, 0 ≤ Int32.toInt (pl_near' k) ∧ Int32.toInt (pl_near' k) ≤ 65535) → (2 ≤ Int32.toInt ro_size' ∧ Int32.toInt ro_size' ≤ 2) → post r pl_wanted' pl_near' ro_size' ro_numbers') (hK50 : ∀ (x1 : Int32) (x2 : Int32) (x3 : Int32) (x4 : Int32) (x5 : Int32) (pl_wanted : Int32) (pl_near : Nat → Int32) (ro_size : Int32) (ro_numbers : Nat → Int32), (0 ≤ Int32.toInt x1 ∧ Int32.toInt x1 ≤ 65535) → (0 ≤ Int32.toInt x2 ∧ Int32.toInt x2 ≤ 65535) → (-1 ≤ Int32.toInt x3 ∧ Int32.toInt x3 ≤ 7) → (0 ≤ Int32.toInt x4 ∧ Int32.toInt x4 ≤ 63) → (0 ≤ Int32.toInt x5 ∧ Int32.toInt x5 ≤ 8) → (0 ≤ Int32.toInt pl_wanted ∧ Int32.toInt pl_wanted ≤ 65535) → (∀ k : Nat, 0 ≤ Int32.toInt (pl_near k) ∧ Int32.toInt (pl_near k) ≤ 65535) → (0 ≤ Int32.toInt ro_size ∧ Int32.toInt ro_size ≤ 16) → (8 - Int32.toInt x5 < n50) → K50 x1 x2 x3 x4 x5 pl_wanted pl_near ro_size ro_numbers) (x1 : Int32) (x2 : Int32) (x3 : Int32) (x4 : Int32) (x5 : Int32) (pl_wanted : Int32) (pl_near : Nat → Int32) (ro_size : Int32) (ro_numbers : Nat → Int32) (h_x1 : 0 ≤ Int32.toInt x1 ∧ Int32.toInt x1 ≤ 65535) (h_x2 : 0 ≤ Int32.toInt x2 ∧ Int32.toInt x2 ≤ 65535) (h_x3 : -1 ≤ Int32.toInt x3 ∧ Int32.toInt x3 ≤ 7) (h_x4 : 0 ≤ Int32.toInt x4 ∧ Int32.toInt x4 ≤ 63) (h_x5 : 0 ≤ Int32.toInt x5 ∧ Int32.toInt x5 ≤ 7) (h_pl_wanted : 0 ≤ Int32.toInt pl_wanted ∧ Int32.toInt pl_wanted ≤ 65535) (h_pl_near : ∀ k : Nat, 0 ≤ Int32.toInt (pl_near k) ∧ Int32.toInt (pl_near k) ≤ 65535) (h_ro_size : 0 ≤ Int32.toInt ro_size ∧ Int32.toInt ro_size ≤ 16) (hn50 : 8 - Int32.toInt x5 ≤ n50) : ws_X9_hooked_115 post K50 tr_fruits tr_standings tr_x tr_height tr_ripe tr_foot tr_fork tr_settings no_apron no_basket no_ground no_helper no_today x1 x2 x3 x4 x5 pl_wanted pl_near ro_size ro_numbers := by
  have l0 : Int32.toInt (1 : Int32) = 1 := (by decide)
  intro v1 ev1
  have f2 : Int32.toInt (x5 + 1) = Int32.toInt x5 + Int32.toInt (1 : Int32) := ta_add _ _ (by omega)
  rw [← ev1] at f2
  exact hK50 x1 x2 x3 x4 v1 pl_wanted pl_near ro_size ro_numbers (by omega) (by omega) (by omega) (by omega) (by omega) (by omega) (fun k => by have q9 := h_pl_near k; omega) (by omega) (by omega)
set_option maxHeartbeats 8000000 in
set_option maxRecDepth 200000 in
theorem ts_X9_hooked_50 {post : Int32 → Int32 → (Nat → Int32) → Int32 → (Nat → Int32) → Prop} {next : Int32 → Int32 → Int32 → Int32 → Int32 → Int32 → (Nat → Int32) → Int32 → (Nat → Int32) → Prop} {n50 : Int} (tr_fruits : Int32) (tr_standings : Int32) (tr_x : Nat → Int32) (tr_height : Nat → Int32) (tr_ripe : Nat → Int32) (tr_foot : Nat → Int32) (tr_fork : Nat → Int32) (tr_settings : Nat → Int32) (no_apron : Int32) (no_basket : Int32) (no_ground : Int32) (no_helper : Int32) (no_today : Int32) (h_tr_fruits : 0 ≤ Int32.toInt tr_fruits ∧ Int32.toInt tr_fruits ≤ 16) (h_tr_standings : 0 ≤ Int32.toInt tr_standings ∧ Int32.toInt tr_standings ≤ 8) (h_no_today : 0 ≤ Int32.toInt no_today ∧ Int32.toInt no_today ≤ 9) (hpost : ∀ (r : Int32) (pl_wanted' : Int32) (pl_near' : Nat → Int32) (ro_size' : Int32) (ro_numbers' : Nat → Int32), (0 ≤ Int32.toInt r ∧ Int32.toInt r ≤ 65535) → (0 ≤ Int32.toInt pl_wanted' ∧ Int32.toInt pl_wanted' ≤ 65535) → (∀ k : Nat, 0 ≤ Int32.toInt (pl_near' k) ∧ Int32.toInt (pl_near' k) ≤ 65535) → (2 ≤ Int32.toInt ro_size' ∧ Int32.toInt ro_size' ≤ 2) → post r pl_wanted' pl_near' ro_size' ro_numbers') (hKn : ∀ (x1 : Int32) (x2 : Int32) (x3 : Int32) (x4 : Int32) (x5 : Int32) (pl_wanted : Int32) (pl_near : Nat → Int32) (ro_size : Int32) (ro_numbers : Nat → Int32), (0 ≤ Int32.toInt x1 ∧ Int32.toInt x1 ≤ 65535) → (0 ≤ Int32.toInt x2 ∧ Int32.toInt x2 ≤ 65535) → (-1 ≤ Int32.toInt x3 ∧ Int32.toInt x3 ≤ 7) → (0 ≤ Int32.toInt x4 ∧ Int32.toInt x4 ≤ 63) → (0 ≤ Int32.toInt x5 ∧ Int32.toInt x5 ≤ 8) → (0 ≤ Int32.toInt pl_wanted ∧ Int32.toInt pl_wanted ≤ 65535) → (∀ k : Nat, 0 ≤ Int32.toInt (pl_near k) ∧ Int32.toInt (pl_near k) ≤ 65535) → (0 ≤ Int32.toInt ro_size ∧ Int32.toInt ro_size ≤ 16) → (8 - Int32.toInt x5 < n50) → next x1 x2 x3 x4 x5 pl_wanted pl_near ro_size ro_numbers) (x1 : Int32) (x2 : Int32) (x3 : Int32) (x4 : Int32) (x5 : Int32) (pl_wanted : Int32) (pl_near : Nat → Int32) (ro_size : Int32) (ro_numbers : Nat → Int32) (h_x1 : 0 ≤ Int32.toInt x1 ∧ Int32.toInt x1 ≤ 65535) (h_x2 : 0 ≤ Int32.toInt x2 ∧ Int32.toInt x2 ≤ 65535) (h_x3 : -1 ≤ Int32.toInt x3 ∧ Int32.toInt x3 ≤ 7) (h_x4 : 0 ≤ Int32.toInt x4 ∧ Int32.toInt x4 ≤ 63) (h_x5 : 0 ≤ Int32.toInt x5 ∧ Int32.toInt x5 ≤ 8) (h_pl_wanted : 0 ≤ Int32.toInt pl_wanted ∧ Int32.toInt pl_wanted ≤ 65535) (h_pl_near : ∀ k : Nat, 0 ≤ Int32.toInt (pl_near k) ∧ Int32.toInt (pl_near k) ≤ 65535) (h_ro_size : 0 ≤ Int32.toInt ro_size ∧ Int32.toInt ro_size ≤ 16) (hn50 : 8 - Int32.toInt x5 ≤ n50) : ws_X9_hooked_50 post next tr_fruits tr_standings tr_x tr_height tr_ripe tr_foot tr_fork tr_settings no_apron no_basket no_ground no_helper no_today x1 x2 x3 x4 x5 pl_wanted pl_near ro_size ro_numbers := by
  have l0 : Int32.toInt (0 : Int32) = 0 := (by decide)
  have l1 : Int32.toInt (1 : Int32) = 1 := (by decide)
  have l2 : Int32.toInt (1431655765 : Int32) = 1431655765 := (by decide)
  have l3 : Int32.toInt (16 : Int32) = 16 := (by decide)
  have l4 : Int32.toInt (2 : Int32) = 2 := (by decide)
  have l5 : Int32.toInt (252645135 : Int32) = 252645135 := (by decide)
  have l6 : Int32.toInt (63 : Int32) = 63 := (by decide)
  have l7 : Int32.toInt (858993459 : Int32) = 858993459 := (by decide)
  refine And.intro (fun c3 => ?_) (fun c3 => ?_)
  · skip
    have c3 := (fa_le _ _).mp c3
    refine And.intro (fun h9 => absurd h9 (by decide)) (fun _ => ?_)
    refine And.intro (t_in (by omega)) ?_
    intro v4 ev4
    have f5 : Int32.toInt (0 + 1) = Int32.toInt (0 : Int32) + Int32.toInt (1 : Int32) := ta_add _ _ (by omega)
    rw [← ev4] at f5
    refine And.intro (fun c6 => ?_) (fun c6 => ?_)
    · skip
      have c6 := (fa_le _ _).mp c6
      exfalso; omega
    · skip
      have c6 := mt (fa_le _ _).mpr c6
      refine And.intro (t_in (by omega)) ?_
      intro v7 ev7
      have f8 : Int32.toInt (v4 + 1) = Int32.toInt v4 + Int32.toInt (1 : Int32) := ta_add _ _ (by omega)
      rw [← ev7] at f8
      exact hpost _ _ _ _ _ (by omega) (by omega) (fun k => by have q9 := h_pl_near k; omega) (by omega)
  · skip
    have c3 := mt (fa_le _ _).mpr c3
    intro v9 ev9
    have hv9 := congrArg Int32.toInt ev9
    intro v11 ev11
    have hv11 := congrArg Int32.toInt ev11
    refine t_X3_within (by omega) (by omega) (fun r13 h_r13 => ?_)
    intro v14 ev14
    have f15 := ti_andr x1 r13 (by omega)
    have f16 := ti_andl x1 r13 (by omega)
    have hv14 := congrArg Int32.toInt ev14
    intro v17 ev17
    have f18 := ti_or 16 65536 x2 v14 (by decide) (by omega) (by omega)
    have hv17 := congrArg Int32.toInt ev17
    intro v19 ev19
    intro v20 ev20
    have f22 := ti_andr v19 1431655765 (by omega)
    have f21 : Int32.toInt (v14 - (v19 &&& 1431655765)) = Int32.toInt v14 - Int32.toInt (v19 &&& 1431655765) := ta_sub _ _ (by omega)
    rw [← ev20] at f21
    intro v23 ev23
    have f24 := ti_andr v20 858993459 (by omega)
    have hv23 := congrArg Int32.toInt ev23
    intro v25 ev25
    intro v26 ev26
    have f28 := ti_andr v25 858993459 (by omega)
    have f27 : Int32.toInt (v23 + (v25 &&& 858993459)) = Int32.toInt v23 + Int32.toInt (v25 &&& 858993459) := ta_add _ _ (by omega)
    rw [← ev26] at f27
    intro v29 ev29
    have hv29 := congrArg Int32.toInt ev29
    intro v31 ev31
    have f32 := ti_andr v29 252645135 (by omega)
    have hv31 := congrArg Int32.toInt ev31
    intro v33 ev33
    have hv33 := congrArg Int32.toInt ev33
    intro v35 ev35
    have hv35 := congrArg Int32.toInt ev35
    have f38 := ti_andr v35 63 (by omega)
    refine And.intro (fun c37 => ?_) (fun c37 => ?_)
    · skip
      have c37 := (fa_le _ _).mp c37
      exact ts_X9_hooked_115 tr_fruits tr_standings tr_x tr_height tr_ripe tr_foot tr_fork tr_settings no_apron no_basket no_ground no_helper no_today h_tr_fruits h_tr_standings h_no_today hpost hKn x1 v17 x3 x4 x5 pl_wanted pl_near ro_size ro_numbers (by omega) (by omega) (by omega) (by omega) (by omega) (by omega) (fun k => by have q9 := h_pl_near k; omega) (by omega) (by omega)
    · skip
      have c37 := mt (fa_le _ _).mpr c37
      intro v39 ev39
      intro v40 ev40
      have f42 := ti_andr v39 1431655765 (by omega)
      have f41 : Int32.toInt (v14 - (v39 &&& 1431655765)) = Int32.toInt v14 - Int32.toInt (v39 &&& 1431655765) := ta_sub _ _ (by omega)
      rw [← ev40] at f41
      intro v43 ev43
      have f44 := ti_andr v40 858993459 (by omega)
      have hv43 := congrArg Int32.toInt ev43
      intro v45 ev45
      intro v46 ev46
      have f48 := ti_andr v45 858993459 (by omega)
      have f47 : Int32.toInt (v43 + (v45 &&& 858993459)) = Int32.toInt v43 + Int32.toInt (v45 &&& 858993459) := ta_add _ _ (by omega)
      rw [← ev46] at f47
      intro v49 ev49
      have hv49 := congrArg Int32.toInt ev49
      intro v51 ev51
      have f52 := ti_andr v49 252645135 (by omega)
      have hv51 := congrArg Int32.toInt ev51
      intro v53 ev53
      have hv53 := congrArg Int32.toInt ev53
      intro v55 ev55
      have hv55 := congrArg Int32.toInt ev55
      have f57 := ti_andr v55 63 (by omega)
      exact ts_X9_hooked_115 tr_fruits tr_standings tr_x tr_height tr_ripe tr_foot tr_fork tr_settings no_apron no_basket no_ground no_helper no_today h_tr_fruits h_tr_standings h_no_today hpost hKn x1 v17 x5 (v55 &&& 63) x5 pl_wanted pl_near ro_size ro_numbers (by omega) (by omega) (by omega) (by omega) (by omega) (by omega) (fun k => by have q9 := h_pl_near k; omega) (by omega) (by omega)
set_option maxHeartbeats 8000000 in
set_option maxRecDepth 200000 in
theorem tb_X9_hooked_50 {post : Int32 → Int32 → (Nat → Int32) → Int32 → (Nat → Int32) → Prop} (tr_fruits : Int32) (tr_standings : Int32) (tr_x : Nat → Int32) (tr_height : Nat → Int32) (tr_ripe : Nat → Int32) (tr_foot : Nat → Int32) (tr_fork : Nat → Int32) (tr_settings : Nat → Int32) (no_apron : Int32) (no_basket : Int32) (no_ground : Int32) (no_helper : Int32) (no_today : Int32) (h_tr_fruits : 0 ≤ Int32.toInt tr_fruits ∧ Int32.toInt tr_fruits ≤ 16) (h_tr_standings : 0 ≤ Int32.toInt tr_standings ∧ Int32.toInt tr_standings ≤ 8) (h_no_today : 0 ≤ Int32.toInt no_today ∧ Int32.toInt no_today ≤ 9) (hpost : ∀ (r : Int32) (pl_wanted' : Int32) (pl_near' : Nat → Int32) (ro_size' : Int32) (ro_numbers' : Nat → Int32), (0 ≤ Int32.toInt r ∧ Int32.toInt r ≤ 65535) → (0 ≤ Int32.toInt pl_wanted' ∧ Int32.toInt pl_wanted' ≤ 65535) → (∀ k : Nat, 0 ≤ Int32.toInt (pl_near' k) ∧ Int32.toInt (pl_near' k) ≤ 65535) → (2 ≤ Int32.toInt ro_size' ∧ Int32.toInt ro_size' ≤ 2) → post r pl_wanted' pl_near' ro_size' ro_numbers') : ∀ (n : Nat) (x1 : Int32) (x2 : Int32) (x3 : Int32) (x4 : Int32) (x5 : Int32) (pl_wanted : Int32) (pl_near : Nat → Int32) (ro_size : Int32) (ro_numbers : Nat → Int32), (0 ≤ Int32.toInt x1 ∧ Int32.toInt x1 ≤ 65535) → (0 ≤ Int32.toInt x2 ∧ Int32.toInt x2 ≤ 65535) → (-1 ≤ Int32.toInt x3 ∧ Int32.toInt x3 ≤ 7) → (0 ≤ Int32.toInt x4 ∧ Int32.toInt x4 ≤ 63) → (0 ≤ Int32.toInt x5 ∧ Int32.toInt x5 ≤ 8) → (0 ≤ Int32.toInt pl_wanted ∧ Int32.toInt pl_wanted ≤ 65535) → (∀ k : Nat, 0 ≤ Int32.toInt (pl_near k) ∧ Int32.toInt (pl_near k) ≤ 65535) → (0 ≤ Int32.toInt ro_size ∧ Int32.toInt ro_size ≤ 16) → (8 - Int32.toInt x5 < (n : Int)) → wb_X9_hooked_50 post tr_fruits tr_standings tr_x tr_height tr_ripe tr_foot tr_fork tr_settings no_apron no_basket no_ground no_helper no_today n x1 x2 x3 x4 x5 pl_wanted pl_near ro_size ro_numbers := by
  intro n
  induction n with
  | zero =>
    intro x1 x2 x3 x4 x5 pl_wanted pl_near ro_size ro_numbers h_x1 h_x2 h_x3 h_x4 h_x5 h_pl_wanted h_pl_near h_ro_size hm
    exfalso; omega
  | succ n ih =>
    intro x1 x2 x3 x4 x5 pl_wanted pl_near ro_size ro_numbers h_x1 h_x2 h_x3 h_x4 h_x5 h_pl_wanted h_pl_near h_ro_size hm
    exact ts_X9_hooked_50 tr_fruits tr_standings tr_x tr_height tr_ripe tr_foot tr_fork tr_settings no_apron no_basket no_ground no_helper no_today h_tr_fruits h_tr_standings h_no_today hpost ih x1 x2 x3 x4 x5 pl_wanted pl_near ro_size ro_numbers h_x1 h_x2 h_x3 h_x4 h_x5 h_pl_wanted h_pl_near h_ro_size (by omega)
set_option maxHeartbeats 8000000 in
set_option maxRecDepth 200000 in
theorem t_X9_hooked {post : Int32 → Int32 → (Nat → Int32) → Int32 → (Nat → Int32) → Prop} {pl_wanted : Int32} {pl_near : Nat → Int32} {tr_fruits : Int32} {tr_standings : Int32} {tr_x : Nat → Int32} {tr_height : Nat → Int32} {tr_ripe : Nat → Int32} {tr_foot : Nat → Int32} {tr_fork : Nat → Int32} {tr_settings : Nat → Int32} {no_apron : Int32} {no_basket : Int32} {no_ground : Int32} {no_helper : Int32} {no_today : Int32} {ro_size : Int32} {ro_numbers : Nat → Int32} (h_pl_wanted : 0 ≤ Int32.toInt pl_wanted ∧ Int32.toInt pl_wanted ≤ 65535) (h_pl_near : ∀ k : Nat, 0 ≤ Int32.toInt (pl_near k) ∧ Int32.toInt (pl_near k) ≤ 65535) (h_tr_fruits : 0 ≤ Int32.toInt tr_fruits ∧ Int32.toInt tr_fruits ≤ 16) (h_tr_standings : 0 ≤ Int32.toInt tr_standings ∧ Int32.toInt tr_standings ≤ 8) (h_no_today : 0 ≤ Int32.toInt no_today ∧ Int32.toInt no_today ≤ 9) (h_ro_size : 0 ≤ Int32.toInt ro_size ∧ Int32.toInt ro_size ≤ 16) (hpost : ∀ (r : Int32) (pl_wanted' : Int32) (pl_near' : Nat → Int32) (ro_size' : Int32) (ro_numbers' : Nat → Int32), (0 ≤ Int32.toInt r ∧ Int32.toInt r ≤ 65535) → (0 ≤ Int32.toInt pl_wanted' ∧ Int32.toInt pl_wanted' ≤ 65535) → (∀ k : Nat, 0 ≤ Int32.toInt (pl_near' k) ∧ Int32.toInt (pl_near' k) ≤ 65535) → (2 ≤ Int32.toInt ro_size' ∧ Int32.toInt ro_size' ≤ 2) → post r pl_wanted' pl_near' ro_size' ro_numbers') : wp_X9_hooked post pl_wanted pl_near tr_fruits tr_standings tr_x tr_height tr_ripe tr_foot tr_fork tr_settings no_apron no_basket no_ground no_helper no_today ro_size ro_numbers := by
  have l0 : Int32.toInt ((-1) : Int32) = -1 := (by decide)
  have l1 : Int32.toInt (0 : Int32) = 0 := (by decide)
  have l2 : Int32.toInt (1 : Int32) = 1 := (by decide)
  refine t_X5_lookAs (by omega) (by omega) (fun k => by have q9 := h_pl_near k; omega) (by omega) (by omega) (fun pl_wanted_58 pl_near_59 h_pl_wanted_58 h_pl_near_59 => ?_)
  intro v60 ev60
  have f61 := ti_shl1 16 65536 tr_fruits (by decide) (by omega)
  have hv60 := congrArg Int32.toInt ev60
  intro v62 ev62
  intro v63 ev63
  refine t_X3_ripeBy (by omega) (by omega) (fun r64 h_r64 => ?_)
  intro v65 ev65
  have f66 := ti_andr ((v60 - 1) &&& (v63 ^^^ (-1))) r64 (by omega)
  have f68 : Int32.toInt (v60 - 1) = Int32.toInt v60 - Int32.toInt (1 : Int32) := ta_sub _ _ (by omega)
  have f69 := ti_andl (v60 - 1) (v63 ^^^ (-1)) (by omega)
  have f70 := ti_andl ((v60 - 1) &&& (v63 ^^^ (-1))) r64 (by omega)
  have hv65 := congrArg Int32.toInt ev65
  intro v71 ev71
  have f73 := ti_andl v65 (pl_wanted_58 ^^^ (-1)) (by omega)
  have hv71 := congrArg Int32.toInt ev71
  exact ⟨10, tb_X9_hooked_50 tr_fruits tr_standings tr_x tr_height tr_ripe tr_foot tr_fork tr_settings no_apron no_basket no_ground no_helper no_today h_tr_fruits h_tr_standings h_no_today hpost _ v71 0 (-1) 0 0 pl_wanted_58 pl_near_59 ro_size ro_numbers (by omega) (by omega) (by omega) (by omega) (by omega) (by omega) (fun k => by have q9 := h_pl_near_59 k; omega) (by omega) (by omega)⟩
set_option maxHeartbeats 8000000 in
set_option maxRecDepth 200000 in
theorem t_X9_broken {post : Int32 → Int32 → (Nat → Int32) → Int32 → (Nat → Int32) → Prop} {p0 : Int32} {pl_wanted : Int32} {pl_near : Nat → Int32} {tr_fruits : Int32} {tr_standings : Int32} {tr_x : Nat → Int32} {tr_height : Nat → Int32} {tr_ripe : Nat → Int32} {tr_foot : Nat → Int32} {tr_fork : Nat → Int32} {tr_settings : Nat → Int32} {no_apron : Int32} {no_basket : Int32} {no_ground : Int32} {no_helper : Int32} {no_today : Int32} {ro_size : Int32} {ro_numbers : Nat → Int32} (h_pl_wanted : 0 ≤ Int32.toInt pl_wanted ∧ Int32.toInt pl_wanted ≤ 65535) (h_pl_near : ∀ k : Nat, 0 ≤ Int32.toInt (pl_near k) ∧ Int32.toInt (pl_near k) ≤ 65535) (h_tr_fruits : 0 ≤ Int32.toInt tr_fruits ∧ Int32.toInt tr_fruits ≤ 16) (h_tr_standings : 0 ≤ Int32.toInt tr_standings ∧ Int32.toInt tr_standings ≤ 8) (h_no_today : 0 ≤ Int32.toInt no_today ∧ Int32.toInt no_today ≤ 9) (h_ro_size : 0 ≤ Int32.toInt ro_size ∧ Int32.toInt ro_size ≤ 16) (hpost : ∀ (r : Int32) (pl_wanted' : Int32) (pl_near' : Nat → Int32) (ro_size' : Int32) (ro_numbers' : Nat → Int32), (-1 ≤ Int32.toInt r ∧ Int32.toInt r ≤ 63) → (0 ≤ Int32.toInt pl_wanted' ∧ Int32.toInt pl_wanted' ≤ 65535) → (∀ k : Nat, 0 ≤ Int32.toInt (pl_near' k) ∧ Int32.toInt (pl_near' k) ≤ 65535) → (0 ≤ Int32.toInt ro_size' ∧ Int32.toInt ro_size' ≤ 16) → post r pl_wanted' pl_near' ro_size' ro_numbers') : wp_X9_broken post p0 pl_wanted pl_near tr_fruits tr_standings tr_x tr_height tr_ripe tr_foot tr_fork tr_settings no_apron no_basket no_ground no_helper no_today ro_size ro_numbers := by
  have l0 : Int32.toInt ((-1) : Int32) = -1 := (by decide)
  have l1 : Int32.toInt (0 : Int32) = 0 := (by decide)
  have l2 : Int32.toInt (1 : Int32) = 1 := (by decide)
  have l3 : Int32.toInt (1431655765 : Int32) = 1431655765 := (by decide)
  have l4 : Int32.toInt (252645135 : Int32) = 252645135 := (by decide)
  have l5 : Int32.toInt (63 : Int32) = 63 := (by decide)
  have l6 : Int32.toInt (858993459 : Int32) = 858993459 := (by decide)
  have f2 := tp_r p0
  refine And.intro (fun c1 => ?_) (fun c1 => ?_)
  · skip
    have c1 := (fa_lt _ _).mp c1
    refine And.intro (fun h9 => absurd h9 (by decide)) (fun _ => ?_)
    exact hpost _ _ _ _ _ (by omega) (by omega) (fun k => by have q9 := h_pl_near k; omega) (by omega)
  · skip
    have c1 := mt (fa_lt _ _).mpr c1
    refine And.intro (fun c3 => ?_) (fun c3 => ?_)
    · skip
      have c3 := (fa_le _ _).mp c3
      refine And.intro (fun h9 => absurd h9 (by decide)) (fun _ => ?_)
      exact hpost _ _ _ _ _ (by omega) (by omega) (fun k => by have q9 := h_pl_near k; omega) (by omega)
    · skip
      have c3 := mt (fa_le _ _).mpr c3
      refine And.intro (fun _ => ?_) (fun h9 => absurd h9 (by decide))
      refine t_X5_lookAs (by omega) (by omega) (fun k => by have q9 := h_pl_near k; omega) (by omega) (by omega) (fun pl_wanted_4 pl_near_5 h_pl_wanted_4 h_pl_near_5 => ?_)
      intro v6 ev6
      have f7 := ti_shl1 8 256 tr_standings (by decide) (by omega)
      have hv6 := congrArg Int32.toInt ev6
      intro v8 ev8
      have f9 := ti_shl1 7 128 p0 (by decide) (by omega)
      have hv8 := congrArg Int32.toInt ev8
      intro v10 ev10
      have f12 : Int32.toInt (v6 - 1) = Int32.toInt v6 - Int32.toInt (1 : Int32) := ta_sub _ _ (by omega)
      have f13 := ti_andl (v6 - 1) (v8 ^^^ (-1)) (by omega)
      have hv10 := congrArg Int32.toInt ev10
      refine t_X5_reachedBy (by omega) (fun k => by have q9 := h_pl_near_5 k; omega) (by omega) (fun r14 h_r14 => ?_)
      intro v15 ev15
      have f17 := ti_andl pl_wanted_4 (r14 ^^^ (-1)) (by omega)
      have hv15 := congrArg Int32.toInt ev15
      refine And.intro (fun h9 => absurd h9 (by decide)) (fun _ => ?_)
      refine And.intro (t_in (by omega)) ?_
      intro v18 ev18
      have f19 : Int32.toInt (0 + 1) = Int32.toInt (0 : Int32) + Int32.toInt (1 : Int32) := ta_add _ _ (by omega)
      rw [← ev18] at f19
      intro v20 ev20
      have f22 := ti_andl pl_wanted_4 (v15 ^^^ (-1)) (by omega)
      have hv20 := congrArg Int32.toInt ev20
      refine t_X5_smallestCover (by omega) (by omega) (fun k => by have q9 := h_pl_near_5 k; omega) (by omega) (fun r23 h_r23 => ?_)
      intro v24 ev24
      intro v25 ev25
      have f27 := ti_andr v24 1431655765 (by omega)
      have f26 : Int32.toInt (r23 - (v24 &&& 1431655765)) = Int32.toInt r23 - Int32.toInt (v24 &&& 1431655765) := ta_sub _ _ (by omega)
      rw [← ev25] at f26
      intro v28 ev28
      have f29 := ti_andr v25 858993459 (by omega)
      have hv28 := congrArg Int32.toInt ev28
      intro v30 ev30
      intro v31 ev31
      have f33 := ti_andr v30 858993459 (by omega)
      have f32 : Int32.toInt (v28 + (v30 &&& 858993459)) = Int32.toInt v28 + Int32.toInt (v30 &&& 858993459) := ta_add _ _ (by omega)
      rw [← ev31] at f32
      intro v34 ev34
      have hv34 := congrArg Int32.toInt ev34
      intro v36 ev36
      have f37 := ti_andr v34 252645135 (by omega)
      have hv36 := congrArg Int32.toInt ev36
      intro v38 ev38
      have hv38 := congrArg Int32.toInt ev38
      intro v40 ev40
      have hv40 := congrArg Int32.toInt ev40
      have f42 := ti_andr v40 63 (by omega)
      exact hpost _ _ _ _ _ (by omega) (by omega) (fun k => by have q9 := h_pl_near_5 k; omega) (by omega)
set_option maxHeartbeats 8000000 in
set_option maxRecDepth 200000 in
theorem ts_X9_sweep_121 {post : Int32 → Int32 → Int32 → Int32 → Int32 → (Nat → Int32) → (Nat → Int32) → (Nat → Int32) → (Nat → Int32) → (Nat → Int32) → Int32 → (Nat → Int32) → Prop} {K37 : Int32 → Int32 → Int32 → Int32 → Int32 → Int32 → Int32 → Int32 → Int32 → (Nat → Int32) → (Nat → Int32) → (Nat → Int32) → (Nat → Int32) → (Nat → Int32) → Int32 → (Nat → Int32) → Prop} {n37 : Int} (tr_fruits : Int32) (tr_standings : Int32) (tr_x : Nat → Int32) (tr_height : Nat → Int32) (tr_worth : Nat → Int32) (tr_ripe : Nat → Int32) (tr_foot : Nat → Int32) (tr_fork : Nat → Int32) (tr_settings : Nat → Int32) (no_apron : Int32) (no_basket : Int32) (no_ground : Int32) (no_bruised : Int32) (no_ladder : Int32) (no_helper : Int32) (no_today : Int32) (ru_length : Int32) (ru_program : Nat → Int32) (h_tr_fruits : 0 ≤ Int32.toInt tr_fruits ∧ Int32.toInt tr_fruits ≤ 16) (h_tr_standings : 0 ≤ Int32.toInt tr_standings ∧ Int32.toInt tr_standings ≤ 8) (h_no_ladder : -1 ≤ Int32.toInt no_ladder ∧ Int32.toInt no_ladder ≤ 7) (h_no_today : 0 ≤ Int32.toInt no_today ∧ Int32.toInt no_today ≤ 9) (h_ru_length : 0 ≤ Int32.toInt ru_length ∧ Int32.toInt ru_length ≤ 40) (hpost : ∀ (r : Int32) (pl_wanted' : Int32) (pl_moves' : Int32) (pl_picking' : Int32) (pl_downs' : Int32) (pl_near' : Nat → Int32) (pl_seconds' : Nat → Int32) (pl_many' : Nat → Int32) (ru_given' : Nat → Int32) (ru_stack' : Nat → Int32) (ro_size' : Int32) (ro_numbers' : Nat → Int32), (-1 ≤ Int32.toInt r ∧ Int32.toInt r ≤ 2147483647) → (0 ≤ Int32.toInt pl_wanted' ∧ Int32.toInt pl_wanted' ≤ 65535) → (∀ k : Nat, 0 ≤ Int32.toInt (pl_near' k) ∧ Int32.toInt (pl_near' k) ≤ 65535) → (∀ k : Nat, 0 ≤ Int32.toInt (pl_seconds' k) ∧ Int32.toInt (pl_seconds' k) ≤ 99) → (0 ≤ Int32.toInt ro_size' ∧ Int32.toInt ro_size' ≤ 16) → post r pl_wanted' pl_moves' pl_picking' pl_downs' pl_near' pl_seconds' pl_many' ru_given' ru_stack' ro_size' ro_numbers') (hK37 : ∀ (x1 : Int32) (x2 : Int32) (x3 : Int32) (x4 : Int32) (x5 : Int32) (pl_wanted : Int32) (pl_moves : Int32) (pl_picking : Int32) (pl_downs : Int32) (pl_near : Nat → Int32) (pl_seconds : Nat → Int32) (pl_many : Nat → Int32) (ru_given : Nat → Int32) (ru_stack : Nat → Int32) (ro_size : Int32) (ro_numbers : Nat → Int32), (0 ≤ Int32.toInt x1 ∧ Int32.toInt x1 ≤ 9999) → (0 ≤ Int32.toInt x2 ∧ Int32.toInt x2 ≤ 255) → (0 ≤ Int32.toInt x3 ∧ Int32.toInt x3 ≤ 2147483647) → (-2147483648 ≤ Int32.toInt x4 ∧ Int32.toInt x4 ≤ 9999) → (1 ≤ Int32.toInt x5 ∧ Int32.toInt x5 ≤ 256) → (0 ≤ Int32.toInt pl_wanted ∧ Int32.toInt pl_wanted ≤ 65535) → (∀ k : Nat, 0 ≤ Int32.toInt (pl_near k) ∧ Int32.toInt (pl_near k) ≤ 65535) → (∀ k : Nat, 0 ≤ Int32.toInt (pl_seconds k) ∧ Int32.toInt (pl_seconds k) ≤ 99) → (0 ≤ Int32.toInt ro_size ∧ Int32.toInt ro_size ≤ 16) → (256 - Int32.toInt x5 < n37) → K37 x1 x2 x3 x4 x5 pl_wanted pl_moves pl_picking pl_downs pl_near pl_seconds pl_many ru_given ru_stack ro_size ro_numbers) (x1 : Int32) (x2 : Int32) (x3 : Int32) (x4 : Int32) (x5 : Int32) (pl_wanted : Int32) (pl_moves : Int32) (pl_picking : Int32) (pl_downs : Int32) (pl_near : Nat → Int32) (pl_seconds : Nat → Int32) (pl_many : Nat → Int32) (ru_given : Nat → Int32) (ru_stack : Nat → Int32) (ro_size : Int32) (ro_numbers : Nat → Int32) (h_x1 : 0 ≤ Int32.toInt x1 ∧ Int32.toInt x1 ≤ 9999) (h_x2 : 0 ≤ Int32.toInt x2 ∧ Int32.toInt x2 ≤ 255) (h_x3 : 0 ≤ Int32.toInt x3 ∧ Int32.toInt x3 ≤ 2147483647) (h_x4 : -2147483648 ≤ Int32.toInt x4 ∧ Int32.toInt x4 ≤ 9999) (h_x5 : 1 ≤ Int32.toInt x5 ∧ Int32.toInt x5 ≤ 255) (h_pl_wanted : 0 ≤ Int32.toInt pl_wanted ∧ Int32.toInt pl_wanted ≤ 65535) (h_pl_near : ∀ k : Nat, 0 ≤ Int32.toInt (pl_near k) ∧ Int32.toInt (pl_near k) ≤ 65535) (h_pl_seconds : ∀ k : Nat, 0 ≤ Int32.toInt (pl_seconds k) ∧ Int32.toInt (pl_seconds k) ≤ 99) (h_ro_size : 0 ≤ Int32.toInt ro_size ∧ Int32.toInt ro_size ≤ 16) (hn37 : 256 - Int32.toInt x5 ≤ n37) : ws_X9_sweep_121 post K37 tr_fruits tr_standings tr_x tr_height tr_worth tr_ripe tr_foot tr_fork tr_settings no_apron no_basket no_ground no_bruised no_ladder no_helper no_today ru_length ru_program x1 x2 x3 x4 x5 pl_wanted pl_moves pl_picking pl_downs pl_near pl_seconds pl_many ru_given ru_stack ro_size ro_numbers := by
  have l0 : Int32.toInt (1 : Int32) = 1 := (by decide)
  intro v1 ev1
  have f2 : Int32.toInt (x5 + 1) = Int32.toInt x5 + Int32.toInt (1 : Int32) := ta_add _ _ (by omega)
  rw [← ev1] at f2
  have f3 := tp_r x3
  have f4 := tp_r x4
  have f5 := tp_r pl_moves
  have f6 := tp_r pl_picking
  have f7 := tp_r pl_downs
  exact hK37 x1 x2 x3 x4 v1 pl_wanted pl_moves pl_picking pl_downs pl_near pl_seconds pl_many ru_given ru_stack ro_size ro_numbers (by omega) (by omega) (by omega) (by omega) (by omega) (by omega) (fun k => by have q9 := h_pl_near k; omega) (fun k => by have q9 := h_pl_seconds k; omega) (by omega) (by omega)
set_option maxHeartbeats 8000000 in
set_option maxRecDepth 200000 in
theorem ts_X9_sweep_111 {post : Int32 → Int32 → Int32 → Int32 → Int32 → (Nat → Int32) → (Nat → Int32) → (Nat → Int32) → (Nat → Int32) → (Nat → Int32) → Int32 → (Nat → Int32) → Prop} {K37 : Int32 → Int32 → Int32 → Int32 → Int32 → Int32 → Int32 → Int32 → Int32 → (Nat → Int32) → (Nat → Int32) → (Nat → Int32) → (Nat → Int32) → (Nat → Int32) → Int32 → (Nat → Int32) → Prop} {n37 : Int} (tr_fruits : Int32) (tr_standings : Int32) (tr_x : Nat → Int32) (tr_height : Nat → Int32) (tr_worth : Nat → Int32) (tr_ripe : Nat → Int32) (tr_foot : Nat → Int32) (tr_fork : Nat → Int32) (tr_settings : Nat → Int32) (no_apron : Int32) (no_basket : Int32) (no_ground : Int32) (no_bruised : Int32) (no_ladder : Int32) (no_helper : Int32) (no_today : Int32) (ru_length : Int32) (ru_program : Nat → Int32) (h_tr_fruits : 0 ≤ Int32.toInt tr_fruits ∧ Int32.toInt tr_fruits ≤ 16) (h_tr_standings : 0 ≤ Int32.toInt tr_standings ∧ Int32.toInt tr_standings ≤ 8) (h_no_ladder : -1 ≤ Int32.toInt no_ladder ∧ Int32.toInt no_ladder ≤ 7) (h_no_today : 0 ≤ Int32.toInt no_today ∧ Int32.toInt no_today ≤ 9) (h_ru_length : 0 ≤ Int32.toInt ru_length ∧ Int32.toInt ru_length ≤ 40) (hpost : ∀ (r : Int32) (pl_wanted' : Int32) (pl_moves' : Int32) (pl_picking' : Int32) (pl_downs' : Int32) (pl_near' : Nat → Int32) (pl_seconds' : Nat → Int32) (pl_many' : Nat → Int32) (ru_given' : Nat → Int32) (ru_stack' : Nat → Int32) (ro_size' : Int32) (ro_numbers' : Nat → Int32), (-1 ≤ Int32.toInt r ∧ Int32.toInt r ≤ 2147483647) → (0 ≤ Int32.toInt pl_wanted' ∧ Int32.toInt pl_wanted' ≤ 65535) → (∀ k : Nat, 0 ≤ Int32.toInt (pl_near' k) ∧ Int32.toInt (pl_near' k) ≤ 65535) → (∀ k : Nat, 0 ≤ Int32.toInt (pl_seconds' k) ∧ Int32.toInt (pl_seconds' k) ≤ 99) → (0 ≤ Int32.toInt ro_size' ∧ Int32.toInt ro_size' ≤ 16) → post r pl_wanted' pl_moves' pl_picking' pl_downs' pl_near' pl_seconds' pl_many' ru_given' ru_stack' ro_size' ro_numbers') (hK37 : ∀ (x1 : Int32) (x2 : Int32) (x3 : Int32) (x4 : Int32) (x5 : Int32) (pl_wanted : Int32) (pl_moves : Int32) (pl_picking : Int32) (pl_downs : Int32) (pl_near : Nat → Int32) (pl_seconds : Nat → Int32) (pl_many : Nat → Int32) (ru_given : Nat → Int32) (ru_stack : Nat → Int32) (ro_size : Int32) (ro_numbers : Nat → Int32), (0 ≤ Int32.toInt x1 ∧ Int32.toInt x1 ≤ 9999) → (0 ≤ Int32.toInt x2 ∧ Int32.toInt x2 ≤ 255) → (0 ≤ Int32.toInt x3 ∧ Int32.toInt x3 ≤ 2147483647) → (-2147483648 ≤ Int32.toInt x4 ∧ Int32.toInt x4 ≤ 9999) → (1 ≤ Int32.toInt x5 ∧ Int32.toInt x5 ≤ 256) → (0 ≤ Int32.toInt pl_wanted ∧ Int32.toInt pl_wanted ≤ 65535) → (∀ k : Nat, 0 ≤ Int32.toInt (pl_near k) ∧ Int32.toInt (pl_near k) ≤ 65535) → (∀ k : Nat, 0 ≤ Int32.toInt (pl_seconds k) ∧ Int32.toInt (pl_seconds k) ≤ 99) → (0 ≤ Int32.toInt ro_size ∧ Int32.toInt ro_size ≤ 16) → (256 - Int32.toInt x5 < n37) → K37 x1 x2 x3 x4 x5 pl_wanted pl_moves pl_picking pl_downs pl_near pl_seconds pl_many ru_given ru_stack ro_size ro_numbers) (x1 : Int32) (x5 : Int32) (x6 : Int32) (x7 : Int32) (pl_wanted : Int32) (pl_moves : Int32) (pl_picking : Int32) (pl_downs : Int32) (pl_near : Nat → Int32) (pl_seconds : Nat → Int32) (pl_many : Nat → Int32) (ru_given : Nat → Int32) (ru_stack : Nat → Int32) (ro_size : Int32) (ro_numbers : Nat → Int32) (h_x1 : 0 ≤ Int32.toInt x1 ∧ Int32.toInt x1 ≤ 9999) (h_x5 : 1 ≤ Int32.toInt x5 ∧ Int32.toInt x5 ≤ 255) (h_x6 : 0 ≤ Int32.toInt x6 ∧ Int32.toInt x6 ≤ 2147483647) (h_x7 : -2147483648 ≤ Int32.toInt x7 ∧ Int32.toInt x7 ≤ 9999) (h_pl_wanted : 0 ≤ Int32.toInt pl_wanted ∧ Int32.toInt pl_wanted ≤ 65535) (h_pl_near : ∀ k : Nat, 0 ≤ Int32.toInt (pl_near k) ∧ Int32.toInt (pl_near k) ≤ 65535) (h_pl_seconds : ∀ k : Nat, 0 ≤ Int32.toInt (pl_seconds k) ∧ Int32.toInt (pl_seconds k) ≤ 99) (h_ro_size : 0 ≤ Int32.toInt ro_size ∧ Int32.toInt ro_size ≤ 16) (hn37 : 256 - Int32.toInt x5 ≤ n37) : ws_X9_sweep_111 post K37 tr_fruits tr_standings tr_x tr_height tr_worth tr_ripe tr_foot tr_fork tr_settings no_apron no_basket no_ground no_bruised no_ladder no_helper no_today ru_length ru_program x1 x5 x6 x7 pl_wanted pl_moves pl_picking pl_downs pl_near pl_seconds pl_many ru_given ru_stack ro_size ro_numbers := by
  have f8 := tp_r x6
  have f9 := tp_r x7
  have f10 := tp_r pl_moves
  have f11 := tp_r pl_picking
  have f12 := tp_r pl_downs
  exact ts_X9_sweep_121 tr_fruits tr_standings tr_x tr_height tr_worth tr_ripe tr_foot tr_fork tr_settings no_apron no_basket no_ground no_bruised no_ladder no_helper no_today ru_length ru_program h_tr_fruits h_tr_standings h_no_ladder h_no_today h_ru_length hpost hK37 x1 x5 x6 x7 x5 pl_wanted pl_moves pl_picking pl_downs pl_near pl_seconds pl_many ru_given ru_stack ro_size ro_numbers (by omega) (by omega) (by omega) (by omega) (by omega) (by omega) (fun k => by have q9 := h_pl_near k; omega) (fun k => by have q9 := h_pl_seconds k; omega) (by omega) (by omega)
set_option maxHeartbeats 8000000 in
set_option maxRecDepth 200000 in
theorem ts_X9_sweep_37 {post : Int32 → Int32 → Int32 → Int32 → Int32 → (Nat → Int32) → (Nat → Int32) → (Nat → Int32) → (Nat → Int32) → (Nat → Int32) → Int32 → (Nat → Int32) → Prop} {next : Int32 → Int32 → Int32 → Int32 → Int32 → Int32 → Int32 → Int32 → Int32 → (Nat → Int32) → (Nat → Int32) → (Nat → Int32) → (Nat → Int32) → (Nat → Int32) → Int32 → (Nat → Int32) → Prop} {n37 : Int} (tr_fruits : Int32) (tr_standings : Int32) (tr_x : Nat → Int32) (tr_height : Nat → Int32) (tr_worth : Nat → Int32) (tr_ripe : Nat → Int32) (tr_foot : Nat → Int32) (tr_fork : Nat → Int32) (tr_settings : Nat → Int32) (no_apron : Int32) (no_basket : Int32) (no_ground : Int32) (no_bruised : Int32) (no_ladder : Int32) (no_helper : Int32) (no_today : Int32) (ru_length : Int32) (ru_program : Nat → Int32) (h_tr_fruits : 0 ≤ Int32.toInt tr_fruits ∧ Int32.toInt tr_fruits ≤ 16) (h_tr_standings : 0 ≤ Int32.toInt tr_standings ∧ Int32.toInt tr_standings ≤ 8) (h_no_ladder : -1 ≤ Int32.toInt no_ladder ∧ Int32.toInt no_ladder ≤ 7) (h_no_today : 0 ≤ Int32.toInt no_today ∧ Int32.toInt no_today ≤ 9) (h_ru_length : 0 ≤ Int32.toInt ru_length ∧ Int32.toInt ru_length ≤ 40) (hpost : ∀ (r : Int32) (pl_wanted' : Int32) (pl_moves' : Int32) (pl_picking' : Int32) (pl_downs' : Int32) (pl_near' : Nat → Int32) (pl_seconds' : Nat → Int32) (pl_many' : Nat → Int32) (ru_given' : Nat → Int32) (ru_stack' : Nat → Int32) (ro_size' : Int32) (ro_numbers' : Nat → Int32), (-1 ≤ Int32.toInt r ∧ Int32.toInt r ≤ 2147483647) → (0 ≤ Int32.toInt pl_wanted' ∧ Int32.toInt pl_wanted' ≤ 65535) → (∀ k : Nat, 0 ≤ Int32.toInt (pl_near' k) ∧ Int32.toInt (pl_near' k) ≤ 65535) → (∀ k : Nat, 0 ≤ Int32.toInt (pl_seconds' k) ∧ Int32.toInt (pl_seconds' k) ≤ 99) → (0 ≤ Int32.toInt ro_size' ∧ Int32.toInt ro_size' ≤ 16) → post r pl_wanted' pl_moves' pl_picking' pl_downs' pl_near' pl_seconds' pl_many' ru_given' ru_stack' ro_size' ro_numbers') (hKn : ∀ (x1 : Int32) (x2 : Int32) (x3 : Int32) (x4 : Int32) (x5 : Int32) (pl_wanted : Int32) (pl_moves : Int32) (pl_picking : Int32) (pl_downs : Int32) (pl_near : Nat → Int32) (pl_seconds : Nat → Int32) (pl_many : Nat → Int32) (ru_given : Nat → Int32) (ru_stack : Nat → Int32) (ro_size : Int32) (ro_numbers : Nat → Int32), (0 ≤ Int32.toInt x1 ∧ Int32.toInt x1 ≤ 9999) → (0 ≤ Int32.toInt x2 ∧ Int32.toInt x2 ≤ 255) → (0 ≤ Int32.toInt x3 ∧ Int32.toInt x3 ≤ 2147483647) → (-2147483648 ≤ Int32.toInt x4 ∧ Int32.toInt x4 ≤ 9999) → (1 ≤ Int32.toInt x5 ∧ Int32.toInt x5 ≤ 256) → (0 ≤ Int32.toInt pl_wanted ∧ Int32.toInt pl_wanted ≤ 65535) → (∀ k : Nat, 0 ≤ Int32.toInt (pl_near k) ∧ Int32.toInt (pl_near k) ≤ 65535) → (∀ k : Nat, 0 ≤ Int32.toInt (pl_seconds k) ∧ Int32.toInt (pl_seconds k) ≤ 99) → (0 ≤ Int32.toInt ro_size ∧ Int32.toInt ro_size ≤ 16) → (256 - Int32.toInt x5 < n37) → next x1 x2 x3 x4 x5 pl_wanted pl_moves pl_picking pl_downs pl_near pl_seconds pl_many ru_given ru_stack ro_size ro_numbers) (x1 : Int32) (x2 : Int32) (x3 : Int32) (x4 : Int32) (x5 : Int32) (pl_wanted : Int32) (pl_moves : Int32) (pl_picking : Int32) (pl_downs : Int32) (pl_near : Nat → Int32) (pl_seconds : Nat → Int32) (pl_many : Nat → Int32) (ru_given : Nat → Int32) (ru_stack : Nat → Int32) (ro_size : Int32) (ro_numbers : Nat → Int32) (h_x1 : 0 ≤ Int32.toInt x1 ∧ Int32.toInt x1 ≤ 9999) (h_x2 : 0 ≤ Int32.toInt x2 ∧ Int32.toInt x2 ≤ 255) (h_x3 : 0 ≤ Int32.toInt x3 ∧ Int32.toInt x3 ≤ 2147483647) (h_x4 : -2147483648 ≤ Int32.toInt x4 ∧ Int32.toInt x4 ≤ 9999) (h_x5 : 1 ≤ Int32.toInt x5 ∧ Int32.toInt x5 ≤ 256) (h_pl_wanted : 0 ≤ Int32.toInt pl_wanted ∧ Int32.toInt pl_wanted ≤ 65535) (h_pl_near : ∀ k : Nat, 0 ≤ Int32.toInt (pl_near k) ∧ Int32.toInt (pl_near k) ≤ 65535) (h_pl_seconds : ∀ k : Nat, 0 ≤ Int32.toInt (pl_seconds k) ∧ Int32.toInt (pl_seconds k) ≤ 99) (h_ro_size : 0 ≤ Int32.toInt ro_size ∧ Int32.toInt ro_size ≤ 16) (hn37 : 256 - Int32.toInt x5 ≤ n37) : ws_X9_sweep_37 post next tr_fruits tr_standings tr_x tr_height tr_worth tr_ripe tr_foot tr_fork tr_settings no_apron no_basket no_ground no_bruised no_ladder no_helper no_today ru_length ru_program x1 x2 x3 x4 x5 pl_wanted pl_moves pl_picking pl_downs pl_near pl_seconds pl_many ru_given ru_stack ro_size ro_numbers := by
  have l0 : Int32.toInt (0 : Int32) = 0 := (by decide)
  have l1 : Int32.toInt (1 : Int32) = 1 := (by decide)
  have l2 : Int32.toInt (16 : Int32) = 16 := (by decide)
  intro v13 ev13
  have f14 := ti_shl1 8 256 tr_standings (by decide) (by omega)
  have hv13 := congrArg Int32.toInt ev13
  have f16 : Int32.toInt (v13 - 1) = Int32.toInt v13 - Int32.toInt (1 : Int32) := ta_sub _ _ (by omega)
  refine And.intro (fun c15 => ?_) (fun c15 => ?_)
  · skip
    have c15 := (fa_lt _ _).mp c15
    refine And.intro (fun h9 => absurd h9 (by decide)) (fun _ => ?_)
    refine And.intro (t_in (by omega)) ?_
    intro v17 ev17
    have f18 : Int32.toInt (0 + 1) = Int32.toInt (0 : Int32) + Int32.toInt (1 : Int32) := ta_add _ _ (by omega)
    rw [← ev17] at f18
    refine And.intro (fun c19 => ?_) (fun c19 => ?_)
    · skip
      have c19 := (fa_le _ _).mp c19
      exfalso; omega
    · skip
      have c19 := mt (fa_le _ _).mpr c19
      refine And.intro (t_in (by omega)) ?_
      intro v20 ev20
      have f21 : Int32.toInt (v17 + 1) = Int32.toInt v17 + Int32.toInt (1 : Int32) := ta_add _ _ (by omega)
      rw [← ev20] at f21
      have f22 := tp_r x3
      exact hpost _ _ _ _ _ _ _ _ _ _ _ _ (by omega) (by omega) (fun k => by have q9 := h_pl_near k; omega) (fun k => by have q9 := h_pl_seconds k; omega) (by omega)
  · skip
    have c15 := mt (fa_lt _ _).mpr c15
    refine t_X5_reachedBy (by omega) (fun k => by have q9 := h_pl_near k; omega) (by omega) (fun r23 h_r23 => ?_)
    intro v24 ev24
    have f25 := ti_andr pl_wanted r23 (by omega)
    have f26 := ti_andl pl_wanted r23 (by omega)
    have hv24 := congrArg Int32.toInt ev24
    refine t_X3_worthOf (by omega) (fun r27 => ?_)
    have f29 := tp_r r27
    have f30 := tp_r x3
    refine And.intro (fun c28 => ?_) (fun c28 => ?_)
    · skip
      have c28 := (fa_lt _ _).mp c28
      have f31 := tp_r x4
      have f32 := tp_r pl_moves
      have f33 := tp_r pl_picking
      have f34 := tp_r pl_downs
      exact ts_X9_sweep_121 tr_fruits tr_standings tr_x tr_height tr_worth tr_ripe tr_foot tr_fork tr_settings no_apron no_basket no_ground no_bruised no_ladder no_helper no_today ru_length ru_program h_tr_fruits h_tr_standings h_no_ladder h_no_today h_ru_length hpost hKn x1 x2 x3 x4 x5 pl_wanted pl_moves pl_picking pl_downs pl_near pl_seconds pl_many ru_given ru_stack ro_size ro_numbers (by omega) (by omega) (by omega) (by omega) (by omega) (by omega) (fun k => by have q9 := h_pl_near k; omega) (fun k => by have q9 := h_pl_seconds k; omega) (by omega) (by omega)
    · skip
      have c28 := mt (fa_lt _ _).mpr c28
      refine t_X5_workSeconds (by omega) (by omega) (fun k => by have q9 := h_pl_near k; omega) (fun k => by have q9 := h_pl_seconds k; omega) (by omega) (by omega) (by omega) (fun r39 pl_moves_35 pl_picking_36 pl_downs_37 pl_many_38 => ?_)
      have f41 := tp_r r39
      refine And.intro (fun c40 => ?_) (fun c40 => ?_)
      · skip
        have c40 := (fa_lt _ _).mp c40
        have f42 := tp_r x4
        have f43 := tp_r pl_moves_35
        have f44 := tp_r pl_picking_36
        have f45 := tp_r pl_downs_37
        exact ts_X9_sweep_121 tr_fruits tr_standings tr_x tr_height tr_worth tr_ripe tr_foot tr_fork tr_settings no_apron no_basket no_ground no_bruised no_ladder no_helper no_today ru_length ru_program h_tr_fruits h_tr_standings h_no_ladder h_no_today h_ru_length hpost hKn x1 x2 x3 x4 x5 pl_wanted pl_moves_35 pl_picking_36 pl_downs_37 pl_near pl_seconds pl_many_38 ru_given ru_stack ro_size ro_numbers (by omega) (by omega) (by omega) (by omega) (by omega) (by omega) (fun k => by have q9 := h_pl_near k; omega) (fun k => by have q9 := h_pl_seconds k; omega) (by omega) (by omega)
      · skip
        have c40 := mt (fa_lt _ _).mpr c40
        refine And.intro (fun c46 => ?_) (fun c46 => ?_)
        · skip
          have c46 := (fa_lt _ _).mp c46
          have f47 := tp_r pl_moves_35
          have f48 := tp_r pl_picking_36
          have f49 := tp_r pl_downs_37
          exact ts_X9_sweep_111 tr_fruits tr_standings tr_x tr_height tr_worth tr_ripe tr_foot tr_fork tr_settings no_apron no_basket no_ground no_bruised no_ladder no_helper no_today ru_length ru_program h_tr_fruits h_tr_standings h_no_ladder h_no_today h_ru_length hpost hKn x1 x5 r27 r39 pl_wanted pl_moves_35 pl_picking_36 pl_downs_37 pl_near pl_seconds pl_many_38 ru_given ru_stack ro_size ro_numbers (by omega) (by omega) (by omega) (by omega) (by omega) (fun k => by have q9 := h_pl_near k; omega) (fun k => by have q9 := h_pl_seconds k; omega) (by omega) (by omega)
        · skip
          have c46 := mt (fa_lt _ _).mpr c46
          have f51 := tp_r x4
          refine And.intro (fun c50 => ?_) (fun c50 => ?_)
          · skip
            have c50 := (fa_le _ _).mp c50
            have f52 := tp_r pl_moves_35
            have f53 := tp_r pl_picking_36
            have f54 := tp_r pl_downs_37
            exact ts_X9_sweep_121 tr_fruits tr_standings tr_x tr_height tr_worth tr_ripe tr_foot tr_fork tr_settings no_apron no_basket no_ground no_bruised no_ladder no_helper no_today ru_length ru_program h_tr_fruits h_tr_standings h_no_ladder h_no_today h_ru_length hpost hKn x1 x2 x3 x4 x5 pl_wanted pl_moves_35 pl_picking_36 pl_downs_37 pl_near pl_seconds pl_many_38 ru_given ru_stack ro_size ro_numbers (by omega) (by omega) (by omega) (by omega) (by omega) (by omega) (fun k => by have q9 := h_pl_near k; omega) (fun k => by have q9 := h_pl_seconds k; omega) (by omega) (by omega)
          · skip
            have c50 := mt (fa_le _ _).mpr c50
            have f55 := tp_r pl_moves_35
            have f56 := tp_r pl_picking_36
            have f57 := tp_r pl_downs_37
            exact ts_X9_sweep_111 tr_fruits tr_standings tr_x tr_height tr_worth tr_ripe tr_foot tr_fork tr_settings no_apron no_basket no_ground no_bruised no_ladder no_helper no_today ru_length ru_program h_tr_fruits h_tr_standings h_no_ladder h_no_today h_ru_length hpost hKn x1 x5 r27 r39 pl_wanted pl_moves_35 pl_picking_36 pl_downs_37 pl_near pl_seconds pl_many_38 ru_given ru_stack ro_size ro_numbers (by omega) (by omega) (by omega) (by omega) (by omega) (fun k => by have q9 := h_pl_near k; omega) (fun k => by have q9 := h_pl_seconds k; omega) (by omega) (by omega)
set_option maxHeartbeats 8000000 in
set_option maxRecDepth 200000 in
theorem tb_X9_sweep_37 {post : Int32 → Int32 → Int32 → Int32 → Int32 → (Nat → Int32) → (Nat → Int32) → (Nat → Int32) → (Nat → Int32) → (Nat → Int32) → Int32 → (Nat → Int32) → Prop} (tr_fruits : Int32) (tr_standings : Int32) (tr_x : Nat → Int32) (tr_height : Nat → Int32) (tr_worth : Nat → Int32) (tr_ripe : Nat → Int32) (tr_foot : Nat → Int32) (tr_fork : Nat → Int32) (tr_settings : Nat → Int32) (no_apron : Int32) (no_basket : Int32) (no_ground : Int32) (no_bruised : Int32) (no_ladder : Int32) (no_helper : Int32) (no_today : Int32) (ru_length : Int32) (ru_program : Nat → Int32) (h_tr_fruits : 0 ≤ Int32.toInt tr_fruits ∧ Int32.toInt tr_fruits ≤ 16) (h_tr_standings : 0 ≤ Int32.toInt tr_standings ∧ Int32.toInt tr_standings ≤ 8) (h_no_ladder : -1 ≤ Int32.toInt no_ladder ∧ Int32.toInt no_ladder ≤ 7) (h_no_today : 0 ≤ Int32.toInt no_today ∧ Int32.toInt no_today ≤ 9) (h_ru_length : 0 ≤ Int32.toInt ru_length ∧ Int32.toInt ru_length ≤ 40) (hpost : ∀ (r : Int32) (pl_wanted' : Int32) (pl_moves' : Int32) (pl_picking' : Int32) (pl_downs' : Int32) (pl_near' : Nat → Int32) (pl_seconds' : Nat → Int32) (pl_many' : Nat → Int32) (ru_given' : Nat → Int32) (ru_stack' : Nat → Int32) (ro_size' : Int32) (ro_numbers' : Nat → Int32), (-1 ≤ Int32.toInt r ∧ Int32.toInt r ≤ 2147483647) → (0 ≤ Int32.toInt pl_wanted' ∧ Int32.toInt pl_wanted' ≤ 65535) → (∀ k : Nat, 0 ≤ Int32.toInt (pl_near' k) ∧ Int32.toInt (pl_near' k) ≤ 65535) → (∀ k : Nat, 0 ≤ Int32.toInt (pl_seconds' k) ∧ Int32.toInt (pl_seconds' k) ≤ 99) → (0 ≤ Int32.toInt ro_size' ∧ Int32.toInt ro_size' ≤ 16) → post r pl_wanted' pl_moves' pl_picking' pl_downs' pl_near' pl_seconds' pl_many' ru_given' ru_stack' ro_size' ro_numbers') : ∀ (n : Nat) (x1 : Int32) (x2 : Int32) (x3 : Int32) (x4 : Int32) (x5 : Int32) (pl_wanted : Int32) (pl_moves : Int32) (pl_picking : Int32) (pl_downs : Int32) (pl_near : Nat → Int32) (pl_seconds : Nat → Int32) (pl_many : Nat → Int32) (ru_given : Nat → Int32) (ru_stack : Nat → Int32) (ro_size : Int32) (ro_numbers : Nat → Int32), (0 ≤ Int32.toInt x1 ∧ Int32.toInt x1 ≤ 9999) → (0 ≤ Int32.toInt x2 ∧ Int32.toInt x2 ≤ 255) → (0 ≤ Int32.toInt x3 ∧ Int32.toInt x3 ≤ 2147483647) → (-2147483648 ≤ Int32.toInt x4 ∧ Int32.toInt x4 ≤ 9999) → (1 ≤ Int32.toInt x5 ∧ Int32.toInt x5 ≤ 256) → (0 ≤ Int32.toInt pl_wanted ∧ Int32.toInt pl_wanted ≤ 65535) → (∀ k : Nat, 0 ≤ Int32.toInt (pl_near k) ∧ Int32.toInt (pl_near k) ≤ 65535) → (∀ k : Nat, 0 ≤ Int32.toInt (pl_seconds k) ∧ Int32.toInt (pl_seconds k) ≤ 99) → (0 ≤ Int32.toInt ro_size ∧ Int32.toInt ro_size ≤ 16) → (256 - Int32.toInt x5 < (n : Int)) → wb_X9_sweep_37 post tr_fruits tr_standings tr_x tr_height tr_worth tr_ripe tr_foot tr_fork tr_settings no_apron no_basket no_ground no_bruised no_ladder no_helper no_today ru_length ru_program n x1 x2 x3 x4 x5 pl_wanted pl_moves pl_picking pl_downs pl_near pl_seconds pl_many ru_given ru_stack ro_size ro_numbers := by
  intro n
  induction n with
  | zero =>
    intro x1 x2 x3 x4 x5 pl_wanted pl_moves pl_picking pl_downs pl_near pl_seconds pl_many ru_given ru_stack ro_size ro_numbers h_x1 h_x2 h_x3 h_x4 h_x5 h_pl_wanted h_pl_near h_pl_seconds h_ro_size hm
    exfalso; omega
  | succ n ih =>
    intro x1 x2 x3 x4 x5 pl_wanted pl_moves pl_picking pl_downs pl_near pl_seconds pl_many ru_given ru_stack ro_size ro_numbers h_x1 h_x2 h_x3 h_x4 h_x5 h_pl_wanted h_pl_near h_pl_seconds h_ro_size hm
    exact ts_X9_sweep_37 tr_fruits tr_standings tr_x tr_height tr_worth tr_ripe tr_foot tr_fork tr_settings no_apron no_basket no_ground no_bruised no_ladder no_helper no_today ru_length ru_program h_tr_fruits h_tr_standings h_no_ladder h_no_today h_ru_length hpost ih x1 x2 x3 x4 x5 pl_wanted pl_moves pl_picking pl_downs pl_near pl_seconds pl_many ru_given ru_stack ro_size ro_numbers h_x1 h_x2 h_x3 h_x4 h_x5 h_pl_wanted h_pl_near h_pl_seconds h_ro_size (by omega)
set_option maxHeartbeats 8000000 in
set_option maxRecDepth 200000 in
theorem t_X9_sweep {post : Int32 → Int32 → Int32 → Int32 → Int32 → (Nat → Int32) → (Nat → Int32) → (Nat → Int32) → (Nat → Int32) → (Nat → Int32) → Int32 → (Nat → Int32) → Prop} {p0 : Int32} {pl_wanted : Int32} {pl_moves : Int32} {pl_picking : Int32} {pl_downs : Int32} {pl_near : Nat → Int32} {pl_seconds : Nat → Int32} {pl_many : Nat → Int32} {tr_fruits : Int32} {tr_standings : Int32} {tr_x : Nat → Int32} {tr_height : Nat → Int32} {tr_worth : Nat → Int32} {tr_ripe : Nat → Int32} {tr_foot : Nat → Int32} {tr_fork : Nat → Int32} {tr_settings : Nat → Int32} {no_apron : Int32} {no_basket : Int32} {no_ground : Int32} {no_bruised : Int32} {no_ladder : Int32} {no_helper : Int32} {no_today : Int32} {ru_length : Int32} {ru_given : Nat → Int32} {ru_stack : Nat → Int32} {ru_program : Nat → Int32} {ro_size : Int32} {ro_numbers : Nat → Int32} (h_pl_wanted : 0 ≤ Int32.toInt pl_wanted ∧ Int32.toInt pl_wanted ≤ 65535) (h_pl_near : ∀ k : Nat, 0 ≤ Int32.toInt (pl_near k) ∧ Int32.toInt (pl_near k) ≤ 65535) (h_pl_seconds : ∀ k : Nat, 0 ≤ Int32.toInt (pl_seconds k) ∧ Int32.toInt (pl_seconds k) ≤ 99) (h_tr_fruits : 0 ≤ Int32.toInt tr_fruits ∧ Int32.toInt tr_fruits ≤ 16) (h_tr_standings : 0 ≤ Int32.toInt tr_standings ∧ Int32.toInt tr_standings ≤ 8) (h_no_ladder : -1 ≤ Int32.toInt no_ladder ∧ Int32.toInt no_ladder ≤ 7) (h_no_today : 0 ≤ Int32.toInt no_today ∧ Int32.toInt no_today ≤ 9) (h_ru_length : 0 ≤ Int32.toInt ru_length ∧ Int32.toInt ru_length ≤ 40) (h_ro_size : 0 ≤ Int32.toInt ro_size ∧ Int32.toInt ro_size ≤ 16) (hpost : ∀ (r : Int32) (pl_wanted' : Int32) (pl_moves' : Int32) (pl_picking' : Int32) (pl_downs' : Int32) (pl_near' : Nat → Int32) (pl_seconds' : Nat → Int32) (pl_many' : Nat → Int32) (ru_given' : Nat → Int32) (ru_stack' : Nat → Int32) (ro_size' : Int32) (ro_numbers' : Nat → Int32), (-1 ≤ Int32.toInt r ∧ Int32.toInt r ≤ 2147483647) → (0 ≤ Int32.toInt pl_wanted' ∧ Int32.toInt pl_wanted' ≤ 65535) → (∀ k : Nat, 0 ≤ Int32.toInt (pl_near' k) ∧ Int32.toInt (pl_near' k) ≤ 65535) → (∀ k : Nat, 0 ≤ Int32.toInt (pl_seconds' k) ∧ Int32.toInt (pl_seconds' k) ≤ 99) → (0 ≤ Int32.toInt ro_size' ∧ Int32.toInt ro_size' ≤ 16) → post r pl_wanted' pl_moves' pl_picking' pl_downs' pl_near' pl_seconds' pl_many' ru_given' ru_stack' ro_size' ro_numbers') : wp_X9_sweep post p0 pl_wanted pl_moves pl_picking pl_downs pl_near pl_seconds pl_many tr_fruits tr_standings tr_x tr_height tr_worth tr_ripe tr_foot tr_fork tr_settings no_apron no_basket no_ground no_bruised no_ladder no_helper no_today ru_length ru_given ru_stack ru_program ro_size ro_numbers := by
  have l0 : Int32.toInt ((-1) : Int32) = -1 := (by decide)
  have l1 : Int32.toInt (0 : Int32) = 0 := (by decide)
  have l2 : Int32.toInt (1 : Int32) = 1 := (by decide)
  have l3 : Int32.toInt (9999 : Int32) = 9999 := (by decide)
  have f59 := tp_r p0
  refine And.intro (fun c58 => ?_) (fun c58 => ?_)
  · skip
    have c58 := (fa_lt _ _).mp c58
    exact hpost _ _ _ _ _ _ _ _ _ _ _ _ (by omega) (by omega) (fun k => by have q9 := h_pl_near k; omega) (fun k => by have q9 := h_pl_seconds k; omega) (by omega)
  · skip
    have c58 := mt (fa_lt _ _).mpr c58
    refine And.intro (fun c60 => ?_) (fun c60 => ?_)
    · skip
      have c60 := (fa_le _ _).mp c60
      refine t_X5_lookAs (by omega) (by omega) (fun k => by have q9 := h_pl_near k; omega) (by omega) (by omega) (fun pl_wanted_61 pl_near_62 h_pl_wanted_61 h_pl_near_62 => ?_)
      refine t_X5_timeAll (by omega) (fun k => by have q9 := h_pl_near_62 k; omega) (fun k => by have q9 := h_pl_seconds k; omega) (by omega) (by omega) (by omega) (fun pl_seconds_63 ru_given_64 ru_stack_65 h_pl_seconds_63 => ?_)
      have f66 := tp_r pl_moves
      have f67 := tp_r pl_picking
      have f68 := tp_r pl_downs
      exact ⟨257, tb_X9_sweep_37 tr_fruits tr_standings tr_x tr_height tr_worth tr_ripe tr_foot tr_fork tr_settings no_apron no_basket no_ground no_bruised no_ladder no_helper no_today ru_length ru_program h_tr_fruits h_tr_standings h_no_ladder h_no_today h_ru_length hpost _ p0 0 0 0 1 pl_wanted_61 pl_moves pl_picking pl_downs pl_near_62 pl_seconds_63 pl_many ru_given_64 ru_stack_65 ro_size ro_numbers (by omega) (by omega) (by omega) (by omega) (by omega) (by omega) (fun k => by have q9 := h_pl_near_62 k; omega) (fun k => by have q9 := h_pl_seconds_63 k; omega) (by omega) (by omega)⟩
    · skip
      have c60 := mt (fa_le _ _).mpr c60
      exact hpost _ _ _ _ _ _ _ _ _ _ _ _ (by omega) (by omega) (fun k => by have q9 := h_pl_near k; omega) (fun k => by have q9 := h_pl_seconds k; omega) (by omega)
set_option maxHeartbeats 8000000 in
set_option maxRecDepth 200000 in
theorem ts_X5_addToDusk_52 {post : (Nat → Int32) → Prop} {K3 : Int32 → Int32 → Int32 → (Nat → Int32) → Prop} {n3 : Int} (hpost : ∀ (pl_best' : Nat → Int32), post pl_best') (hK3 : ∀ (x2 : Int32) (x3 : Int32) (x4 : Int32) (pl_best : Nat → Int32), (1 ≤ Int32.toInt x2 ∧ Int32.toInt x2 ≤ 99) → (0 ≤ Int32.toInt x4 ∧ Int32.toInt x4 ≤ 300) → (Int32.toInt x4 - 0 < n3) → K3 x2 x3 x4 pl_best) (x2 : Int32) (x3 : Int32) (x4 : Int32) (pl_best : Nat → Int32) (h_x2 : 1 ≤ Int32.toInt x2 ∧ Int32.toInt x2 ≤ 99) (h_x4 : 1 ≤ Int32.toInt x4 ∧ Int32.toInt x4 ≤ 300) (hn3 : Int32.toInt x4 - 0 ≤ n3) : ws_X5_addToDusk_52 post K3 x2 x3 x4 pl_best := by
  have l0 : Int32.toInt ((-1) : Int32) = -1 := (by decide)
  intro v1 ev1
  have f2 : Int32.toInt (x4 + (-1)) = Int32.toInt x4 + Int32.toInt ((-1) : Int32) := ta_add _ _ (by omega)
  rw [← ev1] at f2
  have f3 := tp_r x3
  exact hK3 x2 x3 v1 pl_best (by omega) (by omega) (by omega)
set_option maxHeartbeats 8000000 in
set_option maxRecDepth 200000 in
theorem ts_X5_addToDusk_3 {post : (Nat → Int32) → Prop} {next : Int32 → Int32 → Int32 → (Nat → Int32) → Prop} {n3 : Int} (hpost : ∀ (pl_best' : Nat → Int32), post pl_best') (hKn : ∀ (x2 : Int32) (x3 : Int32) (x4 : Int32) (pl_best : Nat → Int32), (1 ≤ Int32.toInt x2 ∧ Int32.toInt x2 ≤ 99) → (0 ≤ Int32.toInt x4 ∧ Int32.toInt x4 ≤ 300) → (Int32.toInt x4 - 0 < n3) → next x2 x3 x4 pl_best) (x2 : Int32) (x3 : Int32) (x4 : Int32) (pl_best : Nat → Int32) (h_x2 : 1 ≤ Int32.toInt x2 ∧ Int32.toInt x2 ≤ 99) (h_x4 : 0 ≤ Int32.toInt x4 ∧ Int32.toInt x4 ≤ 300) (hn3 : Int32.toInt x4 - 0 ≤ n3) : ws_X5_addToDusk_3 post next x2 x3 x4 pl_best := by
  have l0 : Int32.toInt ((-2147483648) : Int32) = -2147483648 := (by decide)
  refine And.intro (fun c4 => ?_) (fun c4 => ?_)
  · skip
    have c4 := (fa_lt _ _).mp c4
    exact hpost _ 
  · skip
    have c4 := mt (fa_lt _ _).mpr c4
    intro v5 ev5
    have f6 : Int32.toInt (x4 - x2) = Int32.toInt x4 - Int32.toInt x2 := ta_sub _ _ (by omega)
    rw [← ev5] at f6
    refine And.intro (t_in (by omega)) ?_
    intro v7 ev7
    have hv7 := congrArg Int32.toInt ev7
    have f10 := tp_r v7
    refine And.intro (fun c9 => ?_) (fun c9 => ?_)
    · skip
      have c9 := (fa_eq _ _).mp c9
      have f11 := tp_r x3
      exact ts_X5_addToDusk_52 hpost hKn x2 x3 x4 pl_best (by omega) (by omega) (by omega)
    · skip
      have c9 := mt (fa_eq _ _).mpr c9
      intro v12 ev12
      have hv12 := congrArg Int32.toInt ev12
      refine And.intro (t_in (by omega)) ?_
      have f15 := tp_r v12
      refine And.intro (fun c14 => ?_) (fun c14 => ?_)
      · skip
        have c14 := (fa_le _ _).mp c14
        have f17 := tp_r x3
        exact ts_X5_addToDusk_52 hpost hKn x2 x3 x4 pl_best (by omega) (by omega) (by omega)
      · skip
        have c14 := mt (fa_le _ _).mpr c14
        intro v18 ev18
        have hv18 := congrArg Int32.toInt ev18
        refine And.intro (t_in (by omega)) ?_
        have f19 := tp_r x3
        exact ts_X5_addToDusk_52 hpost hKn x2 x3 x4 (upd pl_best x4.toNatClampNeg v18) (by omega) (by omega) (by omega)
set_option maxHeartbeats 8000000 in
set_option maxRecDepth 200000 in
theorem tb_X5_addToDusk_3 {post : (Nat → Int32) → Prop} (hpost : ∀ (pl_best' : Nat → Int32), post pl_best') : ∀ (n : Nat) (x2 : Int32) (x3 : Int32) (x4 : Int32) (pl_best : Nat → Int32), (1 ≤ Int32.toInt x2 ∧ Int32.toInt x2 ≤ 99) → (0 ≤ Int32.toInt x4 ∧ Int32.toInt x4 ≤ 300) → (Int32.toInt x4 - 0 < (n : Int)) → wb_X5_addToDusk_3 post n x2 x3 x4 pl_best := by
  intro n
  induction n with
  | zero =>
    intro x2 x3 x4 pl_best h_x2 h_x4 hm
    exfalso; omega
  | succ n ih =>
    intro x2 x3 x4 pl_best h_x2 h_x4 hm
    exact ts_X5_addToDusk_3 hpost ih x2 x3 x4 pl_best h_x2 h_x4 (by omega)
set_option maxHeartbeats 8000000 in
set_option maxRecDepth 200000 in
theorem t_X5_addToDusk {post : (Nat → Int32) → Prop} {p0 : Int32} {p1 : Int32} {p2 : Int32} {pl_best : Nat → Int32} (h_p0 : 0 ≤ Int32.toInt p0 ∧ Int32.toInt p0 ≤ 300) (h_p1 : 1 ≤ Int32.toInt p1 ∧ Int32.toInt p1 ≤ 99) (hpost : ∀ (pl_best' : Nat → Int32), post pl_best') : wp_X5_addToDusk post p0 p1 p2 pl_best := by
  have f20 := tp_r p2
  exact ⟨302, tb_X5_addToDusk_3 hpost _ p1 p2 p0 pl_best (by omega) (by omega) (by omega)⟩
set_option maxHeartbeats 8000000 in
set_option maxRecDepth 200000 in
theorem ts_X5_fillDusk_123 {post : (Nat → Int32) → (Nat → Int32) → (Nat → Int32) → Prop} {K47 : Int32 → Int32 → Int32 → (Nat → Int32) → (Nat → Int32) → (Nat → Int32) → Prop} {n47 : Int} (tr_fruits : Int32) (tr_x : Nat → Int32) (tr_height : Nat → Int32) (tr_worth : Nat → Int32) (tr_ripe : Nat → Int32) (tr_foot : Nat → Int32) (tr_fork : Nat → Int32) (tr_settings : Nat → Int32) (no_apron : Int32) (no_basket : Int32) (no_ground : Int32) (no_bruised : Int32) (no_ladder : Int32) (no_helper : Int32) (no_today : Int32) (ru_length : Int32) (ru_program : Nat → Int32) (h_tr_fruits : 0 ≤ Int32.toInt tr_fruits ∧ Int32.toInt tr_fruits ≤ 16) (h_no_ladder : 0 ≤ Int32.toInt no_ladder ∧ Int32.toInt no_ladder ≤ 7) (h_no_today : 0 ≤ Int32.toInt no_today ∧ Int32.toInt no_today ≤ 9) (h_ru_length : 0 ≤ Int32.toInt ru_length ∧ Int32.toInt ru_length ≤ 40) (hpost : ∀ (pl_best' : Nat → Int32) (ru_given' : Nat → Int32) (ru_stack' : Nat → Int32), post pl_best' ru_given' ru_stack') (hK47 : ∀ (x2 : Int32) (x3 : Int32) (x4 : Int32) (pl_best : Nat → Int32) (ru_given : Nat → Int32) (ru_stack : Nat → Int32), (0 ≤ Int32.toInt x2 ∧ Int32.toInt x2 ≤ 300) → (0 ≤ Int32.toInt x3 ∧ Int32.toInt x3 ≤ 65535) → (0 ≤ Int32.toInt x4 ∧ Int32.toInt x4 ≤ 16) → (16 - Int32.toInt x4 < n47) → K47 x2 x3 x4 pl_best ru_given ru_stack) (x2 : Int32) (x3 : Int32) (x4 : Int32) (pl_best : Nat → Int32) (ru_given : Nat → Int32) (ru_stack : Nat → Int32) (h_x2 : 0 ≤ Int32.toInt x2 ∧ Int32.toInt x2 ≤ 300) (h_x3 : 0 ≤ Int32.toInt x3 ∧ Int32.toInt x3 ≤ 65535) (h_x4 : 0 ≤ Int32.toInt x4 ∧ Int32.toInt x4 ≤ 15) (hn47 : 16 - Int32.toInt x4 ≤ n47) : ws_X5_fillDusk_123 post K47 tr_fruits tr_x tr_height tr_worth tr_ripe tr_foot tr_fork tr_settings no_apron no_basket no_ground no_bruised no_ladder no_helper no_today ru_length ru_program x2 x3 x4 pl_best ru_given ru_stack := by
  have l0 : Int32.toInt (1 : Int32) = 1 := (by decide)
  intro v1 ev1
  have f2 : Int32.toInt (x4 + 1) = Int32.toInt x4 + Int32.toInt (1 : Int32) := ta_add _ _ (by omega)
  rw [← ev1] at f2
  exact hK47 x2 x3 v1 pl_best ru_given ru_stack (by omega) (by omega) (by omega) (by omega)
set_option maxHeartbeats 8000000 in
set_option maxRecDepth 200000 in
theorem ts_X5_fillDusk_47 {post : (Nat → Int32) → (Nat → Int32) → (Nat → Int32) → Prop} {next : Int32 → Int32 → Int32 → (Nat → Int32) → (Nat → Int32) → (Nat → Int32) → Prop} {n47 : Int} (tr_fruits : Int32) (tr_x : Nat → Int32) (tr_height : Nat → Int32) (tr_worth : Nat → Int32) (tr_ripe : Nat → Int32) (tr_foot : Nat → Int32) (tr_fork : Nat → Int32) (tr_settings : Nat → Int32) (no_apron : Int32) (no_basket : Int32) (no_ground : Int32) (no_bruised : Int32) (no_ladder : Int32) (no_helper : Int32) (no_today : Int32) (ru_length : Int32) (ru_program : Nat → Int32) (h_tr_fruits : 0 ≤ Int32.toInt tr_fruits ∧ Int32.toInt tr_fruits ≤ 16) (h_no_ladder : 0 ≤ Int32.toInt no_ladder ∧ Int32.toInt no_ladder ≤ 7) (h_no_today : 0 ≤ Int32.toInt no_today ∧ Int32.toInt no_today ≤ 9) (h_ru_length : 0 ≤ Int32.toInt ru_length ∧ Int32.toInt ru_length ≤ 40) (hpost : ∀ (pl_best' : Nat → Int32) (ru_given' : Nat → Int32) (ru_stack' : Nat → Int32), post pl_best' ru_given' ru_stack') (hKn : ∀ (x2 : Int32) (x3 : Int32) (x4 : Int32) (pl_best : Nat → Int32) (ru_given : Nat → Int32) (ru_stack : Nat → Int32), (0 ≤ Int32.toInt x2 ∧ Int32.toInt x2 ≤ 300) → (0 ≤ Int32.toInt x3 ∧ Int32.toInt x3 ≤ 65535) → (0 ≤ Int32.toInt x4 ∧ Int32.toInt x4 ≤ 16) → (16 - Int32.toInt x4 < n47) → next x2 x3 x4 pl_best ru_given ru_stack) (x2 : Int32) (x3 : Int32) (x4 : Int32) (pl_best : Nat → Int32) (ru_given : Nat → Int32) (ru_stack : Nat → Int32) (h_x2 : 0 ≤ Int32.toInt x2 ∧ Int32.toInt x2 ≤ 300) (h_x3 : 0 ≤ Int32.toInt x3 ∧ Int32.toInt x3 ≤ 65535) (h_x4 : 0 ≤ Int32.toInt x4 ∧ Int32.toInt x4 ≤ 16) (hn47 : 16 - Int32.toInt x4 ≤ n47) : ws_X5_fillDusk_47 post next tr_fruits tr_x tr_height tr_worth tr_ripe tr_foot tr_fork tr_settings no_apron no_basket no_ground no_bruised no_ladder no_helper no_today ru_length ru_program x2 x3 x4 pl_best ru_given ru_stack := by
  have l0 : Int32.toInt (0 : Int32) = 0 := (by decide)
  have l1 : Int32.toInt (1 : Int32) = 1 := (by decide)
  refine And.intro (fun c3 => ?_) (fun c3 => ?_)
  · skip
    have c3 := (fa_le _ _).mp c3
    exact hpost _ _ _ 
  · skip
    have c3 := mt (fa_le _ _).mpr c3
    intro v4 ev4
    have f5 := ti_shr x3 x4 (by omega)
    have hv4 := congrArg Int32.toInt ev4
    have f7 := ti_andr v4 1 (by omega)
    have f8 := ti_andl v4 1 (by omega)
    refine And.intro (fun c6 => ?_) (fun c6 => ?_)
    · skip
      have c6 := (fa_eq _ _).mp c6
      exact ts_X5_fillDusk_123 tr_fruits tr_x tr_height tr_worth tr_ripe tr_foot tr_fork tr_settings no_apron no_basket no_ground no_bruised no_ladder no_helper no_today ru_length ru_program h_tr_fruits h_no_ladder h_no_today h_ru_length hpost hKn x2 x3 x4 pl_best ru_given ru_stack (by omega) (by omega) (by omega) (by omega)
    · skip
      have c6 := mt (fa_eq _ _).mpr c6
      intro v9 ev9
      have f10 := ti_shl1 15 32768 x4 (by decide) (by omega)
      have hv9 := congrArg Int32.toInt ev9
      refine t_X0_pickSeconds (by omega) (by omega) (by omega) (by omega) (by omega) (fun r13 ru_given_11 ru_stack_12 h_r13 => ?_)
      intro v14 ev14
      have f15 := ti_max (1 : Int32) r13
      have hv14 := congrArg Int32.toInt ev14
      refine t_X3_worthOf (by omega) (fun r16 => ?_)
      intro v17 ev17
      intro v18 ev18
      have hv18 := congrArg Int32.toInt ev18
      refine t_X5_addToDusk (by omega) (by omega) (fun pl_best_20 => ?_)
      exact ts_X5_fillDusk_123 tr_fruits tr_x tr_height tr_worth tr_ripe tr_foot tr_fork tr_settings no_apron no_basket no_ground no_bruised no_ladder no_helper no_today ru_length ru_program h_tr_fruits h_no_ladder h_no_today h_ru_length hpost hKn x2 x3 x4 pl_best_20 ru_given_11 ru_stack_12 (by omega) (by omega) (by omega) (by omega)
set_option maxHeartbeats 8000000 in
set_option maxRecDepth 200000 in
theorem tb_X5_fillDusk_47 {post : (Nat → Int32) → (Nat → Int32) → (Nat → Int32) → Prop} (tr_fruits : Int32) (tr_x : Nat → Int32) (tr_height : Nat → Int32) (tr_worth : Nat → Int32) (tr_ripe : Nat → Int32) (tr_foot : Nat → Int32) (tr_fork : Nat → Int32) (tr_settings : Nat → Int32) (no_apron : Int32) (no_basket : Int32) (no_ground : Int32) (no_bruised : Int32) (no_ladder : Int32) (no_helper : Int32) (no_today : Int32) (ru_length : Int32) (ru_program : Nat → Int32) (h_tr_fruits : 0 ≤ Int32.toInt tr_fruits ∧ Int32.toInt tr_fruits ≤ 16) (h_no_ladder : 0 ≤ Int32.toInt no_ladder ∧ Int32.toInt no_ladder ≤ 7) (h_no_today : 0 ≤ Int32.toInt no_today ∧ Int32.toInt no_today ≤ 9) (h_ru_length : 0 ≤ Int32.toInt ru_length ∧ Int32.toInt ru_length ≤ 40) (hpost : ∀ (pl_best' : Nat → Int32) (ru_given' : Nat → Int32) (ru_stack' : Nat → Int32), post pl_best' ru_given' ru_stack') : ∀ (n : Nat) (x2 : Int32) (x3 : Int32) (x4 : Int32) (pl_best : Nat → Int32) (ru_given : Nat → Int32) (ru_stack : Nat → Int32), (0 ≤ Int32.toInt x2 ∧ Int32.toInt x2 ≤ 300) → (0 ≤ Int32.toInt x3 ∧ Int32.toInt x3 ≤ 65535) → (0 ≤ Int32.toInt x4 ∧ Int32.toInt x4 ≤ 16) → (16 - Int32.toInt x4 < (n : Int)) → wb_X5_fillDusk_47 post tr_fruits tr_x tr_height tr_worth tr_ripe tr_foot tr_fork tr_settings no_apron no_basket no_ground no_bruised no_ladder no_helper no_today ru_length ru_program n x2 x3 x4 pl_best ru_given ru_stack := by
  intro n
  induction n with
  | zero =>
    intro x2 x3 x4 pl_best ru_given ru_stack h_x2 h_x3 h_x4 hm
    exfalso; omega
  | succ n ih =>
    intro x2 x3 x4 pl_best ru_given ru_stack h_x2 h_x3 h_x4 hm
    exact ts_X5_fillDusk_47 tr_fruits tr_x tr_height tr_worth tr_ripe tr_foot tr_fork tr_settings no_apron no_basket no_ground no_bruised no_ladder no_helper no_today ru_length ru_program h_tr_fruits h_no_ladder h_no_today h_ru_length hpost ih x2 x3 x4 pl_best ru_given ru_stack h_x2 h_x3 h_x4 (by omega)
set_option maxHeartbeats 8000000 in
set_option maxRecDepth 200000 in
theorem ts_X5_fillDusk_17 {post : (Nat → Int32) → (Nat → Int32) → (Nat → Int32) → Prop} {next : Int32 → Int32 → (Nat → Int32) → (Nat → Int32) → (Nat → Int32) → Prop} {n17 : Int} (tr_fruits : Int32) (tr_x : Nat → Int32) (tr_height : Nat → Int32) (tr_worth : Nat → Int32) (tr_ripe : Nat → Int32) (tr_foot : Nat → Int32) (tr_fork : Nat → Int32) (tr_settings : Nat → Int32) (no_apron : Int32) (no_basket : Int32) (no_ground : Int32) (no_bruised : Int32) (no_ladder : Int32) (no_helper : Int32) (no_today : Int32) (ru_length : Int32) (ru_program : Nat → Int32) (h_tr_fruits : 0 ≤ Int32.toInt tr_fruits ∧ Int32.toInt tr_fruits ≤ 16) (h_no_ladder : 0 ≤ Int32.toInt no_ladder ∧ Int32.toInt no_ladder ≤ 7) (h_no_today : 0 ≤ Int32.toInt no_today ∧ Int32.toInt no_today ≤ 9) (h_ru_length : 0 ≤ Int32.toInt ru_length ∧ Int32.toInt ru_length ≤ 40) (hpost : ∀ (pl_best' : Nat → Int32) (ru_given' : Nat → Int32) (ru_stack' : Nat → Int32), post pl_best' ru_given' ru_stack') (hKn : ∀ (x2 : Int32) (x3 : Int32) (pl_best : Nat → Int32) (ru_given : Nat → Int32) (ru_stack : Nat → Int32), (0 ≤ Int32.toInt x2 ∧ Int32.toInt x2 ≤ 300) → (1 ≤ Int32.toInt x3 ∧ Int32.toInt x3 ≤ 301) → (301 - Int32.toInt x3 < n17) → next x2 x3 pl_best ru_given ru_stack) (x2 : Int32) (x3 : Int32) (pl_best : Nat → Int32) (ru_given : Nat → Int32) (ru_stack : Nat → Int32) (h_x2 : 0 ≤ Int32.toInt x2 ∧ Int32.toInt x2 ≤ 300) (h_x3 : 1 ≤ Int32.toInt x3 ∧ Int32.toInt x3 ≤ 301) (hn17 : 301 - Int32.toInt x3 ≤ n17) : ws_X5_fillDusk_17 post next tr_fruits tr_x tr_height tr_worth tr_ripe tr_foot tr_fork tr_settings no_apron no_basket no_ground no_bruised no_ladder no_helper no_today ru_length ru_program x2 x3 pl_best ru_given ru_stack := by
  have l0 : Int32.toInt ((-1) : Int32) = -1 := (by decide)
  have l1 : Int32.toInt (0 : Int32) = 0 := (by decide)
  have l2 : Int32.toInt (1 : Int32) = 1 := (by decide)
  have l3 : Int32.toInt (2 : Int32) = 2 := (by decide)
  refine And.intro (fun c21 => ?_) (fun c21 => ?_)
  · skip
    have c21 := (fa_lt _ _).mp c21
    refine And.intro (fun c22 => ?_) (fun c22 => ?_)
    · skip
      have c22 := mt (fa_eq _ _).mpr c22
      intro v23 ev23
      have hv23 := congrArg Int32.toInt ev23
      intro v25 ev25
      have hv25 := congrArg Int32.toInt ev25
      refine t_X3_within (by omega) (by omega) (fun r27 h_r27 => ?_)
      intro v28 ev28
      have f29 := ti_shl1 16 65536 tr_fruits (by decide) (by omega)
      have hv28 := congrArg Int32.toInt ev28
      intro v30 ev30
      intro v31 ev31
      refine t_X3_ripeBy (by omega) (by omega) (fun r32 h_r32 => ?_)
      intro v33 ev33
      have f34 := ti_andr ((v28 - 1) &&& (v31 ^^^ (-1))) r32 (by omega)
      have f36 : Int32.toInt (v28 - 1) = Int32.toInt v28 - Int32.toInt (1 : Int32) := ta_sub _ _ (by omega)
      have f37 := ti_andl (v28 - 1) (v31 ^^^ (-1)) (by omega)
      have f38 := ti_andl ((v28 - 1) &&& (v31 ^^^ (-1))) r32 (by omega)
      have hv33 := congrArg Int32.toInt ev33
      have f39 := ti_andr v33 r27 (by omega)
      have f40 := ti_andl v33 r27 (by omega)
      exact ⟨18, tb_X5_fillDusk_47 tr_fruits tr_x tr_height tr_worth tr_ripe tr_foot tr_fork tr_settings no_apron no_basket no_ground no_bruised no_ladder no_helper no_today ru_length ru_program h_tr_fruits h_no_ladder h_no_today h_ru_length hpost _ x2 (v33 &&& r27) 0 pl_best ru_given ru_stack (by omega) (by omega) (by omega) (by omega)⟩
    · skip
      have c22 := (fa_eq _ _).mp c22
      exfalso; omega
  · skip
    have c21 := mt (fa_lt _ _).mpr c21
    refine And.intro (t_in (by omega)) ?_
    intro v41 ev41
    have f42 : Int32.toInt (x3 + 1) = Int32.toInt x3 + Int32.toInt (1 : Int32) := ta_add _ _ (by omega)
    rw [← ev41] at f42
    exact hKn x2 v41 (upd pl_best x3.toNatClampNeg (-2147483648)) ru_given ru_stack (by omega) (by omega) (by omega)
set_option maxHeartbeats 8000000 in
set_option maxRecDepth 200000 in
theorem tb_X5_fillDusk_17 {post : (Nat → Int32) → (Nat → Int32) → (Nat → Int32) → Prop} (tr_fruits : Int32) (tr_x : Nat → Int32) (tr_height : Nat → Int32) (tr_worth : Nat → Int32) (tr_ripe : Nat → Int32) (tr_foot : Nat → Int32) (tr_fork : Nat → Int32) (tr_settings : Nat → Int32) (no_apron : Int32) (no_basket : Int32) (no_ground : Int32) (no_bruised : Int32) (no_ladder : Int32) (no_helper : Int32) (no_today : Int32) (ru_length : Int32) (ru_program : Nat → Int32) (h_tr_fruits : 0 ≤ Int32.toInt tr_fruits ∧ Int32.toInt tr_fruits ≤ 16) (h_no_ladder : 0 ≤ Int32.toInt no_ladder ∧ Int32.toInt no_ladder ≤ 7) (h_no_today : 0 ≤ Int32.toInt no_today ∧ Int32.toInt no_today ≤ 9) (h_ru_length : 0 ≤ Int32.toInt ru_length ∧ Int32.toInt ru_length ≤ 40) (hpost : ∀ (pl_best' : Nat → Int32) (ru_given' : Nat → Int32) (ru_stack' : Nat → Int32), post pl_best' ru_given' ru_stack') : ∀ (n : Nat) (x2 : Int32) (x3 : Int32) (pl_best : Nat → Int32) (ru_given : Nat → Int32) (ru_stack : Nat → Int32), (0 ≤ Int32.toInt x2 ∧ Int32.toInt x2 ≤ 300) → (1 ≤ Int32.toInt x3 ∧ Int32.toInt x3 ≤ 301) → (301 - Int32.toInt x3 < (n : Int)) → wb_X5_fillDusk_17 post tr_fruits tr_x tr_height tr_worth tr_ripe tr_foot tr_fork tr_settings no_apron no_basket no_ground no_bruised no_ladder no_helper no_today ru_length ru_program n x2 x3 pl_best ru_given ru_stack := by
  intro n
  induction n with
  | zero =>
    intro x2 x3 pl_best ru_given ru_stack h_x2 h_x3 hm
    exfalso; omega
  | succ n ih =>
    intro x2 x3 pl_best ru_given ru_stack h_x2 h_x3 hm
    exact ts_X5_fillDusk_17 tr_fruits tr_x tr_height tr_worth tr_ripe tr_foot tr_fork tr_settings no_apron no_basket no_ground no_bruised no_ladder no_helper no_today ru_length ru_program h_tr_fruits h_no_ladder h_no_today h_ru_length hpost ih x2 x3 pl_best ru_given ru_stack h_x2 h_x3 (by omega)
set_option maxHeartbeats 8000000 in
set_option maxRecDepth 200000 in
theorem t_X5_fillDusk {post : (Nat → Int32) → (Nat → Int32) → (Nat → Int32) → Prop} {p0 : Int32} {pl_best : Nat → Int32} {tr_fruits : Int32} {tr_x : Nat → Int32} {tr_height : Nat → Int32} {tr_worth : Nat → Int32} {tr_ripe : Nat → Int32} {tr_foot : Nat → Int32} {tr_fork : Nat → Int32} {tr_settings : Nat → Int32} {no_apron : Int32} {no_basket : Int32} {no_ground : Int32} {no_bruised : Int32} {no_ladder : Int32} {no_helper : Int32} {no_today : Int32} {ru_length : Int32} {ru_given : Nat → Int32} {ru_stack : Nat → Int32} {ru_program : Nat → Int32} (h_p0 : 0 ≤ Int32.toInt p0 ∧ Int32.toInt p0 ≤ 300) (h_tr_fruits : 0 ≤ Int32.toInt tr_fruits ∧ Int32.toInt tr_fruits ≤ 16) (h_no_ladder : 0 ≤ Int32.toInt no_ladder ∧ Int32.toInt no_ladder ≤ 7) (h_no_today : 0 ≤ Int32.toInt no_today ∧ Int32.toInt no_today ≤ 9) (h_ru_length : 0 ≤ Int32.toInt ru_length ∧ Int32.toInt ru_length ≤ 40) (hpost : ∀ (pl_best' : Nat → Int32) (ru_given' : Nat → Int32) (ru_stack' : Nat → Int32), post pl_best' ru_given' ru_stack') : wp_X5_fillDusk post p0 pl_best tr_fruits tr_x tr_height tr_worth tr_ripe tr_foot tr_fork tr_settings no_apron no_basket no_ground no_bruised no_ladder no_helper no_today ru_length ru_given ru_stack ru_program := by
  have l0 : Int32.toInt (0 : Int32) = 0 := (by decide)
  have l1 : Int32.toInt (1 : Int32) = 1 := (by decide)
  have l2 : Int32.toInt (300 : Int32) = 300 := (by decide)
  intro v43 ev43
  have f44 := ti_min p0 (300 : Int32)
  have hv43 := congrArg Int32.toInt ev43
  exact ⟨302, tb_X5_fillDusk_17 tr_fruits tr_x tr_height tr_worth tr_ripe tr_foot tr_fork tr_settings no_apron no_basket no_ground no_bruised no_ladder no_helper no_today ru_length ru_program h_tr_fruits h_no_ladder h_no_today h_ru_length hpost _ v43 1 (upd pl_best (0 : Int32).toNatClampNeg 0) ru_given ru_stack (by omega) (by omega) (by omega)⟩
