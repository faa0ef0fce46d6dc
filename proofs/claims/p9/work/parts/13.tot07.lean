set_option maxHeartbeats 8000000 in
set_option maxRecDepth 200000 in
theorem ts_X9_dusk_85 {post : Int32 → (Nat → Int32) → (Nat → Int32) → (Nat → Int32) → Int32 → (Nat → Int32) → Prop} {K45 : Int32 → Int32 → Int32 → Int32 → Int32 → (Nat → Int32) → (Nat → Int32) → (Nat → Int32) → Int32 → (Nat → Int32) → Prop} {n45 : Int} (tr_fruits : Int32) (tr_x : Nat → Int32) (tr_height : Nat → Int32) (tr_worth : Nat → Int32) (tr_ripe : Nat → Int32) (tr_foot : Nat → Int32) (tr_fork : Nat → Int32) (tr_settings : Nat → Int32) (no_apron : Int32) (no_basket : Int32) (no_ground : Int32) (no_bruised : Int32) (no_ladder : Int32) (no_helper : Int32) (no_today : Int32) (ru_length : Int32) (ru_program : Nat → Int32) (h_tr_fruits : 0 ≤ Int32.toInt tr_fruits ∧ Int32.toInt tr_fruits ≤ 16) (h_no_ladder : -1 ≤ Int32.toInt no_ladder ∧ Int32.toInt no_ladder ≤ 7) (h_no_today : 0 ≤ Int32.toInt no_today ∧ Int32.toInt no_today ≤ 9) (h_ru_length : 0 ≤ Int32.toInt ru_length ∧ Int32.toInt ru_length ≤ 40) (hpost : ∀ (r : Int32) (pl_best' : Nat → Int32) (ru_given' : Nat → Int32) (ru_stack' : Nat → Int32) (ro_size' : Int32) (ro_numbers' : Nat → Int32), (-2 ≤ Int32.toInt r ∧ Int32.toInt r ≤ 2147483647) → (0 ≤ Int32.toInt ro_size' ∧ Int32.toInt ro_size' ≤ 16) → post r pl_best' ru_given' ru_stack' ro_size' ro_numbers') (hK45 : ∀ (x1 : Int32) (x2 : Int32) (x3 : Int32) (x4 : Int32) (x5 : Int32) (pl_best : Nat → Int32) (ru_given : Nat → Int32) (ru_stack : Nat → Int32) (ro_size : Int32) (ro_numbers : Nat → Int32), (0 ≤ Int32.toInt x1 ∧ Int32.toInt x1 ≤ 300) → (0 ≤ Int32.toInt x2 ∧ Int32.toInt x2 ≤ 2147483647) → (0 ≤ Int32.toInt x3 ∧ Int32.toInt x3 ≤ 65535) → (0 ≤ Int32.toInt x4 ∧ Int32.toInt x4 ≤ 300) → (1 ≤ Int32.toInt x5 ∧ Int32.toInt x5 ≤ 301) → (0 ≤ Int32.toInt ro_size ∧ Int32.toInt ro_size ≤ 16) → (301 - Int32.toInt x5 < n45) → K45 x1 x2 x3 x4 x5 pl_best ru_given ru_stack ro_size ro_numbers) (x1 : Int32) (x2 : Int32) (x3 : Int32) (x4 : Int32) (x5 : Int32) (pl_best : Nat → Int32) (ru_given : Nat → Int32) (ru_stack : Nat → Int32) (ro_size : Int32) (ro_numbers : Nat → Int32) (h_x1 : 1 ≤ Int32.toInt x1 ∧ Int32.toInt x1 ≤ 300) (h_x2 : 0 ≤ Int32.toInt x2 ∧ Int32.toInt x2 ≤ 2147483647) (h_x3 : 0 ≤ Int32.toInt x3 ∧ Int32.toInt x3 ≤ 65535) (h_x4 : 0 ≤ Int32.toInt x4 ∧ Int32.toInt x4 ≤ 300) (h_x5 : 1 ≤ Int32.toInt x5 ∧ Int32.toInt x5 ≤ 300) (h_ro_size : 0 ≤ Int32.toInt ro_size ∧ Int32.toInt ro_size ≤ 16) (hn45 : 301 - Int32.toInt x5 ≤ n45) : ws_X9_dusk_85 post K45 tr_fruits tr_x tr_height tr_worth tr_ripe tr_foot tr_fork tr_settings no_apron no_basket no_ground no_bruised no_ladder no_helper no_today ru_length ru_program x1 x2 x3 x4 x5 pl_best ru_given ru_stack ro_size ro_numbers := by
  have l0 : Int32.toInt (1 : Int32) = 1 := (by decide)
  intro v1 ev1
  have f2 : Int32.toInt (x5 + 1) = Int32.toInt x5 + Int32.toInt (1 : Int32) := ta_add _ _ (by omega)
  rw [← ev1] at f2
  have f3 := tp_r x2
  exact hK45 x1 x2 x3 x4 v1 pl_best ru_given ru_stack ro_size ro_numbers (by omega) (by omega) (by omega) (by omega) (by omega) (by omega) (by omega)
set_option maxHeartbeats 8000000 in
set_option maxRecDepth 200000 in
theorem ts_X9_dusk_45 {post : Int32 → (Nat → Int32) → (Nat → Int32) → (Nat → Int32) → Int32 → (Nat → Int32) → Prop} {next : Int32 → Int32 → Int32 → Int32 → Int32 → (Nat → Int32) → (Nat → Int32) → (Nat → Int32) → Int32 → (Nat → Int32) → Prop} {n45 : Int} (tr_fruits : Int32) (tr_x : Nat → Int32) (tr_height : Nat → Int32) (tr_worth : Nat → Int32) (tr_ripe : Nat → Int32) (tr_foot : Nat → Int32) (tr_fork : Nat → Int32) (tr_settings : Nat → Int32) (no_apron : Int32) (no_basket : Int32) (no_ground : Int32) (no_bruised : Int32) (no_ladder : Int32) (no_helper : Int32) (no_today : Int32) (ru_length : Int32) (ru_program : Nat → Int32) (h_tr_fruits : 0 ≤ Int32.toInt tr_fruits ∧ Int32.toInt tr_fruits ≤ 16) (h_no_ladder : -1 ≤ Int32.toInt no_ladder ∧ Int32.toInt no_ladder ≤ 7) (h_no_today : 0 ≤ Int32.toInt no_today ∧ Int32.toInt no_today ≤ 9) (h_ru_length : 0 ≤ Int32.toInt ru_length ∧ Int32.toInt ru_length ≤ 40) (hpost : ∀ (r : Int32) (pl_best' : Nat → Int32) (ru_given' : Nat → Int32) (ru_stack' : Nat → Int32) (ro_size' : Int32) (ro_numbers' : Nat → Int32), (-2 ≤ Int32.toInt r ∧ Int32.toInt r ≤ 2147483647) → (0 ≤ Int32.toInt ro_size' ∧ Int32.toInt ro_size' ≤ 16) → post r pl_best' ru_given' ru_stack' ro_size' ro_numbers') (hKn : ∀ (x1 : Int32) (x2 : Int32) (x3 : Int32) (x4 : Int32) (x5 : Int32) (pl_best : Nat → Int32) (ru_given : Nat → Int32) (ru_stack : Nat → Int32) (ro_size : Int32) (ro_numbers : Nat → Int32), (0 ≤ Int32.toInt x1 ∧ Int32.toInt x1 ≤ 300) → (0 ≤ Int32.toInt x2 ∧ Int32.toInt x2 ≤ 2147483647) → (0 ≤ Int32.toInt x3 ∧ Int32.toInt x3 ≤ 65535) → (0 ≤ Int32.toInt x4 ∧ Int32.toInt x4 ≤ 300) → (1 ≤ Int32.toInt x5 ∧ Int32.toInt x5 ≤ 301) → (0 ≤ Int32.toInt ro_size ∧ Int32.toInt ro_size ≤ 16) → (301 - Int32.toInt x5 < n45) → next x1 x2 x3 x4 x5 pl_best ru_given ru_stack ro_size ro_numbers) (x1 : Int32) (x2 : Int32) (x3 : Int32) (x4 : Int32) (x5 : Int32) (pl_best : Nat → Int32) (ru_given : Nat → Int32) (ru_stack : Nat → Int32) (ro_size : Int32) (ro_numbers : Nat → Int32) (h_x1 : 0 ≤ Int32.toInt x1 ∧ Int32.toInt x1 ≤ 300) (h_x2 : 0 ≤ Int32.toInt x2 ∧ Int32.toInt x2 ≤ 2147483647) (h_x3 : 0 ≤ Int32.toInt x3 ∧ Int32.toInt x3 ≤ 65535) (h_x4 : 0 ≤ Int32.toInt x4 ∧ Int32.toInt x4 ≤ 300) (h_x5 : 1 ≤ Int32.toInt x5 ∧ Int32.toInt x5 ≤ 301) (h_ro_size : 0 ≤ Int32.toInt ro_size ∧ Int32.toInt ro_size ≤ 16) (hn45 : 301 - Int32.toInt x5 ≤ n45) : ws_X9_dusk_45 post next tr_fruits tr_x tr_height tr_worth tr_ripe tr_foot tr_fork tr_settings no_apron no_basket no_ground no_bruised no_ladder no_helper no_today ru_length ru_program x1 x2 x3 x4 x5 pl_best ru_given ru_stack ro_size ro_numbers := by
  have l0 : Int32.toInt ((-1) : Int32) = -1 := (by decide)
  have l1 : Int32.toInt ((-2147483648) : Int32) = -2147483648 := (by decide)
  have l2 : Int32.toInt (0 : Int32) = 0 := (by decide)
  have l3 : Int32.toInt (1 : Int32) = 1 := (by decide)
  have l4 : Int32.toInt (16 : Int32) = 16 := (by decide)
  have l5 : Int32.toInt (65535 : Int32) = 65535 := (by decide)
  refine And.intro (fun c4 => ?_) (fun c4 => ?_)
  · skip
    have c4 := (fa_lt _ _).mp c4
    refine And.intro (fun h9 => absurd h9 (by decide)) (fun _ => ?_)
    refine And.intro (t_in (by omega)) ?_
    intro v5 ev5
    have f6 : Int32.toInt (0 + 1) = Int32.toInt (0 : Int32) + Int32.toInt (1 : Int32) := ta_add _ _ (by omega)
    rw [← ev5] at f6
    refine And.intro (fun c7 => ?_) (fun c7 => ?_)
    · skip
      have c7 := (fa_le _ _).mp c7
      exfalso; omega
    · skip
      have c7 := mt (fa_le _ _).mpr c7
      refine And.intro (t_in (by omega)) ?_
      intro v8 ev8
      have f9 : Int32.toInt (v5 + 1) = Int32.toInt v5 + Int32.toInt (1 : Int32) := ta_add _ _ (by omega)
      rw [← ev8] at f9
      have f10 := tp_r x2
      exact hpost _ _ _ _ _ _ (by omega) (by omega)
  · skip
    have c4 := mt (fa_lt _ _).mpr c4
    refine And.intro (t_in (by omega)) ?_
    intro v11 ev11
    have hv11 := congrArg Int32.toInt ev11
    have f14 := tp_r v11
    refine And.intro (fun c13 => ?_) (fun c13 => ?_)
    · skip
      have c13 := mt (fa_eq _ _).mpr c13
      refine And.intro (t_in (by omega)) ?_
      intro v15 ev15
      have hv15 := congrArg Int32.toInt ev15
      intro v16 ev16
      have hv16 := congrArg Int32.toInt ev16
      have f19 := tp_r (v16 >>> (16 &&& 31))
      have f21 := tp_r x2
      refine And.intro (fun c18 => ?_) (fun c18 => ?_)
      · skip
        have c18 := (fa_le _ _).mp c18
        exact ts_X9_dusk_85 tr_fruits tr_x tr_height tr_worth tr_ripe tr_foot tr_fork tr_settings no_apron no_basket no_ground no_bruised no_ladder no_helper no_today ru_length ru_program h_tr_fruits h_no_ladder h_no_today h_ru_length hpost hKn x1 x2 x3 x4 x5 pl_best ru_given ru_stack ro_size ro_numbers (by omega) (by omega) (by omega) (by omega) (by omega) (by omega) (by omega)
      · skip
        have c18 := mt (fa_le _ _).mpr c18
        refine And.intro (t_in (by omega)) ?_
        intro v22 ev22
        have hv22 := congrArg Int32.toInt ev22
        have f24 := tp_r v22
        refine And.intro (fun c23 => ?_) (fun c23 => ?_)
        · skip
          have c23 := mt (fa_eq _ _).mpr c23
          refine And.intro (t_in (by omega)) ?_
          intro v25 ev25
          have f26 := tp_r (-(pl_best x5.toNatClampNeg))
          have f27 := ta_neg (pl_best x5.toNatClampNeg) (by omega)
          have hv25 := congrArg Int32.toInt ev25
          have f28 := ti_andr v25 65535 (by omega)
          exact ts_X9_dusk_85 tr_fruits tr_x tr_height tr_worth tr_ripe tr_foot tr_fork tr_settings no_apron no_basket no_ground no_bruised no_ladder no_helper no_today ru_length ru_program h_tr_fruits h_no_ladder h_no_today h_ru_length hpost hKn x1 (v16 >>> (16 &&& 31)) (v25 &&& 65535) x5 x5 pl_best ru_given ru_stack ro_size ro_numbers (by omega) (by omega) (by omega) (by omega) (by omega) (by omega) (by omega)
        · skip
          have c23 := (fa_eq _ _).mp c23
          exfalso; omega
    · skip
      have c13 := (fa_eq _ _).mp c13
      have f30 := tp_r x2
      refine And.intro (fun c29 => ?_) (fun c29 => ?_)
      · skip
        have c29 := (fa_le _ _).mp c29
        exact ts_X9_dusk_85 tr_fruits tr_x tr_height tr_worth tr_ripe tr_foot tr_fork tr_settings no_apron no_basket no_ground no_bruised no_ladder no_helper no_today ru_length ru_program h_tr_fruits h_no_ladder h_no_today h_ru_length hpost hKn x1 x2 x3 x4 x5 pl_best ru_given ru_stack ro_size ro_numbers (by omega) (by omega) (by omega) (by omega) (by omega) (by omega) (by omega)
      · skip
        have c29 := mt (fa_le _ _).mpr c29
        exfalso; omega
set_option maxHeartbeats 8000000 in
set_option maxRecDepth 200000 in
theorem tb_X9_dusk_45 {post : Int32 → (Nat → Int32) → (Nat → Int32) → (Nat → Int32) → Int32 → (Nat → Int32) → Prop} (tr_fruits : Int32) (tr_x : Nat → Int32) (tr_height : Nat → Int32) (tr_worth : Nat → Int32) (tr_ripe : Nat → Int32) (tr_foot : Nat → Int32) (tr_fork : Nat → Int32) (tr_settings : Nat → Int32) (no_apron : Int32) (no_basket : Int32) (no_ground : Int32) (no_bruised : Int32) (no_ladder : Int32) (no_helper : Int32) (no_today : Int32) (ru_length : Int32) (ru_program : Nat → Int32) (h_tr_fruits : 0 ≤ Int32.toInt tr_fruits ∧ Int32.toInt tr_fruits ≤ 16) (h_no_ladder : -1 ≤ Int32.toInt no_ladder ∧ Int32.toInt no_ladder ≤ 7) (h_no_today : 0 ≤ Int32.toInt no_today ∧ Int32.toInt no_today ≤ 9) (h_ru_length : 0 ≤ Int32.toInt ru_length ∧ Int32.toInt ru_length ≤ 40) (hpost : ∀ (r : Int32) (pl_best' : Nat → Int32) (ru_given' : Nat → Int32) (ru_stack' : Nat → Int32) (ro_size' : Int32) (ro_numbers' : Nat → Int32), (-2 ≤ Int32.toInt r ∧ Int32.toInt r ≤ 2147483647) → (0 ≤ Int32.toInt ro_size' ∧ Int32.toInt ro_size' ≤ 16) → post r pl_best' ru_given' ru_stack' ro_size' ro_numbers') : ∀ (n : Nat) (x1 : Int32) (x2 : Int32) (x3 : Int32) (x4 : Int32) (x5 : Int32) (pl_best : Nat → Int32) (ru_given : Nat → Int32) (ru_stack : Nat → Int32) (ro_size : Int32) (ro_numbers : Nat → Int32), (0 ≤ Int32.toInt x1 ∧ Int32.toInt x1 ≤ 300) → (0 ≤ Int32.toInt x2 ∧ Int32.toInt x2 ≤ 2147483647) → (0 ≤ Int32.toInt x3 ∧ Int32.toInt x3 ≤ 65535) → (0 ≤ Int32.toInt x4 ∧ Int32.toInt x4 ≤ 300) → (1 ≤ Int32.toInt x5 ∧ Int32.toInt x5 ≤ 301) → (0 ≤ Int32.toInt ro_size ∧ Int32.toInt ro_size ≤ 16) → (301 - Int32.toInt x5 < (n : Int)) → wb_X9_dusk_45 post tr_fruits tr_x tr_height tr_worth tr_ripe tr_foot tr_fork tr_settings no_apron no_basket no_ground no_bruised no_ladder no_helper no_today ru_length ru_program n x1 x2 x3 x4 x5 pl_best ru_given ru_stack ro_size ro_numbers := by
  intro n
  induction n with
  | zero =>
    intro x1 x2 x3 x4 x5 pl_best ru_given ru_stack ro_size ro_numbers h_x1 h_x2 h_x3 h_x4 h_x5 h_ro_size hm
    exfalso; omega
  | succ n ih =>
    intro x1 x2 x3 x4 x5 pl_best ru_given ru_stack ro_size ro_numbers h_x1 h_x2 h_x3 h_x4 h_x5 h_ro_size hm
    exact ts_X9_dusk_45 tr_fruits tr_x tr_height tr_worth tr_ripe tr_foot tr_fork tr_settings no_apron no_basket no_ground no_bruised no_ladder no_helper no_today ru_length ru_program h_tr_fruits h_no_ladder h_no_today h_ru_length hpost ih x1 x2 x3 x4 x5 pl_best ru_given ru_stack ro_size ro_numbers h_x1 h_x2 h_x3 h_x4 h_x5 h_ro_size (by omega)
set_option maxHeartbeats 8000000 in
set_option maxRecDepth 200000 in
theorem t_X9_dusk {post : Int32 → (Nat → Int32) → (Nat → Int32) → (Nat → Int32) → Int32 → (Nat → Int32) → Prop} {p0 : Int32} {pl_best : Nat → Int32} {tr_fruits : Int32} {tr_x : Nat → Int32} {tr_height : Nat → Int32} {tr_worth : Nat → Int32} {tr_ripe : Nat → Int32} {tr_foot : Nat → Int32} {tr_fork : Nat → Int32} {tr_settings : Nat → Int32} {no_apron : Int32} {no_basket : Int32} {no_ground : Int32} {no_bruised : Int32} {no_ladder : Int32} {no_helper : Int32} {no_today : Int32} {ru_length : Int32} {ru_given : Nat → Int32} {ru_stack : Nat → Int32} {ru_program : Nat → Int32} {ro_size : Int32} {ro_numbers : Nat → Int32} (h_tr_fruits : 0 ≤ Int32.toInt tr_fruits ∧ Int32.toInt tr_fruits ≤ 16) (h_no_ladder : -1 ≤ Int32.toInt no_ladder ∧ Int32.toInt no_ladder ≤ 7) (h_no_today : 0 ≤ Int32.toInt no_today ∧ Int32.toInt no_today ≤ 9) (h_ru_length : 0 ≤ Int32.toInt ru_length ∧ Int32.toInt ru_length ≤ 40) (h_ro_size : 0 ≤ Int32.toInt ro_size ∧ Int32.toInt ro_size ≤ 16) (hpost : ∀ (r : Int32) (pl_best' : Nat → Int32) (ru_given' : Nat → Int32) (ru_stack' : Nat → Int32) (ro_size' : Int32) (ro_numbers' : Nat → Int32), (-2 ≤ Int32.toInt r ∧ Int32.toInt r ≤ 2147483647) → (0 ≤ Int32.toInt ro_size' ∧ Int32.toInt ro_size' ≤ 16) → post r pl_best' ru_given' ru_stack' ro_size' ro_numbers') : wp_X9_dusk post p0 pl_best tr_fruits tr_x tr_height tr_worth tr_ripe tr_foot tr_fork tr_settings no_apron no_basket no_ground no_bruised no_ladder no_helper no_today ru_length ru_given ru_stack ru_program ro_size ro_numbers := by
  have l0 : Int32.toInt ((-1) : Int32) = -1 := (by decide)
  have l1 : Int32.toInt ((-2) : Int32) = -2 := (by decide)
  have l2 : Int32.toInt (0 : Int32) = 0 := (by decide)
  have l3 : Int32.toInt (1 : Int32) = 1 := (by decide)
  have l4 : Int32.toInt (300 : Int32) = 300 := (by decide)
  have f32 := tp_r p0
  refine And.intro (fun c31 => ?_) (fun c31 => ?_)
  · skip
    have c31 := (fa_lt _ _).mp c31
    exact hpost _ _ _ _ _ _ (by omega) (by omega)
  · skip
    have c31 := mt (fa_lt _ _).mpr c31
    refine And.intro (fun c33 => ?_) (fun c33 => ?_)
    · skip
      have c33 := (fa_le _ _).mp c33
      refine And.intro (fun c34 => ?_) (fun c34 => ?_)
      · skip
        have c34 := mt (fa_eq _ _).mpr c34
        refine t_X5_fillDusk (by omega) (by omega) (by omega) (by omega) (by omega) (fun pl_best_35 ru_given_36 ru_stack_37 => ?_)
        exact ⟨302, tb_X9_dusk_45 tr_fruits tr_x tr_height tr_worth tr_ripe tr_foot tr_fork tr_settings no_apron no_basket no_ground no_bruised no_ladder no_helper no_today ru_length ru_program h_tr_fruits h_no_ladder h_no_today h_ru_length hpost _ p0 0 0 0 1 pl_best_35 ru_given_36 ru_stack_37 ro_size ro_numbers (by omega) (by omega) (by omega) (by omega) (by omega) (by omega) (by omega)⟩
      · skip
        have c34 := (fa_eq _ _).mp c34
        exact hpost _ _ _ _ _ _ (by omega) (by omega)
    · skip
      have c33 := mt (fa_le _ _).mpr c33
      exact hpost _ _ _ _ _ _ (by omega) (by omega)
set_option maxHeartbeats 8000000 in
set_option maxRecDepth 200000 in
theorem ts_X3_firstUncovering_29 {post : Int32 → Prop} {K2 : Int32 → Int32 → Int32 → Prop} {n2 : Int} (tr_fruits : Int32) (tr_x : Nat → Int32) (tr_height : Nat → Int32) (h_tr_fruits : 0 ≤ Int32.toInt tr_fruits ∧ Int32.toInt tr_fruits ≤ 16) (hpost : ∀ (r : Int32) , (-1 ≤ Int32.toInt r ∧ Int32.toInt r ≤ 15) → post r) (hK2 : ∀ (x1 : Int32) (x2 : Int32) (x3 : Int32), (0 ≤ Int32.toInt x1 ∧ Int32.toInt x1 ≤ 65535) → (0 ≤ Int32.toInt x2 ∧ Int32.toInt x2 ≤ 65535) → (0 ≤ Int32.toInt x3 ∧ Int32.toInt x3 ≤ 16) → (16 - Int32.toInt x3 < n2) → K2 x1 x2 x3) (x1 : Int32) (x2 : Int32) (x3 : Int32) (h_x1 : 0 ≤ Int32.toInt x1 ∧ Int32.toInt x1 ≤ 65535) (h_x2 : 0 ≤ Int32.toInt x2 ∧ Int32.toInt x2 ≤ 65535) (h_x3 : 0 ≤ Int32.toInt x3 ∧ Int32.toInt x3 ≤ 15) (hn2 : 16 - Int32.toInt x3 ≤ n2) : ws_X3_firstUncovering_29 post K2 tr_fruits tr_x tr_height x1 x2 x3 := by
  have l0 : Int32.toInt (1 : Int32) = 1 := (by decide)
  intro v1 ev1
  have f2 : Int32.toInt (x3 + 1) = Int32.toInt x3 + Int32.toInt (1 : Int32) := ta_add _ _ (by omega)
  rw [← ev1] at f2
  exact hK2 x1 x2 v1 (by omega) (by omega) (by omega) (by omega)
set_option maxHeartbeats 8000000 in
set_option maxRecDepth 200000 in
theorem ts_X3_firstUncovering_2 {post : Int32 → Prop} {next : Int32 → Int32 → Int32 → Prop} {n2 : Int} (tr_fruits : Int32) (tr_x : Nat → Int32) (tr_height : Nat → Int32) (h_tr_fruits : 0 ≤ Int32.toInt tr_fruits ∧ Int32.toInt tr_fruits ≤ 16) (hpost : ∀ (r : Int32) , (-1 ≤ Int32.toInt r ∧ Int32.toInt r ≤ 15) → post r) (hKn : ∀ (x1 : Int32) (x2 : Int32) (x3 : Int32), (0 ≤ Int32.toInt x1 ∧ Int32.toInt x1 ≤ 65535) → (0 ≤ Int32.toInt x2 ∧ Int32.toInt x2 ≤ 65535) → (0 ≤ Int32.toInt x3 ∧ Int32.toInt x3 ≤ 16) → (16 - Int32.toInt x3 < n2) → next x1 x2 x3) (x1 : Int32) (x2 : Int32) (x3 : Int32) (h_x1 : 0 ≤ Int32.toInt x1 ∧ Int32.toInt x1 ≤ 65535) (h_x2 : 0 ≤ Int32.toInt x2 ∧ Int32.toInt x2 ≤ 65535) (h_x3 : 0 ≤ Int32.toInt x3 ∧ Int32.toInt x3 ≤ 16) (hn2 : 16 - Int32.toInt x3 ≤ n2) : ws_X3_firstUncovering_2 post next tr_fruits tr_x tr_height x1 x2 x3 := by
  have l0 : Int32.toInt ((-1) : Int32) = -1 := (by decide)
  have l1 : Int32.toInt (0 : Int32) = 0 := (by decide)
  have l2 : Int32.toInt (1 : Int32) = 1 := (by decide)
  refine And.intro (fun c3 => ?_) (fun c3 => ?_)
  · skip
    have c3 := (fa_le _ _).mp c3
    exact hpost _ (by omega)
  · skip
    have c3 := mt (fa_le _ _).mpr c3
    intro v4 ev4
    have f5 := ti_shr x1 x3 (by omega)
    have hv4 := congrArg Int32.toInt ev4
    have f7 := ti_andr v4 1 (by omega)
    have f8 := ti_andl v4 1 (by omega)
    refine And.intro (fun c6 => ?_) (fun c6 => ?_)
    · skip
      have c6 := (fa_eq _ _).mp c6
      exact ts_X3_firstUncovering_29 tr_fruits tr_x tr_height h_tr_fruits hpost hKn x1 x2 x3 (by omega) (by omega) (by omega) (by omega)
    · skip
      have c6 := mt (fa_eq _ _).mpr c6
      refine t_X3_lowerThan (by omega) (by omega) (by omega) (fun r9 h_r9 => ?_)
      refine And.intro (fun c10 => ?_) (fun c10 => ?_)
      · skip
        have c10 := mt (fa_eq _ _).mpr c10
        exact ts_X3_firstUncovering_29 tr_fruits tr_x tr_height h_tr_fruits hpost hKn x1 x2 x3 (by omega) (by omega) (by omega) (by omega)
      · skip
        have c10 := (fa_eq _ _).mp c10
        exact hpost _ (by omega)
set_option maxHeartbeats 8000000 in
set_option maxRecDepth 200000 in
theorem tb_X3_firstUncovering_2 {post : Int32 → Prop} (tr_fruits : Int32) (tr_x : Nat → Int32) (tr_height : Nat → Int32) (h_tr_fruits : 0 ≤ Int32.toInt tr_fruits ∧ Int32.toInt tr_fruits ≤ 16) (hpost : ∀ (r : Int32) , (-1 ≤ Int32.toInt r ∧ Int32.toInt r ≤ 15) → post r) : ∀ (n : Nat) (x1 : Int32) (x2 : Int32) (x3 : Int32), (0 ≤ Int32.toInt x1 ∧ Int32.toInt x1 ≤ 65535) → (0 ≤ Int32.toInt x2 ∧ Int32.toInt x2 ≤ 65535) → (0 ≤ Int32.toInt x3 ∧ Int32.toInt x3 ≤ 16) → (16 - Int32.toInt x3 < (n : Int)) → wb_X3_firstUncovering_2 post tr_fruits tr_x tr_height n x1 x2 x3 := by
  intro n
  induction n with
  | zero =>
    intro x1 x2 x3 h_x1 h_x2 h_x3 hm
    exfalso; omega
  | succ n ih =>
    intro x1 x2 x3 h_x1 h_x2 h_x3 hm
    exact ts_X3_firstUncovering_2 tr_fruits tr_x tr_height h_tr_fruits hpost ih x1 x2 x3 h_x1 h_x2 h_x3 (by omega)
set_option maxHeartbeats 8000000 in
set_option maxRecDepth 200000 in
theorem t_X3_firstUncovering {post : Int32 → Prop} {p0 : Int32} {p1 : Int32} {tr_fruits : Int32} {tr_x : Nat → Int32} {tr_height : Nat → Int32} (h_p0 : 0 ≤ Int32.toInt p0 ∧ Int32.toInt p0 ≤ 65535) (h_p1 : 0 ≤ Int32.toInt p1 ∧ Int32.toInt p1 ≤ 65535) (h_tr_fruits : 0 ≤ Int32.toInt tr_fruits ∧ Int32.toInt tr_fruits ≤ 16) (hpost : ∀ (r : Int32) , (-1 ≤ Int32.toInt r ∧ Int32.toInt r ≤ 15) → post r) : wp_X3_firstUncovering post p0 p1 tr_fruits tr_x tr_height := by
  have l0 : Int32.toInt (0 : Int32) = 0 := (by decide)
  exact ⟨18, tb_X3_firstUncovering_2 tr_fruits tr_x tr_height h_tr_fruits hpost _ p0 p1 0 (by omega) (by omega) (by omega) (by omega)⟩
set_option maxHeartbeats 8000000 in
set_option maxRecDepth 200000 in
theorem ts_X9_gentle_91 {post : Int32 → Int32 → (Nat → Int32) → Prop} (tr_fruits : Int32) (tr_x : Nat → Int32) (tr_height : Nat → Int32) (tr_ripe : Nat → Int32) (tr_foot : Nat → Int32) (tr_fork : Nat → Int32) (tr_settings : Nat → Int32) (no_apron : Int32) (no_basket : Int32) (no_ground : Int32) (no_ladder : Int32) (no_helper : Int32) (no_today : Int32) (h_tr_fruits : 0 ≤ Int32.toInt tr_fruits ∧ Int32.toInt tr_fruits ≤ 16) (h_no_ladder : -1 ≤ Int32.toInt no_ladder ∧ Int32.toInt no_ladder ≤ 7) (h_no_today : 0 ≤ Int32.toInt no_today ∧ Int32.toInt no_today ≤ 9) (hpost : ∀ (r : Int32) (ro_size' : Int32) (ro_numbers' : Nat → Int32), (-2 ≤ Int32.toInt r ∧ Int32.toInt r ≤ 16) → (0 ≤ Int32.toInt ro_size' ∧ Int32.toInt ro_size' ≤ 16) → post r ro_size' ro_numbers') (ro_size : Int32) (ro_numbers : Nat → Int32) (h_ro_size : 0 ≤ Int32.toInt ro_size ∧ Int32.toInt ro_size ≤ 16) : ws_X9_gentle_91 post tr_fruits tr_x tr_height tr_ripe tr_foot tr_fork tr_settings no_apron no_basket no_ground no_ladder no_helper no_today ro_size ro_numbers := by
  exact hpost _ _ _ (by omega) (by omega)
set_option maxHeartbeats 8000000 in
set_option maxRecDepth 200000 in
theorem ts_X9_gentle_39 {post : Int32 → Int32 → (Nat → Int32) → Prop} {next : Int32 → Int32 → Int32 → Int32 → (Nat → Int32) → Prop} {n39 : Int} (tr_fruits : Int32) (tr_x : Nat → Int32) (tr_height : Nat → Int32) (tr_ripe : Nat → Int32) (tr_foot : Nat → Int32) (tr_fork : Nat → Int32) (tr_settings : Nat → Int32) (no_apron : Int32) (no_basket : Int32) (no_ground : Int32) (no_ladder : Int32) (no_helper : Int32) (no_today : Int32) (h_tr_fruits : 0 ≤ Int32.toInt tr_fruits ∧ Int32.toInt tr_fruits ≤ 16) (h_no_ladder : -1 ≤ Int32.toInt no_ladder ∧ Int32.toInt no_ladder ≤ 7) (h_no_today : 0 ≤ Int32.toInt no_today ∧ Int32.toInt no_today ≤ 9) (hpost : ∀ (r : Int32) (ro_size' : Int32) (ro_numbers' : Nat → Int32), (-2 ≤ Int32.toInt r ∧ Int32.toInt r ≤ 16) → (0 ≤ Int32.toInt ro_size' ∧ Int32.toInt ro_size' ≤ 16) → post r ro_size' ro_numbers') (hKn : ∀ (x1 : Int32) (x2 : Int32) (x3 : Int32) (ro_size : Int32) (ro_numbers : Nat → Int32), (0 ≤ Int32.toInt x1 ∧ Int32.toInt x1 ≤ 65535) → (0 ≤ Int32.toInt x2 ∧ Int32.toInt x2 ≤ 65535) → (0 ≤ Int32.toInt x3 ∧ Int32.toInt x3 ≤ 16) → (0 ≤ Int32.toInt ro_size ∧ Int32.toInt ro_size ≤ 16) → (16 - Int32.toInt x3 < n39) → next x1 x2 x3 ro_size ro_numbers) (x1 : Int32) (x2 : Int32) (x3 : Int32) (ro_size : Int32) (ro_numbers : Nat → Int32) (h_x1 : 0 ≤ Int32.toInt x1 ∧ Int32.toInt x1 ≤ 65535) (h_x2 : 0 ≤ Int32.toInt x2 ∧ Int32.toInt x2 ≤ 65535) (h_x3 : 0 ≤ Int32.toInt x3 ∧ Int32.toInt x3 ≤ 16) (h_ro_size : 0 ≤ Int32.toInt ro_size ∧ Int32.toInt ro_size ≤ 16) (hn39 : 16 - Int32.toInt x3 ≤ n39) : ws_X9_gentle_39 post next tr_fruits tr_x tr_height tr_ripe tr_foot tr_fork tr_settings no_apron no_basket no_ground no_ladder no_helper no_today x1 x2 x3 ro_size ro_numbers := by
  have l0 : Int32.toInt ((-1) : Int32) = -1 := (by decide)
  have l1 : Int32.toInt (1 : Int32) = 1 := (by decide)
  have l2 : Int32.toInt (16 : Int32) = 16 := (by decide)
  refine And.intro (fun c1 => ?_) (fun c1 => ?_)
  · skip
    have c1 := (fa_le _ _).mp c1
    exact ts_X9_gentle_91 tr_fruits tr_x tr_height tr_ripe tr_foot tr_fork tr_settings no_apron no_basket no_ground no_ladder no_helper no_today h_tr_fruits h_no_ladder h_no_today hpost ro_size ro_numbers (by omega)
  · skip
    have c1 := mt (fa_le _ _).mpr c1
    intro v2 ev2
    have f3 := ti_andr x2 x1 (by omega)
    have f4 := ti_andl x2 x1 (by omega)
    have hv2 := congrArg Int32.toInt ev2
    refine t_X3_firstUncovering (by omega) (by omega) (by omega) (fun r5 h_r5 => ?_)
    refine And.intro (fun c6 => ?_) (fun c6 => ?_)
    · skip
      have c6 := mt (fa_eq _ _).mpr c6
      refine And.intro (fun c7 => ?_) (fun c7 => ?_)
      · skip
        have c7 := (fa_le _ _).mp c7
        intro v8 ev8
        have f9 := ti_shl1 15 32768 r5 (by decide) (by omega)
        have hv8 := congrArg Int32.toInt ev8
        intro v10 ev10
        have f12 := ti_andl x1 (v8 ^^^ (-1)) (by omega)
        have hv10 := congrArg Int32.toInt ev10
        intro v13 ev13
        have f14 : Int32.toInt (x3 + 1) = Int32.toInt x3 + Int32.toInt (1 : Int32) := ta_add _ _ (by omega)
        rw [← ev13] at f14
        exact hKn v10 x2 v13 ro_size ro_numbers (by omega) (by omega) (by omega) (by omega) (by omega)
      · skip
        have c7 := mt (fa_le _ _).mpr c7
        refine And.intro (t_in (by omega)) ?_
        intro v15 ev15
        have f16 : Int32.toInt (ro_size + 1) = Int32.toInt ro_size + Int32.toInt (1 : Int32) := ta_add _ _ (by omega)
        rw [← ev15] at f16
        intro v17 ev17
        have f18 := ti_shl1 15 32768 r5 (by decide) (by omega)
        have hv17 := congrArg Int32.toInt ev17
        intro v19 ev19
        have f21 := ti_andl x1 (v17 ^^^ (-1)) (by omega)
        have hv19 := congrArg Int32.toInt ev19
        intro v22 ev22
        have f23 : Int32.toInt (x3 + 1) = Int32.toInt x3 + Int32.toInt (1 : Int32) := ta_add _ _ (by omega)
        rw [← ev22] at f23
        exact hKn v19 x2 v22 v15 (upd ro_numbers ro_size.toNatClampNeg r5) (by omega) (by omega) (by omega) (by omega) (by omega)
    · skip
      have c6 := (fa_eq _ _).mp c6
      exact ts_X9_gentle_91 tr_fruits tr_x tr_height tr_ripe tr_foot tr_fork tr_settings no_apron no_basket no_ground no_ladder no_helper no_today h_tr_fruits h_no_ladder h_no_today hpost ro_size ro_numbers (by omega)
set_option maxHeartbeats 8000000 in
set_option maxRecDepth 200000 in
theorem tb_X9_gentle_39 {post : Int32 → Int32 → (Nat → Int32) → Prop} (tr_fruits : Int32) (tr_x : Nat → Int32) (tr_height : Nat → Int32) (tr_ripe : Nat → Int32) (tr_foot : Nat → Int32) (tr_fork : Nat → Int32) (tr_settings : Nat → Int32) (no_apron : Int32) (no_basket : Int32) (no_ground : Int32) (no_ladder : Int32) (no_helper : Int32) (no_today : Int32) (h_tr_fruits : 0 ≤ Int32.toInt tr_fruits ∧ Int32.toInt tr_fruits ≤ 16) (h_no_ladder : -1 ≤ Int32.toInt no_ladder ∧ Int32.toInt no_ladder ≤ 7) (h_no_today : 0 ≤ Int32.toInt no_today ∧ Int32.toInt no_today ≤ 9) (hpost : ∀ (r : Int32) (ro_size' : Int32) (ro_numbers' : Nat → Int32), (-2 ≤ Int32.toInt r ∧ Int32.toInt r ≤ 16) → (0 ≤ Int32.toInt ro_size' ∧ Int32.toInt ro_size' ≤ 16) → post r ro_size' ro_numbers') : ∀ (n : Nat) (x1 : Int32) (x2 : Int32) (x3 : Int32) (ro_size : Int32) (ro_numbers : Nat → Int32), (0 ≤ Int32.toInt x1 ∧ Int32.toInt x1 ≤ 65535) → (0 ≤ Int32.toInt x2 ∧ Int32.toInt x2 ≤ 65535) → (0 ≤ Int32.toInt x3 ∧ Int32.toInt x3 ≤ 16) → (0 ≤ Int32.toInt ro_size ∧ Int32.toInt ro_size ≤ 16) → (16 - Int32.toInt x3 < (n : Int)) → wb_X9_gentle_39 post tr_fruits tr_x tr_height tr_ripe tr_foot tr_fork tr_settings no_apron no_basket no_ground no_ladder no_helper no_today n x1 x2 x3 ro_size ro_numbers := by
  intro n
  induction n with
  | zero =>
    intro x1 x2 x3 ro_size ro_numbers h_x1 h_x2 h_x3 h_ro_size hm
    exfalso; omega
  | succ n ih =>
    intro x1 x2 x3 ro_size ro_numbers h_x1 h_x2 h_x3 h_ro_size hm
    exact ts_X9_gentle_39 tr_fruits tr_x tr_height tr_ripe tr_foot tr_fork tr_settings no_apron no_basket no_ground no_ladder no_helper no_today h_tr_fruits h_no_ladder h_no_today hpost ih x1 x2 x3 ro_size ro_numbers h_x1 h_x2 h_x3 h_ro_size (by omega)
set_option maxHeartbeats 8000000 in
set_option maxRecDepth 200000 in
theorem t_X9_gentle {post : Int32 → Int32 → (Nat → Int32) → Prop} {tr_fruits : Int32} {tr_x : Nat → Int32} {tr_height : Nat → Int32} {tr_ripe : Nat → Int32} {tr_foot : Nat → Int32} {tr_fork : Nat → Int32} {tr_settings : Nat → Int32} {no_apron : Int32} {no_basket : Int32} {no_ground : Int32} {no_ladder : Int32} {no_helper : Int32} {no_today : Int32} {ro_size : Int32} {ro_numbers : Nat → Int32} (h_tr_fruits : 0 ≤ Int32.toInt tr_fruits ∧ Int32.toInt tr_fruits ≤ 16) (h_no_ladder : -1 ≤ Int32.toInt no_ladder ∧ Int32.toInt no_ladder ≤ 7) (h_no_today : 0 ≤ Int32.toInt no_today ∧ Int32.toInt no_today ≤ 9) (h_ro_size : 0 ≤ Int32.toInt ro_size ∧ Int32.toInt ro_size ≤ 16) (hpost : ∀ (r : Int32) (ro_size' : Int32) (ro_numbers' : Nat → Int32), (-2 ≤ Int32.toInt r ∧ Int32.toInt r ≤ 16) → (0 ≤ Int32.toInt ro_size' ∧ Int32.toInt ro_size' ≤ 16) → post r ro_size' ro_numbers') : wp_X9_gentle post tr_fruits tr_x tr_height tr_ripe tr_foot tr_fork tr_settings no_apron no_basket no_ground no_ladder no_helper no_today ro_size ro_numbers := by
  have l0 : Int32.toInt ((-1) : Int32) = -1 := (by decide)
  have l1 : Int32.toInt ((-2) : Int32) = -2 := (by decide)
  have l2 : Int32.toInt (0 : Int32) = 0 := (by decide)
  have l3 : Int32.toInt (1 : Int32) = 1 := (by decide)
  have l4 : Int32.toInt (2 : Int32) = 2 := (by decide)
  refine And.intro (fun c24 => ?_) (fun c24 => ?_)
  · skip
    have c24 := mt (fa_eq _ _).mpr c24
    intro v25 ev25
    have f26 := ti_shl1 16 65536 tr_fruits (by decide) (by omega)
    have hv25 := congrArg Int32.toInt ev25
    intro v27 ev27
    intro v28 ev28
    refine And.intro (fun c29 => ?_) (fun c29 => ?_)
    · skip
      have c29 := mt (fa_eq _ _).mpr c29
      intro v30 ev30
      have hv30 := congrArg Int32.toInt ev30
      intro v32 ev32
      have hv32 := congrArg Int32.toInt ev32
      refine t_X3_within (by omega) (by omega) (fun r34 h_r34 => ?_)
      intro v35 ev35
      have hv35 := congrArg Int32.toInt ev35
      intro v36 ev36
      intro v37 ev37
      refine t_X3_ripeBy (by omega) (by omega) (fun r38 h_r38 => ?_)
      intro v39 ev39
      have f40 := ti_andr ((v35 - 1) &&& (v37 ^^^ (-1))) r38 (by omega)
      have f42 : Int32.toInt (v35 - 1) = Int32.toInt v35 - Int32.toInt (1 : Int32) := ta_sub _ _ (by omega)
      have f43 := ti_andl (v35 - 1) (v37 ^^^ (-1)) (by omega)
      have f44 := ti_andl ((v35 - 1) &&& (v37 ^^^ (-1))) r38 (by omega)
      have hv39 := congrArg Int32.toInt ev39
      have f46 : Int32.toInt (v25 - 1) = Int32.toInt v25 - Int32.toInt (1 : Int32) := ta_sub _ _ (by omega)
      have f47 := ti_andl (v25 - 1) (v28 ^^^ (-1)) (by omega)
      have f48 := ti_andr v39 r34 (by omega)
      have f49 := ti_andl v39 r34 (by omega)
      exact ⟨18, tb_X9_gentle_39 tr_fruits tr_x tr_height tr_ripe tr_foot tr_fork tr_settings no_apron no_basket no_ground no_ladder no_helper no_today h_tr_fruits h_no_ladder h_no_today hpost _ ((v25 - 1) &&& (v28 ^^^ (-1))) (v39 &&& r34) 0 0 ro_numbers (by omega) (by omega) (by omega) (by omega) (by omega)⟩
    · skip
      have c29 := (fa_eq _ _).mp c29
      exfalso; omega
  · skip
    have c24 := (fa_eq _ _).mp c24
    exact hpost _ _ _ (by omega) (by omega)
set_option maxHeartbeats 8000000 in
set_option maxRecDepth 200000 in
theorem ts_X9_harm_78 {post : Int32 → Int32 → (Nat → Int32) → Prop} {K35 : Int32 → Int32 → Int32 → Int32 → Int32 → (Nat → Int32) → Prop} {n35 : Int} (tr_fruits : Int32) (tr_x : Nat → Int32) (tr_height : Nat → Int32) (tr_worth : Nat → Int32) (tr_ripe : Nat → Int32) (tr_foot : Nat → Int32) (tr_fork : Nat → Int32) (tr_settings : Nat → Int32) (no_apron : Int32) (no_basket : Int32) (no_ground : Int32) (no_bruised : Int32) (no_ladder : Int32) (no_helper : Int32) (no_today : Int32) (h_tr_fruits : 0 ≤ Int32.toInt tr_fruits ∧ Int32.toInt tr_fruits ≤ 16) (h_no_ladder : -1 ≤ Int32.toInt no_ladder ∧ Int32.toInt no_ladder ≤ 7) (h_no_today : 0 ≤ Int32.toInt no_today ∧ Int32.toInt no_today ≤ 9) (hpost : ∀ (r : Int32) (ro_size' : Int32) (ro_numbers' : Nat → Int32), (-2 ≤ Int32.toInt r ∧ Int32.toInt r ≤ 65535) → (0 ≤ Int32.toInt ro_size' ∧ Int32.toInt ro_size' ≤ 16) → post r ro_size' ro_numbers') (hK35 : ∀ (x1 : Int32) (x2 : Int32) (x3 : Int32) (x4 : Int32) (ro_size : Int32) (ro_numbers : Nat → Int32), (0 ≤ Int32.toInt x1 ∧ Int32.toInt x1 ≤ 65535) → (0 ≤ Int32.toInt x2 ∧ Int32.toInt x2 ≤ 65535) → (0 ≤ Int32.toInt x3 ∧ Int32.toInt x3 ≤ 65535) → (0 ≤ Int32.toInt x4 ∧ Int32.toInt x4 ≤ 16) → (0 ≤ Int32.toInt ro_size ∧ Int32.toInt ro_size ≤ 16) → (16 - Int32.toInt x4 < n35) → K35 x1 x2 x3 x4 ro_size ro_numbers) (x1 : Int32) (x2 : Int32) (x3 : Int32) (x4 : Int32) (ro_size : Int32) (ro_numbers : Nat → Int32) (h_x1 : 0 ≤ Int32.toInt x1 ∧ Int32.toInt x1 ≤ 65535) (h_x2 : 0 ≤ Int32.toInt x2 ∧ Int32.toInt x2 ≤ 65535) (h_x3 : 0 ≤ Int32.toInt x3 ∧ Int32.toInt x3 ≤ 65535) (h_x4 : 0 ≤ Int32.toInt x4 ∧ Int32.toInt x4 ≤ 15) (h_ro_size : 0 ≤ Int32.toInt ro_size ∧ Int32.toInt ro_size ≤ 16) (hn35 : 16 - Int32.toInt x4 ≤ n35) : ws_X9_harm_78 post K35 tr_fruits tr_x tr_height tr_worth tr_ripe tr_foot tr_fork tr_settings no_apron no_basket no_ground no_bruised no_ladder no_helper no_today x1 x2 x3 x4 ro_size ro_numbers := by
  have l0 : Int32.toInt (1 : Int32) = 1 := (by decide)
  intro v1 ev1
  have f2 : Int32.toInt (x4 + 1) = Int32.toInt x4 + Int32.toInt (1 : Int32) := ta_add _ _ (by omega)
  rw [← ev1] at f2
  exact hK35 x1 x2 x3 v1 ro_size ro_numbers (by omega) (by omega) (by omega) (by omega) (by omega) (by omega)
set_option maxHeartbeats 8000000 in
set_option maxRecDepth 200000 in
theorem ts_X9_harm_35 {post : Int32 → Int32 → (Nat → Int32) → Prop} {next : Int32 → Int32 → Int32 → Int32 → Int32 → (Nat → Int32) → Prop} {n35 : Int} (tr_fruits : Int32) (tr_x : Nat → Int32) (tr_height : Nat → Int32) (tr_worth : Nat → Int32) (tr_ripe : Nat → Int32) (tr_foot : Nat → Int32) (tr_fork : Nat → Int32) (tr_settings : Nat → Int32) (no_apron : Int32) (no_basket : Int32) (no_ground : Int32) (no_bruised : Int32) (no_ladder : Int32) (no_helper : Int32) (no_today : Int32) (h_tr_fruits : 0 ≤ Int32.toInt tr_fruits ∧ Int32.toInt tr_fruits ≤ 16) (h_no_ladder : -1 ≤ Int32.toInt no_ladder ∧ Int32.toInt no_ladder ≤ 7) (h_no_today : 0 ≤ Int32.toInt no_today ∧ Int32.toInt no_today ≤ 9) (hpost : ∀ (r : Int32) (ro_size' : Int32) (ro_numbers' : Nat → Int32), (-2 ≤ Int32.toInt r ∧ Int32.toInt r ≤ 65535) → (0 ≤ Int32.toInt ro_size' ∧ Int32.toInt ro_size' ≤ 16) → post r ro_size' ro_numbers') (hKn : ∀ (x1 : Int32) (x2 : Int32) (x3 : Int32) (x4 : Int32) (ro_size : Int32) (ro_numbers : Nat → Int32), (0 ≤ Int32.toInt x1 ∧ Int32.toInt x1 ≤ 65535) → (0 ≤ Int32.toInt x2 ∧ Int32.toInt x2 ≤ 65535) → (0 ≤ Int32.toInt x3 ∧ Int32.toInt x3 ≤ 65535) → (0 ≤ Int32.toInt x4 ∧ Int32.toInt x4 ≤ 16) → (0 ≤ Int32.toInt ro_size ∧ Int32.toInt ro_size ≤ 16) → (16 - Int32.toInt x4 < n35) → next x1 x2 x3 x4 ro_size ro_numbers) (x1 : Int32) (x2 : Int32) (x3 : Int32) (x4 : Int32) (ro_size : Int32) (ro_numbers : Nat → Int32) (h_x1 : 0 ≤ Int32.toInt x1 ∧ Int32.toInt x1 ≤ 65535) (h_x2 : 0 ≤ Int32.toInt x2 ∧ Int32.toInt x2 ≤ 65535) (h_x3 : 0 ≤ Int32.toInt x3 ∧ Int32.toInt x3 ≤ 65535) (h_x4 : 0 ≤ Int32.toInt x4 ∧ Int32.toInt x4 ≤ 16) (h_ro_size : 0 ≤ Int32.toInt ro_size ∧ Int32.toInt ro_size ≤ 16) (hn35 : 16 - Int32.toInt x4 ≤ n35) : ws_X9_harm_35 post next tr_fruits tr_x tr_height tr_worth tr_ripe tr_foot tr_fork tr_settings no_apron no_basket no_ground no_bruised no_ladder no_helper no_today x1 x2 x3 x4 ro_size ro_numbers := by
  have l0 : Int32.toInt (0 : Int32) = 0 := (by decide)
  have l1 : Int32.toInt (1 : Int32) = 1 := (by decide)
  refine And.intro (fun c3 => ?_) (fun c3 => ?_)
  · skip
    have c3 := (fa_le _ _).mp c3
    refine t_X3_worthOf (by omega) (fun r4 => ?_)
    intro v5 ev5
    refine t_X3_worthOf (by omega) (fun r6 => ?_)
    intro v7 ev7
    have hv7 := congrArg Int32.toInt ev7
    refine And.intro (fun h9 => absurd h9 (by decide)) (fun _ => ?_)
    refine And.intro (t_in (by omega)) ?_
    intro v9 ev9
    have f10 : Int32.toInt (0 + 1) = Int32.toInt (0 : Int32) + Int32.toInt (1 : Int32) := ta_add _ _ (by omega)
    rw [← ev9] at f10
    exact hpost _ _ _ (by omega) (by omega)
  · skip
    have c3 := mt (fa_le _ _).mpr c3
    intro v11 ev11
    have f12 := ti_shr x2 x4 (by omega)
    have hv11 := congrArg Int32.toInt ev11
    have f14 := ti_andr v11 1 (by omega)
    have f15 := ti_andl v11 1 (by omega)
    refine And.intro (fun c13 => ?_) (fun c13 => ?_)
    · skip
      have c13 := (fa_eq _ _).mp c13
      exact ts_X9_harm_78 tr_fruits tr_x tr_height tr_worth tr_ripe tr_foot tr_fork tr_settings no_apron no_basket no_ground no_bruised no_ladder no_helper no_today h_tr_fruits h_no_ladder h_no_today hpost hKn x1 x2 x3 x4 ro_size ro_numbers (by omega) (by omega) (by omega) (by omega) (by omega) (by omega)
    · skip
      have c13 := mt (fa_eq _ _).mpr c13
      refine t_X3_lowerThan (by omega) (by omega) (by omega) (fun r16 h_r16 => ?_)
      intro v17 ev17
      have f18 := ti_or 16 65536 x3 r16 (by decide) (by omega) (by omega)
      have hv17 := congrArg Int32.toInt ev17
      intro v19 ev19
      have f20 := ti_shl1 15 32768 x4 (by decide) (by omega)
      have hv19 := congrArg Int32.toInt ev19
      intro v21 ev21
      have f23 := ti_andl x1 (v19 ^^^ (-1)) (by omega)
      have hv21 := congrArg Int32.toInt ev21
      exact ts_X9_harm_78 tr_fruits tr_x tr_height tr_worth tr_ripe tr_foot tr_fork tr_settings no_apron no_basket no_ground no_bruised no_ladder no_helper no_today h_tr_fruits h_no_ladder h_no_today hpost hKn v21 x2 v17 x4 ro_size ro_numbers (by omega) (by omega) (by omega) (by omega) (by omega) (by omega)
set_option maxHeartbeats 8000000 in
set_option maxRecDepth 200000 in
theorem tb_X9_harm_35 {post : Int32 → Int32 → (Nat → Int32) → Prop} (tr_fruits : Int32) (tr_x : Nat → Int32) (tr_height : Nat → Int32) (tr_worth : Nat → Int32) (tr_ripe : Nat → Int32) (tr_foot : Nat → Int32) (tr_fork : Nat → Int32) (tr_settings : Nat → Int32) (no_apron : Int32) (no_basket : Int32) (no_ground : Int32) (no_bruised : Int32) (no_ladder : Int32) (no_helper : Int32) (no_today : Int32) (h_tr_fruits : 0 ≤ Int32.toInt tr_fruits ∧ Int32.toInt tr_fruits ≤ 16) (h_no_ladder : -1 ≤ Int32.toInt no_ladder ∧ Int32.toInt no_ladder ≤ 7) (h_no_today : 0 ≤ Int32.toInt no_today ∧ Int32.toInt no_today ≤ 9) (hpost : ∀ (r : Int32) (ro_size' : Int32) (ro_numbers' : Nat → Int32), (-2 ≤ Int32.toInt r ∧ Int32.toInt r ≤ 65535) → (0 ≤ Int32.toInt ro_size' ∧ Int32.toInt ro_size' ≤ 16) → post r ro_size' ro_numbers') : ∀ (n : Nat) (x1 : Int32) (x2 : Int32) (x3 : Int32) (x4 : Int32) (ro_size : Int32) (ro_numbers : Nat → Int32), (0 ≤ Int32.toInt x1 ∧ Int32.toInt x1 ≤ 65535) → (0 ≤ Int32.toInt x2 ∧ Int32.toInt x2 ≤ 65535) → (0 ≤ Int32.toInt x3 ∧ Int32.toInt x3 ≤ 65535) → (0 ≤ Int32.toInt x4 ∧ Int32.toInt x4 ≤ 16) → (0 ≤ Int32.toInt ro_size ∧ Int32.toInt ro_size ≤ 16) → (16 - Int32.toInt x4 < (n : Int)) → wb_X9_harm_35 post tr_fruits tr_x tr_height tr_worth tr_ripe tr_foot tr_fork tr_settings no_apron no_basket no_ground no_bruised no_ladder no_helper no_today n x1 x2 x3 x4 ro_size ro_numbers := by
  intro n
  induction n with
  | zero =>
    intro x1 x2 x3 x4 ro_size ro_numbers h_x1 h_x2 h_x3 h_x4 h_ro_size hm
    exfalso; omega
  | succ n ih =>
    intro x1 x2 x3 x4 ro_size ro_numbers h_x1 h_x2 h_x3 h_x4 h_ro_size hm
    exact ts_X9_harm_35 tr_fruits tr_x tr_height tr_worth tr_ripe tr_foot tr_fork tr_settings no_apron no_basket no_ground no_bruised no_ladder no_helper no_today h_tr_fruits h_no_ladder h_no_today hpost ih x1 x2 x3 x4 ro_size ro_numbers h_x1 h_x2 h_x3 h_x4 h_ro_size (by omega)
set_option maxHeartbeats 8000000 in
set_option maxRecDepth 200000 in
theorem t_X9_harm {post : Int32 → Int32 → (Nat → Int32) → Prop} {tr_fruits : Int32} {tr_x : Nat → Int32} {tr_height : Nat → Int32} {tr_worth : Nat → Int32} {tr_ripe : Nat → Int32} {tr_foot : Nat → Int32} {tr_fork : Nat → Int32} {tr_settings : Nat → Int32} {no_apron : Int32} {no_basket : Int32} {no_ground : Int32} {no_bruised : Int32} {no_ladder : Int32} {no_helper : Int32} {no_today : Int32} {ro_size : Int32} {ro_numbers : Nat → Int32} (h_tr_fruits : 0 ≤ Int32.toInt tr_fruits ∧ Int32.toInt tr_fruits ≤ 16) (h_no_ladder : -1 ≤ Int32.toInt no_ladder ∧ Int32.toInt no_ladder ≤ 7) (h_no_today : 0 ≤ Int32.toInt no_today ∧ Int32.toInt no_today ≤ 9) (h_ro_size : 0 ≤ Int32.toInt ro_size ∧ Int32.toInt ro_size ≤ 16) (hpost : ∀ (r : Int32) (ro_size' : Int32) (ro_numbers' : Nat → Int32), (-2 ≤ Int32.toInt r ∧ Int32.toInt r ≤ 65535) → (0 ≤ Int32.toInt ro_size' ∧ Int32.toInt ro_size' ≤ 16) → post r ro_size' ro_numbers') : wp_X9_harm post tr_fruits tr_x tr_height tr_worth tr_ripe tr_foot tr_fork tr_settings no_apron no_basket no_ground no_bruised no_ladder no_helper no_today ro_size ro_numbers := by
  have l0 : Int32.toInt ((-1) : Int32) = -1 := (by decide)
  have l1 : Int32.toInt ((-2) : Int32) = -2 := (by decide)
  have l2 : Int32.toInt (0 : Int32) = 0 := (by decide)
  have l3 : Int32.toInt (1 : Int32) = 1 := (by decide)
  have l4 : Int32.toInt (2 : Int32) = 2 := (by decide)
  refine And.intro (fun c24 => ?_) (fun c24 => ?_)
  · skip
    have c24 := mt (fa_eq _ _).mpr c24
    intro v25 ev25
    have f26 := ti_shl1 16 65536 tr_fruits (by decide) (by omega)
    have hv25 := congrArg Int32.toInt ev25
    intro v27 ev27
    intro v28 ev28
    refine And.intro (fun c29 => ?_) (fun c29 => ?_)
    · skip
      have c29 := mt (fa_eq _ _).mpr c29
      intro v30 ev30
      have hv30 := congrArg Int32.toInt ev30
      intro v32 ev32
      have hv32 := congrArg Int32.toInt ev32
      refine t_X3_within (by omega) (by omega) (fun r34 h_r34 => ?_)
      intro v35 ev35
      have hv35 := congrArg Int32.toInt ev35
      intro v36 ev36
      intro v37 ev37
      refine t_X3_ripeBy (by omega) (by omega) (fun r38 h_r38 => ?_)
      intro v39 ev39
      have f40 := ti_andr ((v35 - 1) &&& (v37 ^^^ (-1))) r38 (by omega)
      have f42 : Int32.toInt (v35 - 1) = Int32.toInt v35 - Int32.toInt (1 : Int32) := ta_sub _ _ (by omega)
      have f43 := ti_andl (v35 - 1) (v37 ^^^ (-1)) (by omega)
      have f44 := ti_andl ((v35 - 1) &&& (v37 ^^^ (-1))) r38 (by omega)
      have hv39 := congrArg Int32.toInt ev39
      have f46 : Int32.toInt (v25 - 1) = Int32.toInt v25 - Int32.toInt (1 : Int32) := ta_sub _ _ (by omega)
      have f47 := ti_andl (v25 - 1) (v28 ^^^ (-1)) (by omega)
      have f48 := ti_andr v39 r34 (by omega)
      have f49 := ti_andl v39 r34 (by omega)
      exact ⟨18, tb_X9_harm_35 tr_fruits tr_x tr_height tr_worth tr_ripe tr_foot tr_fork tr_settings no_apron no_basket no_ground no_bruised no_ladder no_helper no_today h_tr_fruits h_no_ladder h_no_today hpost _ ((v25 - 1) &&& (v28 ^^^ (-1))) (v39 &&& r34) 0 0 ro_size ro_numbers (by omega) (by omega) (by omega) (by omega) (by omega) (by omega)⟩
    · skip
      have c29 := (fa_eq _ _).mp c29
      exfalso; omega
  · skip
    have c24 := (fa_eq _ _).mp c24
    exact hpost _ _ _ (by omega) (by omega)
set_option maxHeartbeats 8000000 in
set_option maxRecDepth 200000 in
theorem ts_X5_loadFirsts_93 {post : (Nat → Int32) → (Nat → Int32) → (Nat → Int32) → Prop} {K7 : Int32 → Int32 → Int32 → (Nat → Int32) → (Nat → Int32) → (Nat → Int32) → Prop} {K50 : Int32 → Int32 → Int32 → Int32 → Int32 → (Nat → Int32) → (Nat → Int32) → (Nat → Int32) → Prop} {n7 : Int} {n50 : Int} (pl_wanted : Int32) (pl_near : Nat → Int32) (tr_fruits : Int32) (tr_standings : Int32) (tr_x : Nat → Int32) (tr_height : Nat → Int32) (tr_worth : Nat → Int32) (tr_foot : Nat → Int32) (tr_fork : Nat → Int32) (no_bruised : Int32) (ru_length : Int32) (ru_program : Nat → Int32) (h_pl_wanted : 0 ≤ Int32.toInt pl_wanted ∧ Int32.toInt pl_wanted ≤ 65535) (h_pl_near : ∀ k : Nat, 0 ≤ Int32.toInt (pl_near k) ∧ Int32.toInt (pl_near k) ≤ 65535) (h_tr_fruits : 0 ≤ Int32.toInt tr_fruits ∧ Int32.toInt tr_fruits ≤ 16) (h_tr_standings : 0 ≤ Int32.toInt tr_standings ∧ Int32.toInt tr_standings ≤ 8) (h_ru_length : 0 ≤ Int32.toInt ru_length ∧ Int32.toInt ru_length ≤ 40) (hpost : ∀ (pl_load' : Nat → Int32) (ru_given' : Nat → Int32) (ru_stack' : Nat → Int32), post pl_load' ru_given' ru_stack') (hK7 : ∀ (x1 : Int32) (x2 : Int32) (x3 : Int32) (pl_load : Nat → Int32) (ru_given : Nat → Int32) (ru_stack : Nat → Int32), (0 ≤ Int32.toInt x1 ∧ Int32.toInt x1 ≤ 255) → (0 ≤ Int32.toInt x2 ∧ Int32.toInt x2 ≤ 65535) → (0 ≤ Int32.toInt x3 ∧ Int32.toInt x3 ≤ 8) → (8 - Int32.toInt x3 < n7) → K7 x1 x2 x3 pl_load ru_given ru_stack) (hK50 : ∀ (x1 : Int32) (x2 : Int32) (x3 : Int32) (x4 : Int32) (x5 : Int32) (pl_load : Nat → Int32) (ru_given : Nat → Int32) (ru_stack : Nat → Int32), (0 ≤ Int32.toInt x1 ∧ Int32.toInt x1 ≤ 255) → (0 ≤ Int32.toInt x2 ∧ Int32.toInt x2 ≤ 65535) → (0 ≤ Int32.toInt x3 ∧ Int32.toInt x3 ≤ 7) → (0 ≤ Int32.toInt x4 ∧ Int32.toInt x4 ≤ 65535) → (0 ≤ Int32.toInt x5 ∧ Int32.toInt x5 ≤ 16) → (8 - Int32.toInt x3 ≤ n7) → (16 - Int32.toInt x5 < n50) → K50 x1 x2 x3 x4 x5 pl_load ru_given ru_stack) (x1 : Int32) (x2 : Int32) (x3 : Int32) (x4 : Int32) (x5 : Int32) (pl_load : Nat → Int32) (ru_given : Nat → Int32) (ru_stack : Nat → Int32) (h_x1 : 0 ≤ Int32.toInt x1 ∧ Int32.toInt x1 ≤ 255) (h_x2 : 0 ≤ Int32.toInt x2 ∧ Int32.toInt x2 ≤ 65535) (h_x3 : 0 ≤ Int32.toInt x3 ∧ Int32.toInt x3 ≤ 7) (h_x4 : 0 ≤ Int32.toInt x4 ∧ Int32.toInt x4 ≤ 65535) (h_x5 : 0 ≤ Int32.toInt x5 ∧ Int32.toInt x5 ≤ 15) (hn7 : 8 - Int32.toInt x3 ≤ n7) (hn50 : 16 - Int32.toInt x5 ≤ n50) : ws_X5_loadFirsts_93 post K7 K50 pl_wanted pl_near tr_fruits tr_standings tr_x tr_height tr_worth tr_foot tr_fork no_bruised ru_length ru_program x1 x2 x3 x4 x5 pl_load ru_given ru_stack := by
  have l0 : Int32.toInt (1 : Int32) = 1 := (by decide)
  intro v1 ev1
  have f2 : Int32.toInt (x5 + 1) = Int32.toInt x5 + Int32.toInt (1 : Int32) := ta_add _ _ (by omega)
  rw [← ev1] at f2
  exact hK50 x1 x2 x3 x4 v1 pl_load ru_given ru_stack (by omega) (by omega) (by omega) (by omega) (by omega) (by omega) (by omega)
set_option maxHeartbeats 8000000 in
set_option maxRecDepth 200000 in
theorem ts_X5_loadFirsts_50 {post : (Nat → Int32) → (Nat → Int32) → (Nat → Int32) → Prop} {K7 : Int32 → Int32 → Int32 → (Nat → Int32) → (Nat → Int32) → (Nat → Int32) → Prop} {next : Int32 → Int32 → Int32 → Int32 → Int32 → (Nat → Int32) → (Nat → Int32) → (Nat → Int32) → Prop} {n50 : Int} {n7 : Int} (pl_wanted : Int32) (pl_near : Nat → Int32) (tr_fruits : Int32) (tr_standings : Int32) (tr_x : Nat → Int32) (tr_height : Nat → Int32) (tr_worth : Nat → Int32) (tr_foot : Nat → Int32) (tr_fork : Nat → Int32) (no_bruised : Int32) (ru_length : Int32) (ru_program : Nat → Int32) (h_pl_wanted : 0 ≤ Int32.toInt pl_wanted ∧ Int32.toInt pl_wanted ≤ 65535) (h_pl_near : ∀ k : Nat, 0 ≤ Int32.toInt (pl_near k) ∧ Int32.toInt (pl_near k) ≤ 65535) (h_tr_fruits : 0 ≤ Int32.toInt tr_fruits ∧ Int32.toInt tr_fruits ≤ 16) (h_tr_standings : 0 ≤ Int32.toInt tr_standings ∧ Int32.toInt tr_standings ≤ 8) (h_ru_length : 0 ≤ Int32.toInt ru_length ∧ Int32.toInt ru_length ≤ 40) (hpost : ∀ (pl_load' : Nat → Int32) (ru_given' : Nat → Int32) (ru_stack' : Nat → Int32), post pl_load' ru_given' ru_stack') (hK7 : ∀ (x1 : Int32) (x2 : Int32) (x3 : Int32) (pl_load : Nat → Int32) (ru_given : Nat → Int32) (ru_stack : Nat → Int32), (0 ≤ Int32.toInt x1 ∧ Int32.toInt x1 ≤ 255) → (0 ≤ Int32.toInt x2 ∧ Int32.toInt x2 ≤ 65535) → (0 ≤ Int32.toInt x3 ∧ Int32.toInt x3 ≤ 8) → (8 - Int32.toInt x3 < n7) → K7 x1 x2 x3 pl_load ru_given ru_stack) (hKn : ∀ (x1 : Int32) (x2 : Int32) (x3 : Int32) (x4 : Int32) (x5 : Int32) (pl_load : Nat → Int32) (ru_given : Nat → Int32) (ru_stack : Nat → Int32), (0 ≤ Int32.toInt x1 ∧ Int32.toInt x1 ≤ 255) → (0 ≤ Int32.toInt x2 ∧ Int32.toInt x2 ≤ 65535) → (0 ≤ Int32.toInt x3 ∧ Int32.toInt x3 ≤ 7) → (0 ≤ Int32.toInt x4 ∧ Int32.toInt x4 ≤ 65535) → (0 ≤ Int32.toInt x5 ∧ Int32.toInt x5 ≤ 16) → (8 - Int32.toInt x3 ≤ n7) → (16 - Int32.toInt x5 < n50) → next x1 x2 x3 x4 x5 pl_load ru_given ru_stack) (x1 : Int32) (x2 : Int32) (x3 : Int32) (x4 : Int32) (x5 : Int32) (pl_load : Nat → Int32) (ru_given : Nat → Int32) (ru_stack : Nat → Int32) (h_x1 : 0 ≤ Int32.toInt x1 ∧ Int32.toInt x1 ≤ 255) (h_x2 : 0 ≤ Int32.toInt x2 ∧ Int32.toInt x2 ≤ 65535) (h_x3 : 0 ≤ Int32.toInt x3 ∧ Int32.toInt x3 ≤ 7) (h_x4 : 0 ≤ Int32.toInt x4 ∧ Int32.toInt x4 ≤ 65535) (h_x5 : 0 ≤ Int32.toInt x5 ∧ Int32.toInt x5 ≤ 16) (hn7 : 8 - Int32.toInt x3 ≤ n7) (hn50 : 16 - Int32.toInt x5 ≤ n50) : ws_X5_loadFirsts_50 post K7 next pl_wanted pl_near tr_fruits tr_standings tr_x tr_height tr_worth tr_foot tr_fork no_bruised ru_length ru_program x1 x2 x3 x4 x5 pl_load ru_given ru_stack := by
  have l0 : Int32.toInt (0 : Int32) = 0 := (by decide)
  have l1 : Int32.toInt (1 : Int32) = 1 := (by decide)
  refine And.intro (fun c3 => ?_) (fun c3 => ?_)
  · skip
    have c3 := (fa_le _ _).mp c3
    intro v4 ev4
    have f6 := ti_andl x2 (x4 ^^^ (-1)) (by omega)
    have hv4 := congrArg Int32.toInt ev4
    intro v7 ev7
    have f8 : Int32.toInt (x3 + 1) = Int32.toInt x3 + Int32.toInt (1 : Int32) := ta_add _ _ (by omega)
    rw [← ev7] at f8
    exact hK7 x1 v4 v7 pl_load ru_given ru_stack (by omega) (by omega) (by omega) (by omega)
  · skip
    have c3 := mt (fa_le _ _).mpr c3
    intro v9 ev9
    have f10 := ti_shr x4 x5 (by omega)
    have hv9 := congrArg Int32.toInt ev9
    have f12 := ti_andr v9 1 (by omega)
    have f13 := ti_andl v9 1 (by omega)
    refine And.intro (fun c11 => ?_) (fun c11 => ?_)
    · skip
      have c11 := (fa_eq _ _).mp c11
      exact ts_X5_loadFirsts_93 pl_wanted pl_near tr_fruits tr_standings tr_x tr_height tr_worth tr_foot tr_fork no_bruised ru_length ru_program h_pl_wanted h_pl_near h_tr_fruits h_tr_standings h_ru_length hpost hK7 hKn x1 x2 x3 x4 x5 pl_load ru_given ru_stack (by omega) (by omega) (by omega) (by omega) (by omega) (by omega) (by omega)
    · skip
      have c11 := mt (fa_eq _ _).mpr c11
      refine And.intro (t_in (by omega)) ?_
      intro v14 ev14
      have hv14 := congrArg Int32.toInt ev14
      refine t_X0_pickSeconds (by omega) (by omega) (by omega) (by omega) (by omega) (fun r18 ru_given_16 ru_stack_17 h_r18 => ?_)
      intro v19 ev19
      have hv19 := congrArg Int32.toInt ev19
      refine And.intro (t_in (by omega)) ?_
      exact ts_X5_loadFirsts_93 pl_wanted pl_near tr_fruits tr_standings tr_x tr_height tr_worth tr_foot tr_fork no_bruised ru_length ru_program h_pl_wanted h_pl_near h_tr_fruits h_tr_standings h_ru_length hpost hK7 hKn x1 x2 x3 x4 x5 (upd pl_load x3.toNatClampNeg v19) ru_given_16 ru_stack_17 (by omega) (by omega) (by omega) (by omega) (by omega) (by omega) (by omega)
set_option maxHeartbeats 8000000 in
set_option maxRecDepth 200000 in
theorem tb_X5_loadFirsts_50 {post : (Nat → Int32) → (Nat → Int32) → (Nat → Int32) → Prop} {K7 : Int32 → Int32 → Int32 → (Nat → Int32) → (Nat → Int32) → (Nat → Int32) → Prop} {n7 : Int} (pl_wanted : Int32) (pl_near : Nat → Int32) (tr_fruits : Int32) (tr_standings : Int32) (tr_x : Nat → Int32) (tr_height : Nat → Int32) (tr_worth : Nat → Int32) (tr_foot : Nat → Int32) (tr_fork : Nat → Int32) (no_bruised : Int32) (ru_length : Int32) (ru_program : Nat → Int32) (h_pl_wanted : 0 ≤ Int32.toInt pl_wanted ∧ Int32.toInt pl_wanted ≤ 65535) (h_pl_near : ∀ k : Nat, 0 ≤ Int32.toInt (pl_near k) ∧ Int32.toInt (pl_near k) ≤ 65535) (h_tr_fruits : 0 ≤ Int32.toInt tr_fruits ∧ Int32.toInt tr_fruits ≤ 16) (h_tr_standings : 0 ≤ Int32.toInt tr_standings ∧ Int32.toInt tr_standings ≤ 8) (h_ru_length : 0 ≤ Int32.toInt ru_length ∧ Int32.toInt ru_length ≤ 40) (hpost : ∀ (pl_load' : Nat → Int32) (ru_given' : Nat → Int32) (ru_stack' : Nat → Int32), post pl_load' ru_given' ru_stack') (hK7 : ∀ (x1 : Int32) (x2 : Int32) (x3 : Int32) (pl_load : Nat → Int32) (ru_given : Nat → Int32) (ru_stack : Nat → Int32), (0 ≤ Int32.toInt x1 ∧ Int32.toInt x1 ≤ 255) → (0 ≤ Int32.toInt x2 ∧ Int32.toInt x2 ≤ 65535) → (0 ≤ Int32.toInt x3 ∧ Int32.toInt x3 ≤ 8) → (8 - Int32.toInt x3 < n7) → K7 x1 x2 x3 pl_load ru_given ru_stack) : ∀ (n : Nat) (x1 : Int32) (x2 : Int32) (x3 : Int32) (x4 : Int32) (x5 : Int32) (pl_load : Nat → Int32) (ru_given : Nat → Int32) (ru_stack : Nat → Int32), (0 ≤ Int32.toInt x1 ∧ Int32.toInt x1 ≤ 255) → (0 ≤ Int32.toInt x2 ∧ Int32.toInt x2 ≤ 65535) → (0 ≤ Int32.toInt x3 ∧ Int32.toInt x3 ≤ 7) → (0 ≤ Int32.toInt x4 ∧ Int32.toInt x4 ≤ 65535) → (0 ≤ Int32.toInt x5 ∧ Int32.toInt x5 ≤ 16) → (8 - Int32.toInt x3 ≤ n7) → (16 - Int32.toInt x5 < (n : Int)) → wb_X5_loadFirsts_50 post K7 pl_wanted pl_near tr_fruits tr_standings tr_x tr_height tr_worth tr_foot tr_fork no_bruised ru_length ru_program n x1 x2 x3 x4 x5 pl_load ru_given ru_stack := by
  intro n
  induction n with
  | zero =>
    intro x1 x2 x3 x4 x5 pl_load ru_given ru_stack h_x1 h_x2 h_x3 h_x4 h_x5 hn7 hm
    exfalso; omega
  | succ n ih =>
    intro x1 x2 x3 x4 x5 pl_load ru_given ru_stack h_x1 h_x2 h_x3 h_x4 h_x5 hn7 hm
    exact ts_X5_loadFirsts_50 pl_wanted pl_near tr_fruits tr_standings tr_x tr_height tr_worth tr_foot tr_fork no_bruised ru_length ru_program h_pl_wanted h_pl_near h_tr_fruits h_tr_standings h_ru_length hpost hK7 ih x1 x2 x3 x4 x5 pl_load ru_given ru_stack h_x1 h_x2 h_x3 h_x4 h_x5 hn7 (by omega)
set_option maxHeartbeats 8000000 in
set_option maxRecDepth 200000 in
theorem ts_X5_loadFirsts_45 {post : (Nat → Int32) → (Nat → Int32) → (Nat → Int32) → Prop} {K7 : Int32 → Int32 → Int32 → (Nat → Int32) → (Nat → Int32) → (Nat → Int32) → Prop} {n7 : Int} (pl_wanted : Int32) (pl_near : Nat → Int32) (tr_fruits : Int32) (tr_standings : Int32) (tr_x : Nat → Int32) (tr_height : Nat → Int32) (tr_worth : Nat → Int32) (tr_foot : Nat → Int32) (tr_fork : Nat → Int32) (no_bruised : Int32) (ru_length : Int32) (ru_program : Nat → Int32) (h_pl_wanted : 0 ≤ Int32.toInt pl_wanted ∧ Int32.toInt pl_wanted ≤ 65535) (h_pl_near : ∀ k : Nat, 0 ≤ Int32.toInt (pl_near k) ∧ Int32.toInt (pl_near k) ≤ 65535) (h_tr_fruits : 0 ≤ Int32.toInt tr_fruits ∧ Int32.toInt tr_fruits ≤ 16) (h_tr_standings : 0 ≤ Int32.toInt tr_standings ∧ Int32.toInt tr_standings ≤ 8) (h_ru_length : 0 ≤ Int32.toInt ru_length ∧ Int32.toInt ru_length ≤ 40) (hpost : ∀ (pl_load' : Nat → Int32) (ru_given' : Nat → Int32) (ru_stack' : Nat → Int32), post pl_load' ru_given' ru_stack') (hK7 : ∀ (x1 : Int32) (x2 : Int32) (x3 : Int32) (pl_load : Nat → Int32) (ru_given : Nat → Int32) (ru_stack : Nat → Int32), (0 ≤ Int32.toInt x1 ∧ Int32.toInt x1 ≤ 255) → (0 ≤ Int32.toInt x2 ∧ Int32.toInt x2 ≤ 65535) → (0 ≤ Int32.toInt x3 ∧ Int32.toInt x3 ≤ 8) → (8 - Int32.toInt x3 < n7) → K7 x1 x2 x3 pl_load ru_given ru_stack) (x1 : Int32) (x2 : Int32) (x3 : Int32) (k0 : Int32) (pl_load : Nat → Int32) (ru_given : Nat → Int32) (ru_stack : Nat → Int32) (h_x1 : 0 ≤ Int32.toInt x1 ∧ Int32.toInt x1 ≤ 255) (h_x2 : 0 ≤ Int32.toInt x2 ∧ Int32.toInt x2 ≤ 65535) (h_x3 : 0 ≤ Int32.toInt x3 ∧ Int32.toInt x3 ≤ 7) (h_k0 : 0 ≤ Int32.toInt k0 ∧ Int32.toInt k0 ≤ 65535) (hn7 : 8 - Int32.toInt x3 ≤ n7) : ws_X5_loadFirsts_45 post K7 pl_wanted pl_near tr_fruits tr_standings tr_x tr_height tr_worth tr_foot tr_fork no_bruised ru_length ru_program x1 x2 x3 k0 pl_load ru_given ru_stack := by
  have l0 : Int32.toInt (0 : Int32) = 0 := (by decide)
  exact ⟨18, tb_X5_loadFirsts_50 pl_wanted pl_near tr_fruits tr_standings tr_x tr_height tr_worth tr_foot tr_fork no_bruised ru_length ru_program h_pl_wanted h_pl_near h_tr_fruits h_tr_standings h_ru_length hpost hK7 _ x1 x2 x3 k0 0 pl_load ru_given ru_stack (by omega) (by omega) (by omega) (by omega) (by omega) (by omega) (by omega)⟩
set_option maxHeartbeats 8000000 in
set_option maxRecDepth 200000 in
theorem ts_X5_loadFirsts_7 {post : (Nat → Int32) → (Nat → Int32) → (Nat → Int32) → Prop} {next : Int32 → Int32 → Int32 → (Nat → Int32) → (Nat → Int32) → (Nat → Int32) → Prop} {n7 : Int} (pl_wanted : Int32) (pl_near : Nat → Int32) (tr_fruits : Int32) (tr_standings : Int32) (tr_x : Nat → Int32) (tr_height : Nat → Int32) (tr_worth : Nat → Int32) (tr_foot : Nat → Int32) (tr_fork : Nat → Int32) (no_bruised : Int32) (ru_length : Int32) (ru_program : Nat → Int32) (h_pl_wanted : 0 ≤ Int32.toInt pl_wanted ∧ Int32.toInt pl_wanted ≤ 65535) (h_pl_near : ∀ k : Nat, 0 ≤ Int32.toInt (pl_near k) ∧ Int32.toInt (pl_near k) ≤ 65535) (h_tr_fruits : 0 ≤ Int32.toInt tr_fruits ∧ Int32.toInt tr_fruits ≤ 16) (h_tr_standings : 0 ≤ Int32.toInt tr_standings ∧ Int32.toInt tr_standings ≤ 8) (h_ru_length : 0 ≤ Int32.toInt ru_length ∧ Int32.toInt ru_length ≤ 40) (hpost : ∀ (pl_load' : Nat → Int32) (ru_given' : Nat → Int32) (ru_stack' : Nat → Int32), post pl_load' ru_given' ru_stack') (hKn : ∀ (x1 : Int32) (x2 : Int32) (x3 : Int32) (pl_load : Nat → Int32) (ru_given : Nat → Int32) (ru_stack : Nat → Int32), (0 ≤ Int32.toInt x1 ∧ Int32.toInt x1 ≤ 255) → (0 ≤ Int32.toInt x2 ∧ Int32.toInt x2 ≤ 65535) → (0 ≤ Int32.toInt x3 ∧ Int32.toInt x3 ≤ 8) → (8 - Int32.toInt x3 < n7) → next x1 x2 x3 pl_load ru_given ru_stack) (x1 : Int32) (x2 : Int32) (x3 : Int32) (pl_load : Nat → Int32) (ru_given : Nat → Int32) (ru_stack : Nat → Int32) (h_x1 : 0 ≤ Int32.toInt x1 ∧ Int32.toInt x1 ≤ 255) (h_x2 : 0 ≤ Int32.toInt x2 ∧ Int32.toInt x2 ≤ 65535) (h_x3 : 0 ≤ Int32.toInt x3 ∧ Int32.toInt x3 ≤ 8) (hn7 : 8 - Int32.toInt x3 ≤ n7) : ws_X5_loadFirsts_7 post next pl_wanted pl_near tr_fruits tr_standings tr_x tr_height tr_worth tr_foot tr_fork no_bruised ru_length ru_program x1 x2 x3 pl_load ru_given ru_stack := by
  have l0 : Int32.toInt (0 : Int32) = 0 := (by decide)
  have l1 : Int32.toInt (1 : Int32) = 1 := (by decide)
  refine And.intro (fun c21 => ?_) (fun c21 => ?_)
  · skip
    have c21 := (fa_le _ _).mp c21
    exact hpost _ _ _ 
  · skip
    have c21 := mt (fa_le _ _).mpr c21
    refine And.intro (t_in (by omega)) ?_
    intro v22 ev22
    have f23 := ti_shr x1 x3 (by omega)
    have hv22 := congrArg Int32.toInt ev22
    have f25 := ti_andr v22 1 (by omega)
    have f26 := ti_andl v22 1 (by omega)
    refine And.intro (fun c24 => ?_) (fun c24 => ?_)
    · skip
      have c24 := (fa_eq _ _).mp c24
      exact ts_X5_loadFirsts_45 pl_wanted pl_near tr_fruits tr_standings tr_x tr_height tr_worth tr_foot tr_fork no_bruised ru_length ru_program h_pl_wanted h_pl_near h_tr_fruits h_tr_standings h_ru_length hpost hKn x1 x2 x3 0 (upd pl_load x3.toNatClampNeg 0) ru_given ru_stack (by omega) (by omega) (by omega) (by omega) (by omega)
    · skip
      have c24 := mt (fa_eq _ _).mpr c24
      refine And.intro (t_in (by omega)) ?_
      intro v27 ev27
      have f29 := h_pl_near x3.toNatClampNeg
      have f28 := ti_andr x2 (pl_near x3.toNatClampNeg) (by omega)
      have f30 := ti_andl x2 (pl_near x3.toNatClampNeg) (by omega)
      have hv27 := congrArg Int32.toInt ev27
      exact ts_X5_loadFirsts_45 pl_wanted pl_near tr_fruits tr_standings tr_x tr_height tr_worth tr_foot tr_fork no_bruised ru_length ru_program h_pl_wanted h_pl_near h_tr_fruits h_tr_standings h_ru_length hpost hKn x1 x2 x3 v27 (upd pl_load x3.toNatClampNeg 0) ru_given ru_stack (by omega) (by omega) (by omega) (by omega) (by omega)
set_option maxHeartbeats 8000000 in
set_option maxRecDepth 200000 in
theorem tb_X5_loadFirsts_7 {post : (Nat → Int32) → (Nat → Int32) → (Nat → Int32) → Prop} (pl_wanted : Int32) (pl_near : Nat → Int32) (tr_fruits : Int32) (tr_standings : Int32) (tr_x : Nat → Int32) (tr_height : Nat → Int32) (tr_worth : Nat → Int32) (tr_foot : Nat → Int32) (tr_fork : Nat → Int32) (no_bruised : Int32) (ru_length : Int32) (ru_program : Nat → Int32) (h_pl_wanted : 0 ≤ Int32.toInt pl_wanted ∧ Int32.toInt pl_wanted ≤ 65535) (h_pl_near : ∀ k : Nat, 0 ≤ Int32.toInt (pl_near k) ∧ Int32.toInt (pl_near k) ≤ 65535) (h_tr_fruits : 0 ≤ Int32.toInt tr_fruits ∧ Int32.toInt tr_fruits ≤ 16) (h_tr_standings : 0 ≤ Int32.toInt tr_standings ∧ Int32.toInt tr_standings ≤ 8) (h_ru_length : 0 ≤ Int32.toInt ru_length ∧ Int32.toInt ru_length ≤ 40) (hpost : ∀ (pl_load' : Nat → Int32) (ru_given' : Nat → Int32) (ru_stack' : Nat → Int32), post pl_load' ru_given' ru_stack') : ∀ (n : Nat) (x1 : Int32) (x2 : Int32) (x3 : Int32) (pl_load : Nat → Int32) (ru_given : Nat → Int32) (ru_stack : Nat → Int32), (0 ≤ Int32.toInt x1 ∧ Int32.toInt x1 ≤ 255) → (0 ≤ Int32.toInt x2 ∧ Int32.toInt x2 ≤ 65535) → (0 ≤ Int32.toInt x3 ∧ Int32.toInt x3 ≤ 8) → (8 - Int32.toInt x3 < (n : Int)) → wb_X5_loadFirsts_7 post pl_wanted pl_near tr_fruits tr_standings tr_x tr_height tr_worth tr_foot tr_fork no_bruised ru_length ru_program n x1 x2 x3 pl_load ru_given ru_stack := by
  intro n
  induction n with
  | zero =>
    intro x1 x2 x3 pl_load ru_given ru_stack h_x1 h_x2 h_x3 hm
    exfalso; omega
  | succ n ih =>
    intro x1 x2 x3 pl_load ru_given ru_stack h_x1 h_x2 h_x3 hm
    exact ts_X5_loadFirsts_7 pl_wanted pl_near tr_fruits tr_standings tr_x tr_height tr_worth tr_foot tr_fork no_bruised ru_length ru_program h_pl_wanted h_pl_near h_tr_fruits h_tr_standings h_ru_length hpost ih x1 x2 x3 pl_load ru_given ru_stack h_x1 h_x2 h_x3 (by omega)
set_option maxHeartbeats 8000000 in
set_option maxRecDepth 200000 in
theorem t_X5_loadFirsts {post : (Nat → Int32) → (Nat → Int32) → (Nat → Int32) → Prop} {p0 : Int32} {pl_wanted : Int32} {pl_near : Nat → Int32} {pl_load : Nat → Int32} {tr_fruits : Int32} {tr_standings : Int32} {tr_x : Nat → Int32} {tr_height : Nat → Int32} {tr_worth : Nat → Int32} {tr_foot : Nat → Int32} {tr_fork : Nat → Int32} {no_bruised : Int32} {ru_length : Int32} {ru_given : Nat → Int32} {ru_stack : Nat → Int32} {ru_program : Nat → Int32} (h_p0 : 0 ≤ Int32.toInt p0 ∧ Int32.toInt p0 ≤ 255) (h_pl_wanted : 0 ≤ Int32.toInt pl_wanted ∧ Int32.toInt pl_wanted ≤ 65535) (h_pl_near : ∀ k : Nat, 0 ≤ Int32.toInt (pl_near k) ∧ Int32.toInt (pl_near k) ≤ 65535) (h_tr_fruits : 0 ≤ Int32.toInt tr_fruits ∧ Int32.toInt tr_fruits ≤ 16) (h_tr_standings : 0 ≤ Int32.toInt tr_standings ∧ Int32.toInt tr_standings ≤ 8) (h_ru_length : 0 ≤ Int32.toInt ru_length ∧ Int32.toInt ru_length ≤ 40) (hpost : ∀ (pl_load' : Nat → Int32) (ru_given' : Nat → Int32) (ru_stack' : Nat → Int32), post pl_load' ru_given' ru_stack') : wp_X5_loadFirsts post p0 pl_wanted pl_near pl_load tr_fruits tr_standings tr_x tr_height tr_worth tr_foot tr_fork no_bruised ru_length ru_given ru_stack ru_program := by
  have l0 : Int32.toInt (0 : Int32) = 0 := (by decide)
  exact ⟨10, tb_X5_loadFirsts_7 pl_wanted pl_near tr_fruits tr_standings tr_x tr_height tr_worth tr_foot tr_fork no_bruised ru_length ru_program h_pl_wanted h_pl_near h_tr_fruits h_tr_standings h_ru_length hpost _ p0 pl_wanted 0 pl_load ru_given ru_stack (by omega) (by omega) (by omega) (by omega)⟩
set_option maxHeartbeats 8000000 in
set_option maxRecDepth 200000 in
theorem ts_X5_loadOf_32 {post : Int32 → Prop} {K4 : Int32 → Int32 → Int32 → Prop} {n4 : Int} (pl_load : Nat → Int32) (tr_standings : Int32) (h_tr_standings : 0 ≤ Int32.toInt tr_standings ∧ Int32.toInt tr_standings ≤ 8) (hpost : ∀ (r : Int32) , post r) (hK4 : ∀ (x1 : Int32) (x2 : Int32) (x3 : Int32), (0 ≤ Int32.toInt x1 ∧ Int32.toInt x1 ≤ 255) → (0 ≤ Int32.toInt x3 ∧ Int32.toInt x3 ≤ 8) → (8 - Int32.toInt x3 < n4) → K4 x1 x2 x3) (x1 : Int32) (x2 : Int32) (x3 : Int32) (h_x1 : 0 ≤ Int32.toInt x1 ∧ Int32.toInt x1 ≤ 255) (h_x3 : 0 ≤ Int32.toInt x3 ∧ Int32.toInt x3 ≤ 7) (hn4 : 8 - Int32.toInt x3 ≤ n4) : ws_X5_loadOf_32 post K4 pl_load tr_standings x1 x2 x3 := by
  have l0 : Int32.toInt (1 : Int32) = 1 := (by decide)
  intro v1 ev1
  have f2 : Int32.toInt (x3 + 1) = Int32.toInt x3 + Int32.toInt (1 : Int32) := ta_add _ _ (by omega)
  rw [← ev1] at f2
  have f3 := tp_r x2
  exact hK4 x1 x2 v1 (by omega) (by omega) (by omega)
set_option maxHeartbeats 8000000 in
set_option maxRecDepth 200000 in
theorem ts_X5_loadOf_4 {post : Int32 → Prop} {next : Int32 → Int32 → Int32 → Prop} {n4 : Int} (pl_load : Nat → Int32) (tr_standings : Int32) (h_tr_standings : 0 ≤ Int32.toInt tr_standings ∧ Int32.toInt tr_standings ≤ 8) (hpost : ∀ (r : Int32) , post r) (hKn : ∀ (x1 : Int32) (x2 : Int32) (x3 : Int32), (0 ≤ Int32.toInt x1 ∧ Int32.toInt x1 ≤ 255) → (0 ≤ Int32.toInt x3 ∧ Int32.toInt x3 ≤ 8) → (8 - Int32.toInt x3 < n4) → next x1 x2 x3) (x1 : Int32) (x2 : Int32) (x3 : Int32) (h_x1 : 0 ≤ Int32.toInt x1 ∧ Int32.toInt x1 ≤ 255) (h_x3 : 0 ≤ Int32.toInt x3 ∧ Int32.toInt x3 ≤ 8) (hn4 : 8 - Int32.toInt x3 ≤ n4) : ws_X5_loadOf_4 post next pl_load tr_standings x1 x2 x3 := by
  have l0 : Int32.toInt (0 : Int32) = 0 := (by decide)
  have l1 : Int32.toInt (1 : Int32) = 1 := (by decide)
  refine And.intro (fun c4 => ?_) (fun c4 => ?_)
  · skip
    have c4 := (fa_le _ _).mp c4
    exact hpost _ 
  · skip
    have c4 := mt (fa_le _ _).mpr c4
    intro v5 ev5
    have f6 := ti_shr x1 x3 (by omega)
    have hv5 := congrArg Int32.toInt ev5
    have f8 := ti_andr v5 1 (by omega)
    have f9 := ti_andl v5 1 (by omega)
    refine And.intro (fun c7 => ?_) (fun c7 => ?_)
    · skip
      have c7 := (fa_eq _ _).mp c7
      have f10 := tp_r x2
      exact ts_X5_loadOf_32 pl_load tr_standings h_tr_standings hpost hKn x1 x2 x3 (by omega) (by omega) (by omega)
    · skip
      have c7 := mt (fa_eq _ _).mpr c7
      refine And.intro (t_in (by omega)) ?_
      intro v11 ev11
      have hv11 := congrArg Int32.toInt ev11
      have f13 := tp_r v11
      exact ts_X5_loadOf_32 pl_load tr_standings h_tr_standings hpost hKn x1 v11 x3 (by omega) (by omega) (by omega)
set_option maxHeartbeats 8000000 in
set_option maxRecDepth 200000 in
theorem tb_X5_loadOf_4 {post : Int32 → Prop} (pl_load : Nat → Int32) (tr_standings : Int32) (h_tr_standings : 0 ≤ Int32.toInt tr_standings ∧ Int32.toInt tr_standings ≤ 8) (hpost : ∀ (r : Int32) , post r) : ∀ (n : Nat) (x1 : Int32) (x2 : Int32) (x3 : Int32), (0 ≤ Int32.toInt x1 ∧ Int32.toInt x1 ≤ 255) → (0 ≤ Int32.toInt x3 ∧ Int32.toInt x3 ≤ 8) → (8 - Int32.toInt x3 < (n : Int)) → wb_X5_loadOf_4 post pl_load tr_standings n x1 x2 x3 := by
  intro n
  induction n with
  | zero =>
    intro x1 x2 x3 h_x1 h_x3 hm
    exfalso; omega
  | succ n ih =>
    intro x1 x2 x3 h_x1 h_x3 hm
    exact ts_X5_loadOf_4 pl_load tr_standings h_tr_standings hpost ih x1 x2 x3 h_x1 h_x3 (by omega)
set_option maxHeartbeats 8000000 in
set_option maxRecDepth 200000 in
theorem t_X5_loadOf {post : Int32 → Prop} {p0 : Int32} {pl_load : Nat → Int32} {tr_standings : Int32} (h_p0 : 0 ≤ Int32.toInt p0 ∧ Int32.toInt p0 ≤ 255) (h_tr_standings : 0 ≤ Int32.toInt tr_standings ∧ Int32.toInt tr_standings ≤ 8) (hpost : ∀ (r : Int32) , post r) : wp_X5_loadOf post p0 pl_load tr_standings := by
  have l0 : Int32.toInt (0 : Int32) = 0 := (by decide)
  exact ⟨10, tb_X5_loadOf_4 pl_load tr_standings h_tr_standings hpost _ p0 0 0 (by omega) (by omega) (by omega)⟩
set_option maxHeartbeats 8000000 in
set_option maxRecDepth 200000 in
theorem ts_X9_share_96 {post : Int32 → Int32 → (Nat → Int32) → (Nat → Int32) → (Nat → Int32) → (Nat → Int32) → Int32 → (Nat → Int32) → Prop} {K45 : Int32 → Int32 → Int32 → Int32 → Int32 → Int32 → (Nat → Int32) → (Nat → Int32) → (Nat → Int32) → (Nat → Int32) → Int32 → (Nat → Int32) → Prop} {n45 : Int} (tr_fruits : Int32) (tr_standings : Int32) (tr_x : Nat → Int32) (tr_height : Nat → Int32) (tr_worth : Nat → Int32) (tr_ripe : Nat → Int32) (tr_foot : Nat → Int32) (tr_fork : Nat → Int32) (tr_settings : Nat → Int32) (no_apron : Int32) (no_basket : Int32) (no_ground : Int32) (no_bruised : Int32) (no_helper : Int32) (no_today : Int32) (ru_length : Int32) (ru_program : Nat → Int32) (h_tr_fruits : 0 ≤ Int32.toInt tr_fruits ∧ Int32.toInt tr_fruits ≤ 16) (h_tr_standings : 0 ≤ Int32.toInt tr_standings ∧ Int32.toInt tr_standings ≤ 8) (h_no_today : 0 ≤ Int32.toInt no_today ∧ Int32.toInt no_today ≤ 9) (h_ru_length : 0 ≤ Int32.toInt ru_length ∧ Int32.toInt ru_length ≤ 40) (hpost : ∀ (r : Int32) (pl_wanted' : Int32) (pl_near' : Nat → Int32) (pl_load' : Nat → Int32) (ru_given' : Nat → Int32) (ru_stack' : Nat → Int32) (ro_size' : Int32) (ro_numbers' : Nat → Int32), (0 ≤ Int32.toInt pl_wanted' ∧ Int32.toInt pl_wanted' ≤ 65535) → (∀ k : Nat, 0 ≤ Int32.toInt (pl_near' k) ∧ Int32.toInt (pl_near' k) ≤ 65535) → (0 ≤ Int32.toInt ro_size' ∧ Int32.toInt ro_size' ≤ 16) → post r pl_wanted' pl_near' pl_load' ru_given' ru_stack' ro_size' ro_numbers') (hK45 : ∀ (x1 : Int32) (x2 : Int32) (x3 : Int32) (x4 : Int32) (x5 : Int32) (pl_wanted : Int32) (pl_near : Nat → Int32) (pl_load : Nat → Int32) (ru_given : Nat → Int32) (ru_stack : Nat → Int32) (ro_size : Int32) (ro_numbers : Nat → Int32), (0 ≤ Int32.toInt x1 ∧ Int32.toInt x1 ≤ 255) → (0 ≤ Int32.toInt x3 ∧ Int32.toInt x3 ≤ 255) → (1 ≤ Int32.toInt x5 ∧ Int32.toInt x5 ≤ 256) → (0 ≤ Int32.toInt pl_wanted ∧ Int32.toInt pl_wanted ≤ 65535) → (∀ k : Nat, 0 ≤ Int32.toInt (pl_near k) ∧ Int32.toInt (pl_near k) ≤ 65535) → (0 ≤ Int32.toInt ro_size ∧ Int32.toInt ro_size ≤ 16) → (256 - Int32.toInt x5 < n45) → K45 x1 x2 x3 x4 x5 pl_wanted pl_near pl_load ru_given ru_stack ro_size ro_numbers) (x1 : Int32) (x2 : Int32) (x3 : Int32) (x4 : Int32) (x5 : Int32) (pl_wanted : Int32) (pl_near : Nat → Int32) (pl_load : Nat → Int32) (ru_given : Nat → Int32) (ru_stack : Nat → Int32) (ro_size : Int32) (ro_numbers : Nat → Int32) (h_x1 : 1 ≤ Int32.toInt x1 ∧ Int32.toInt x1 ≤ 255) (h_x3 : 0 ≤ Int32.toInt x3 ∧ Int32.toInt x3 ≤ 255) (h_x5 : 1 ≤ Int32.toInt x5 ∧ Int32.toInt x5 ≤ 255) (h_pl_wanted : 0 ≤ Int32.toInt pl_wanted ∧ Int32.toInt pl_wanted ≤ 65535) (h_pl_near : ∀ k : Nat, 0 ≤ Int32.toInt (pl_near k) ∧ Int32.toInt (pl_near k) ≤ 65535) (h_ro_size : 0 ≤ Int32.toInt ro_size ∧ Int32.toInt ro_size ≤ 16) (hn45 : 256 - Int32.toInt x5 ≤ n45) : ws_X9_share_96 post K45 tr_fruits tr_standings tr_x tr_height tr_worth tr_ripe tr_foot tr_fork tr_settings no_apron no_basket no_ground no_bruised no_helper no_today ru_length ru_program x1 x2 x3 x4 x5 pl_wanted pl_near pl_load ru_given ru_stack ro_size ro_numbers := by
  have l0 : Int32.toInt (1 : Int32) = 1 := (by decide)
  intro v1 ev1
  have f2 : Int32.toInt (x5 + 1) = Int32.toInt x5 + Int32.toInt (1 : Int32) := ta_add _ _ (by omega)
  rw [← ev1] at f2
  have f3 := tp_r x2
  have f4 := tp_r x4
  exact hK45 x1 x2 x3 x4 v1 pl_wanted pl_near pl_load ru_given ru_stack ro_size ro_numbers (by omega) (by omega) (by omega) (by omega) (fun k => by have q9 := h_pl_near k; omega) (by omega) (by omega)
set_option maxHeartbeats 8000000 in
set_option maxRecDepth 200000 in
theorem ts_X9_share_45 {post : Int32 → Int32 → (Nat → Int32) → (Nat → Int32) → (Nat → Int32) → (Nat → Int32) → Int32 → (Nat → Int32) → Prop} {next : Int32 → Int32 → Int32 → Int32 → Int32 → Int32 → (Nat → Int32) → (Nat → Int32) → (Nat → Int32) → (Nat → Int32) → Int32 → (Nat → Int32) → Prop} {n45 : Int} (tr_fruits : Int32) (tr_standings : Int32) (tr_x : Nat → Int32) (tr_height : Nat → Int32) (tr_worth : Nat → Int32) (tr_ripe : Nat → Int32) (tr_foot : Nat → Int32) (tr_fork : Nat → Int32) (tr_settings : Nat → Int32) (no_apron : Int32) (no_basket : Int32) (no_ground : Int32) (no_bruised : Int32) (no_helper : Int32) (no_today : Int32) (ru_length : Int32) (ru_program : Nat → Int32) (h_tr_fruits : 0 ≤ Int32.toInt tr_fruits ∧ Int32.toInt tr_fruits ≤ 16) (h_tr_standings : 0 ≤ Int32.toInt tr_standings ∧ Int32.toInt tr_standings ≤ 8) (h_no_today : 0 ≤ Int32.toInt no_today ∧ Int32.toInt no_today ≤ 9) (h_ru_length : 0 ≤ Int32.toInt ru_length ∧ Int32.toInt ru_length ≤ 40) (hpost : ∀ (r : Int32) (pl_wanted' : Int32) (pl_near' : Nat → Int32) (pl_load' : Nat → Int32) (ru_given' : Nat → Int32) (ru_stack' : Nat → Int32) (ro_size' : Int32) (ro_numbers' : Nat → Int32), (0 ≤ Int32.toInt pl_wanted' ∧ Int32.toInt pl_wanted' ≤ 65535) → (∀ k : Nat, 0 ≤ Int32.toInt (pl_near' k) ∧ Int32.toInt (pl_near' k) ≤ 65535) → (0 ≤ Int32.toInt ro_size' ∧ Int32.toInt ro_size' ≤ 16) → post r pl_wanted' pl_near' pl_load' ru_given' ru_stack' ro_size' ro_numbers') (hKn : ∀ (x1 : Int32) (x2 : Int32) (x3 : Int32) (x4 : Int32) (x5 : Int32) (pl_wanted : Int32) (pl_near : Nat → Int32) (pl_load : Nat → Int32) (ru_given : Nat → Int32) (ru_stack : Nat → Int32) (ro_size : Int32) (ro_numbers : Nat → Int32), (0 ≤ Int32.toInt x1 ∧ Int32.toInt x1 ≤ 255) → (0 ≤ Int32.toInt x3 ∧ Int32.toInt x3 ≤ 255) → (1 ≤ Int32.toInt x5 ∧ Int32.toInt x5 ≤ 256) → (0 ≤ Int32.toInt pl_wanted ∧ Int32.toInt pl_wanted ≤ 65535) → (∀ k : Nat, 0 ≤ Int32.toInt (pl_near k) ∧ Int32.toInt (pl_near k) ≤ 65535) → (0 ≤ Int32.toInt ro_size ∧ Int32.toInt ro_size ≤ 16) → (256 - Int32.toInt x5 < n45) → next x1 x2 x3 x4 x5 pl_wanted pl_near pl_load ru_given ru_stack ro_size ro_numbers) (x1 : Int32) (x2 : Int32) (x3 : Int32) (x4 : Int32) (x5 : Int32) (pl_wanted : Int32) (pl_near : Nat → Int32) (pl_load : Nat → Int32) (ru_given : Nat → Int32) (ru_stack : Nat → Int32) (ro_size : Int32) (ro_numbers : Nat → Int32) (h_x1 : 0 ≤ Int32.toInt x1 ∧ Int32.toInt x1 ≤ 255) (h_x3 : 0 ≤ Int32.toInt x3 ∧ Int32.toInt x3 ≤ 255) (h_x5 : 1 ≤ Int32.toInt x5 ∧ Int32.toInt x5 ≤ 256) (h_pl_wanted : 0 ≤ Int32.toInt pl_wanted ∧ Int32.toInt pl_wanted ≤ 65535) (h_pl_near : ∀ k : Nat, 0 ≤ Int32.toInt (pl_near k) ∧ Int32.toInt (pl_near k) ≤ 65535) (h_ro_size : 0 ≤ Int32.toInt ro_size ∧ Int32.toInt ro_size ≤ 16) (hn45 : 256 - Int32.toInt x5 ≤ n45) : ws_X9_share_45 post next tr_fruits tr_standings tr_x tr_height tr_worth tr_ripe tr_foot tr_fork tr_settings no_apron no_basket no_ground no_bruised no_helper no_today ru_length ru_program x1 x2 x3 x4 x5 pl_wanted pl_near pl_load ru_given ru_stack ro_size ro_numbers := by
  have l0 : Int32.toInt (0 : Int32) = 0 := (by decide)
  have l1 : Int32.toInt (1 : Int32) = 1 := (by decide)
  have l2 : Int32.toInt (16 : Int32) = 16 := (by decide)
  refine And.intro (fun c5 => ?_) (fun c5 => ?_)
  · skip
    have c5 := (fa_lt _ _).mp c5
    refine t_X5_loadOf (by omega) (by omega) (fun r6 => ?_)
    intro v7 ev7
    have hv7 := congrArg Int32.toInt ev7
    refine And.intro (fun h9 => absurd h9 (by decide)) (fun _ => ?_)
    refine And.intro (t_in (by omega)) ?_
    intro v9 ev9
    have f10 : Int32.toInt (0 + 1) = Int32.toInt (0 : Int32) + Int32.toInt (1 : Int32) := ta_add _ _ (by omega)
    rw [← ev9] at f10
    refine And.intro (fun c11 => ?_) (fun c11 => ?_)
    · skip
      have c11 := (fa_le _ _).mp c11
      exfalso; omega
    · skip
      have c11 := mt (fa_le _ _).mpr c11
      refine And.intro (t_in (by omega)) ?_
      intro v12 ev12
      have f13 : Int32.toInt (v9 + 1) = Int32.toInt v9 + Int32.toInt (1 : Int32) := ta_add _ _ (by omega)
      rw [← ev12] at f13
      exact hpost _ _ _ _ _ _ _ _ (by omega) (fun k => by have q9 := h_pl_near k; omega) (by omega)
  · skip
    have c5 := mt (fa_lt _ _).mpr c5
    have f16 := ti_andl x5 (x1 ^^^ (-1)) (by omega)
    refine And.intro (fun c14 => ?_) (fun c14 => ?_)
    · skip
      have c14 := mt (fa_eq _ _).mpr c14
      have f17 := tp_r x2
      have f18 := tp_r x4
      exact ts_X9_share_96 tr_fruits tr_standings tr_x tr_height tr_worth tr_ripe tr_foot tr_fork tr_settings no_apron no_basket no_ground no_bruised no_helper no_today ru_length ru_program h_tr_fruits h_tr_standings h_no_today h_ru_length hpost hKn x1 x2 x3 x4 x5 pl_wanted pl_near pl_load ru_given ru_stack ro_size ro_numbers (by omega) (by omega) (by omega) (by omega) (fun k => by have q9 := h_pl_near k; omega) (by omega) (by omega)
    · skip
      have c14Z := c14
      have c14 := (fa_eq _ _).mp c14
      have s19 := ti_subset x5 x1 (c14Z) (by omega)
      refine t_X5_loadOf (by omega) (by omega) (fun r20 => ?_)
      intro v21 ev21
      have hv21 := congrArg Int32.toInt ev21
      intro v23 ev23
      have f25 := tp_r r20
      have f26 := tp_r v21
      have f24 := ti_max r20 v21
      have hv23 := congrArg Int32.toInt ev23
      have f28 := tp_r v23
      have f29 := tp_r x4
      refine And.intro (fun c27 => ?_) (fun c27 => ?_)
      · skip
        have c27 := (fa_le _ _).mp c27
        have f30 := tp_r x2
        exact ts_X9_share_96 tr_fruits tr_standings tr_x tr_height tr_worth tr_ripe tr_foot tr_fork tr_settings no_apron no_basket no_ground no_bruised no_helper no_today ru_length ru_program h_tr_fruits h_tr_standings h_no_today h_ru_length hpost hKn x1 x2 x3 x4 x5 pl_wanted pl_near pl_load ru_given ru_stack ro_size ro_numbers (by omega) (by omega) (by omega) (by omega) (fun k => by have q9 := h_pl_near k; omega) (by omega) (by omega)
      · skip
        have c27 := mt (fa_le _ _).mpr c27
        have f31 := tp_r x2
        exact ts_X9_share_96 tr_fruits tr_standings tr_x tr_height tr_worth tr_ripe tr_foot tr_fork tr_settings no_apron no_basket no_ground no_bruised no_helper no_today ru_length ru_program h_tr_fruits h_tr_standings h_no_today h_ru_length hpost hKn x1 x2 x5 v23 x5 pl_wanted pl_near pl_load ru_given ru_stack ro_size ro_numbers (by omega) (by omega) (by omega) (by omega) (fun k => by have q9 := h_pl_near k; omega) (by omega) (by omega)
set_option maxHeartbeats 8000000 in
set_option maxRecDepth 200000 in
theorem tb_X9_share_45 {post : Int32 → Int32 → (Nat → Int32) → (Nat → Int32) → (Nat → Int32) → (Nat → Int32) → Int32 → (Nat → Int32) → Prop} (tr_fruits : Int32) (tr_standings : Int32) (tr_x : Nat → Int32) (tr_height : Nat → Int32) (tr_worth : Nat → Int32) (tr_ripe : Nat → Int32) (tr_foot : Nat → Int32) (tr_fork : Nat → Int32) (tr_settings : Nat → Int32) (no_apron : Int32) (no_basket : Int32) (no_ground : Int32) (no_bruised : Int32) (no_helper : Int32) (no_today : Int32) (ru_length : Int32) (ru_program : Nat → Int32) (h_tr_fruits : 0 ≤ Int32.toInt tr_fruits ∧ Int32.toInt tr_fruits ≤ 16) (h_tr_standings : 0 ≤ Int32.toInt tr_standings ∧ Int32.toInt tr_standings ≤ 8) (h_no_today : 0 ≤ Int32.toInt no_today ∧ Int32.toInt no_today ≤ 9) (h_ru_length : 0 ≤ Int32.toInt ru_length ∧ Int32.toInt ru_length ≤ 40) (hpost : ∀ (r : Int32) (pl_wanted' : Int32) (pl_near' : Nat → Int32) (pl_load' : Nat → Int32) (ru_given' : Nat → Int32) (ru_stack' : Nat → Int32) (ro_size' : Int32) (ro_numbers' : Nat → Int32), (0 ≤ Int32.toInt pl_wanted' ∧ Int32.toInt pl_wanted' ≤ 65535) → (∀ k : Nat, 0 ≤ Int32.toInt (pl_near' k) ∧ Int32.toInt (pl_near' k) ≤ 65535) → (0 ≤ Int32.toInt ro_size' ∧ Int32.toInt ro_size' ≤ 16) → post r pl_wanted' pl_near' pl_load' ru_given' ru_stack' ro_size' ro_numbers') : ∀ (n : Nat) (x1 : Int32) (x2 : Int32) (x3 : Int32) (x4 : Int32) (x5 : Int32) (pl_wanted : Int32) (pl_near : Nat → Int32) (pl_load : Nat → Int32) (ru_given : Nat → Int32) (ru_stack : Nat → Int32) (ro_size : Int32) (ro_numbers : Nat → Int32), (0 ≤ Int32.toInt x1 ∧ Int32.toInt x1 ≤ 255) → (0 ≤ Int32.toInt x3 ∧ Int32.toInt x3 ≤ 255) → (1 ≤ Int32.toInt x5 ∧ Int32.toInt x5 ≤ 256) → (0 ≤ Int32.toInt pl_wanted ∧ Int32.toInt pl_wanted ≤ 65535) → (∀ k : Nat, 0 ≤ Int32.toInt (pl_near k) ∧ Int32.toInt (pl_near k) ≤ 65535) → (0 ≤ Int32.toInt ro_size ∧ Int32.toInt ro_size ≤ 16) → (256 - Int32.toInt x5 < (n : Int)) → wb_X9_share_45 post tr_fruits tr_standings tr_x tr_height tr_worth tr_ripe tr_foot tr_fork tr_settings no_apron no_basket no_ground no_bruised no_helper no_today ru_length ru_program n x1 x2 x3 x4 x5 pl_wanted pl_near pl_load ru_given ru_stack ro_size ro_numbers := by
  intro n
  induction n with
  | zero =>
    intro x1 x2 x3 x4 x5 pl_wanted pl_near pl_load ru_given ru_stack ro_size ro_numbers h_x1 h_x3 h_x5 h_pl_wanted h_pl_near h_ro_size hm
    exfalso; omega
  | succ n ih =>
    intro x1 x2 x3 x4 x5 pl_wanted pl_near pl_load ru_given ru_stack ro_size ro_numbers h_x1 h_x3 h_x5 h_pl_wanted h_pl_near h_ro_size hm
    exact ts_X9_share_45 tr_fruits tr_standings tr_x tr_height tr_worth tr_ripe tr_foot tr_fork tr_settings no_apron no_basket no_ground no_bruised no_helper no_today ru_length ru_program h_tr_fruits h_tr_standings h_no_today h_ru_length hpost ih x1 x2 x3 x4 x5 pl_wanted pl_near pl_load ru_given ru_stack ro_size ro_numbers h_x1 h_x3 h_x5 h_pl_wanted h_pl_near h_ro_size (by omega)
set_option maxHeartbeats 8000000 in
set_option maxRecDepth 200000 in
theorem t_X9_share {post : Int32 → Int32 → (Nat → Int32) → (Nat → Int32) → (Nat → Int32) → (Nat → Int32) → Int32 → (Nat → Int32) → Prop} {p0 : Int32} {pl_wanted : Int32} {pl_near : Nat → Int32} {pl_load : Nat → Int32} {tr_fruits : Int32} {tr_standings : Int32} {tr_x : Nat → Int32} {tr_height : Nat → Int32} {tr_worth : Nat → Int32} {tr_ripe : Nat → Int32} {tr_foot : Nat → Int32} {tr_fork : Nat → Int32} {tr_settings : Nat → Int32} {no_apron : Int32} {no_basket : Int32} {no_ground : Int32} {no_bruised : Int32} {no_helper : Int32} {no_today : Int32} {ru_length : Int32} {ru_given : Nat → Int32} {ru_stack : Nat → Int32} {ru_program : Nat → Int32} {ro_size : Int32} {ro_numbers : Nat → Int32} (h_pl_wanted : 0 ≤ Int32.toInt pl_wanted ∧ Int32.toInt pl_wanted ≤ 65535) (h_pl_near : ∀ k : Nat, 0 ≤ Int32.toInt (pl_near k) ∧ Int32.toInt (pl_near k) ≤ 65535) (h_tr_fruits : 0 ≤ Int32.toInt tr_fruits ∧ Int32.toInt tr_fruits ≤ 16) (h_tr_standings : 0 ≤ Int32.toInt tr_standings ∧ Int32.toInt tr_standings ≤ 8) (h_no_today : 0 ≤ Int32.toInt no_today ∧ Int32.toInt no_today ≤ 9) (h_ru_length : 0 ≤ Int32.toInt ru_length ∧ Int32.toInt ru_length ≤ 40) (h_ro_size : 0 ≤ Int32.toInt ro_size ∧ Int32.toInt ro_size ≤ 16) (hpost : ∀ (r : Int32) (pl_wanted' : Int32) (pl_near' : Nat → Int32) (pl_load' : Nat → Int32) (ru_given' : Nat → Int32) (ru_stack' : Nat → Int32) (ro_size' : Int32) (ro_numbers' : Nat → Int32), (0 ≤ Int32.toInt pl_wanted' ∧ Int32.toInt pl_wanted' ≤ 65535) → (∀ k : Nat, 0 ≤ Int32.toInt (pl_near' k) ∧ Int32.toInt (pl_near' k) ≤ 65535) → (0 ≤ Int32.toInt ro_size' ∧ Int32.toInt ro_size' ≤ 16) → post r pl_wanted' pl_near' pl_load' ru_given' ru_stack' ro_size' ro_numbers') : wp_X9_share post p0 pl_wanted pl_near pl_load tr_fruits tr_standings tr_x tr_height tr_worth tr_ripe tr_foot tr_fork tr_settings no_apron no_basket no_ground no_bruised no_helper no_today ru_length ru_given ru_stack ru_program ro_size ro_numbers := by
  have l0 : Int32.toInt (0 : Int32) = 0 := (by decide)
  have l1 : Int32.toInt (1 : Int32) = 1 := (by decide)
  intro v32 ev32
  have f33 := ti_shl1 8 256 tr_standings (by decide) (by omega)
  have hv32 := congrArg Int32.toInt ev32
  refine And.intro (fun c34 => ?_) (fun c34 => ?_)
  · skip
    have c34 := mt (fa_eq _ _).mpr c34
    refine And.intro (fun h9 => absurd h9 (by decide)) (fun _ => ?_)
    exact hpost _ _ _ _ _ _ _ _ (by omega) (fun k => by have q9 := h_pl_near k; omega) (by omega)
  · skip
    have c34Z := c34
    have c34 := (fa_eq _ _).mp c34
    have f36 : Int32.toInt (v32 - 1) = Int32.toInt v32 - Int32.toInt (1 : Int32) := ta_sub _ _ (by omega)
    have s37 := ti_subset p0 (v32 - 1) (c34Z) (by omega)
    refine And.intro (fun _ => ?_) (fun h9 => absurd h9 (by decide))
    refine t_X5_lookAs (by omega) (by omega) (fun k => by have q9 := h_pl_near k; omega) (by omega) (by omega) (fun pl_wanted_38 pl_near_39 h_pl_wanted_38 h_pl_near_39 => ?_)
    refine t_X5_loadFirsts (by omega) (by omega) (fun k => by have q9 := h_pl_near_39 k; omega) (by omega) (by omega) (by omega) (fun pl_load_40 ru_given_41 ru_stack_42 => ?_)
    refine t_X5_loadOf (by omega) (by omega) (fun r43 => ?_)
    have f44 := tp_r r43
    exact ⟨257, tb_X9_share_45 tr_fruits tr_standings tr_x tr_height tr_worth tr_ripe tr_foot tr_fork tr_settings no_apron no_basket no_ground no_bruised no_helper no_today ru_length ru_program h_tr_fruits h_tr_standings h_no_today h_ru_length hpost _ p0 r43 0 r43 1 pl_wanted_38 pl_near_39 pl_load_40 ru_given_41 ru_stack_42 ro_size ro_numbers (by omega) (by omega) (by omega) (by omega) (fun k => by have q9 := h_pl_near_39 k; omega) (by omega) (by omega)⟩
set_option maxHeartbeats 8000000 in
set_option maxRecDepth 200000 in
theorem ts_X9_ripens_48 {post : Int32 → Int32 → (Nat → Int32) → Int32 → (Nat → Int32) → Prop} {K18 : Int32 → Int32 → Int32 → Int32 → (Nat → Int32) → Int32 → (Nat → Int32) → Prop} {n18 : Int} (tr_fruits : Int32) (tr_standings : Int32) (tr_x : Nat → Int32) (tr_height : Nat → Int32) (tr_ripe : Nat → Int32) (tr_foot : Nat → Int32) (tr_fork : Nat → Int32) (tr_settings : Nat → Int32) (no_apron : Int32) (no_basket : Int32) (no_ground : Int32) (no_helper : Int32) (no_today : Int32) (h_tr_fruits : 0 ≤ Int32.toInt tr_fruits ∧ Int32.toInt tr_fruits ≤ 16) (h_tr_standings : 0 ≤ Int32.toInt tr_standings ∧ Int32.toInt tr_standings ≤ 8) (h_no_today : 0 ≤ Int32.toInt no_today ∧ Int32.toInt no_today ≤ 9) (hpost : ∀ (r : Int32) (pl_wanted' : Int32) (pl_near' : Nat → Int32) (ro_size' : Int32) (ro_numbers' : Nat → Int32), (0 ≤ Int32.toInt r ∧ Int32.toInt r ≤ 63) → (0 ≤ Int32.toInt pl_wanted' ∧ Int32.toInt pl_wanted' ≤ 65535) → (∀ k : Nat, 0 ≤ Int32.toInt (pl_near' k) ∧ Int32.toInt (pl_near' k) ≤ 65535) → (2 ≤ Int32.toInt ro_size' ∧ Int32.toInt ro_size' ≤ 2) → post r pl_wanted' pl_near' ro_size' ro_numbers') (hK18 : ∀ (x1 : Int32) (x2 : Int32) (x3 : Int32) (pl_wanted : Int32) (pl_near : Nat → Int32) (ro_size : Int32) (ro_numbers : Nat → Int32), (0 ≤ Int32.toInt x1 ∧ Int32.toInt x1 ≤ 9) → (0 ≤ Int32.toInt x2 ∧ Int32.toInt x2 ≤ 63) → (0 ≤ Int32.toInt x3 ∧ Int32.toInt x3 ≤ 10) → (0 ≤ Int32.toInt pl_wanted ∧ Int32.toInt pl_wanted ≤ 65535) → (∀ k : Nat, 0 ≤ Int32.toInt (pl_near k) ∧ Int32.toInt (pl_near k) ≤ 65535) → (0 ≤ Int32.toInt ro_size ∧ Int32.toInt ro_size ≤ 16) → (10 - Int32.toInt x3 < n18) → K18 x1 x2 x3 pl_wanted pl_near ro_size ro_numbers) (x1 : Int32) (x2 : Int32) (x3 : Int32) (pl_wanted : Int32) (pl_near : Nat → Int32) (ro_size : Int32) (ro_numbers : Nat → Int32) (h_x1 : 0 ≤ Int32.toInt x1 ∧ Int32.toInt x1 ≤ 9) (h_x2 : 0 ≤ Int32.toInt x2 ∧ Int32.toInt x2 ≤ 63) (h_x3 : 0 ≤ Int32.toInt x3 ∧ Int32.toInt x3 ≤ 9) (h_pl_wanted : 0 ≤ Int32.toInt pl_wanted ∧ Int32.toInt pl_wanted ≤ 65535) (h_pl_near : ∀ k : Nat, 0 ≤ Int32.toInt (pl_near k) ∧ Int32.toInt (pl_near k) ≤ 65535) (h_ro_size : 0 ≤ Int32.toInt ro_size ∧ Int32.toInt ro_size ≤ 16) (hn18 : 10 - Int32.toInt x3 ≤ n18) : ws_X9_ripens_48 post K18 tr_fruits tr_standings tr_x tr_height tr_ripe tr_foot tr_fork tr_settings no_apron no_basket no_ground no_helper no_today x1 x2 x3 pl_wanted pl_near ro_size ro_numbers := by
  have l0 : Int32.toInt (1 : Int32) = 1 := (by decide)
  intro v1 ev1
  have f2 : Int32.toInt (x3 + 1) = Int32.toInt x3 + Int32.toInt (1 : Int32) := ta_add _ _ (by omega)
  rw [← ev1] at f2
  exact hK18 x1 x2 v1 pl_wanted pl_near ro_size ro_numbers (by omega) (by omega) (by omega) (by omega) (fun k => by have q9 := h_pl_near k; omega) (by omega) (by omega)
set_option maxHeartbeats 8000000 in
set_option maxRecDepth 200000 in
theorem ts_X9_ripens_18 {post : Int32 → Int32 → (Nat → Int32) → Int32 → (Nat → Int32) → Prop} {next : Int32 → Int32 → Int32 → Int32 → (Nat → Int32) → Int32 → (Nat → Int32) → Prop} {n18 : Int} (tr_fruits : Int32) (tr_standings : Int32) (tr_x : Nat → Int32) (tr_height : Nat → Int32) (tr_ripe : Nat → Int32) (tr_foot : Nat → Int32) (tr_fork : Nat → Int32) (tr_settings : Nat → Int32) (no_apron : Int32) (no_basket : Int32) (no_ground : Int32) (no_helper : Int32) (no_today : Int32) (h_tr_fruits : 0 ≤ Int32.toInt tr_fruits ∧ Int32.toInt tr_fruits ≤ 16) (h_tr_standings : 0 ≤ Int32.toInt tr_standings ∧ Int32.toInt tr_standings ≤ 8) (h_no_today : 0 ≤ Int32.toInt no_today ∧ Int32.toInt no_today ≤ 9) (hpost : ∀ (r : Int32) (pl_wanted' : Int32) (pl_near' : Nat → Int32) (ro_size' : Int32) (ro_numbers' : Nat → Int32), (0 ≤ Int32.toInt r ∧ Int32.toInt r ≤ 63) → (0 ≤ Int32.toInt pl_wanted' ∧ Int32.toInt pl_wanted' ≤ 65535) → (∀ k : Nat, 0 ≤ Int32.toInt (pl_near' k) ∧ Int32.toInt (pl_near' k) ≤ 65535) → (2 ≤ Int32.toInt ro_size' ∧ Int32.toInt ro_size' ≤ 2) → post r pl_wanted' pl_near' ro_size' ro_numbers') (hKn : ∀ (x1 : Int32) (x2 : Int32) (x3 : Int32) (pl_wanted : Int32) (pl_near : Nat → Int32) (ro_size : Int32) (ro_numbers : Nat → Int32), (0 ≤ Int32.toInt x1 ∧ Int32.toInt x1 ≤ 9) → (0 ≤ Int32.toInt x2 ∧ Int32.toInt x2 ≤ 63) → (0 ≤ Int32.toInt x3 ∧ Int32.toInt x3 ≤ 10) → (0 ≤ Int32.toInt pl_wanted ∧ Int32.toInt pl_wanted ≤ 65535) → (∀ k : Nat, 0 ≤ Int32.toInt (pl_near k) ∧ Int32.toInt (pl_near k) ≤ 65535) → (0 ≤ Int32.toInt ro_size ∧ Int32.toInt ro_size ≤ 16) → (10 - Int32.toInt x3 < n18) → next x1 x2 x3 pl_wanted pl_near ro_size ro_numbers) (x1 : Int32) (x2 : Int32) (x3 : Int32) (pl_wanted : Int32) (pl_near : Nat → Int32) (ro_size : Int32) (ro_numbers : Nat → Int32) (h_x1 : 0 ≤ Int32.toInt x1 ∧ Int32.toInt x1 ≤ 9) (h_x2 : 0 ≤ Int32.toInt x2 ∧ Int32.toInt x2 ≤ 63) (h_x3 : 0 ≤ Int32.toInt x3 ∧ Int32.toInt x3 ≤ 10) (h_pl_wanted : 0 ≤ Int32.toInt pl_wanted ∧ Int32.toInt pl_wanted ≤ 65535) (h_pl_near : ∀ k : Nat, 0 ≤ Int32.toInt (pl_near k) ∧ Int32.toInt (pl_near k) ≤ 65535) (h_ro_size : 0 ≤ Int32.toInt ro_size ∧ Int32.toInt ro_size ≤ 16) (hn18 : 10 - Int32.toInt x3 ≤ n18) : ws_X9_ripens_18 post next tr_fruits tr_standings tr_x tr_height tr_ripe tr_foot tr_fork tr_settings no_apron no_basket no_ground no_helper no_today x1 x2 x3 pl_wanted pl_near ro_size ro_numbers := by
  have l0 : Int32.toInt (0 : Int32) = 0 := (by decide)
  have l1 : Int32.toInt (1 : Int32) = 1 := (by decide)
  have l2 : Int32.toInt (1431655765 : Int32) = 1431655765 := (by decide)
  have l3 : Int32.toInt (16 : Int32) = 16 := (by decide)
  have l4 : Int32.toInt (252645135 : Int32) = 252645135 := (by decide)
  have l5 : Int32.toInt (63 : Int32) = 63 := (by decide)
  have l6 : Int32.toInt (858993459 : Int32) = 858993459 := (by decide)
  have l7 : Int32.toInt (9 : Int32) = 9 := (by decide)
  refine And.intro (fun c3 => ?_) (fun c3 => ?_)
  · skip
    have c3 := (fa_lt _ _).mp c3
    refine t_X5_lookAs (by omega) (by omega) (fun k => by have q9 := h_pl_near k; omega) (by omega) (by omega) (fun pl_wanted_4 pl_near_5 h_pl_wanted_4 h_pl_near_5 => ?_)
    intro v6 ev6
    have f7 := ti_shl1 8 256 tr_standings (by decide) (by omega)
    have hv6 := congrArg Int32.toInt ev6
    have f9 : Int32.toInt (v6 - 1) = Int32.toInt v6 - Int32.toInt (1 : Int32) := ta_sub _ _ (by omega)
    refine t_X5_smallestCover (by omega) (by omega) (fun k => by have q9 := h_pl_near_5 k; omega) (by omega) (fun r8 h_r8 => ?_)
    intro v10 ev10
    intro v11 ev11
    have f13 := ti_andr v10 1431655765 (by omega)
    have f12 : Int32.toInt (r8 - (v10 &&& 1431655765)) = Int32.toInt r8 - Int32.toInt (v10 &&& 1431655765) := ta_sub _ _ (by omega)
    rw [← ev11] at f12
    intro v14 ev14
    have f15 := ti_andr v11 858993459 (by omega)
    have hv14 := congrArg Int32.toInt ev14
    intro v16 ev16
    intro v17 ev17
    have f19 := ti_andr v16 858993459 (by omega)
    have f18 : Int32.toInt (v14 + (v16 &&& 858993459)) = Int32.toInt v14 + Int32.toInt (v16 &&& 858993459) := ta_add _ _ (by omega)
    rw [← ev17] at f18
    intro v20 ev20
    have hv20 := congrArg Int32.toInt ev20
    intro v22 ev22
    have f23 := ti_andr v20 252645135 (by omega)
    have hv22 := congrArg Int32.toInt ev22
    intro v24 ev24
    have hv24 := congrArg Int32.toInt ev24
    intro v26 ev26
    have hv26 := congrArg Int32.toInt ev26
    refine And.intro (fun h9 => absurd h9 (by decide)) (fun _ => ?_)
    refine And.intro (t_in (by omega)) ?_
    intro v28 ev28
    have f29 : Int32.toInt (0 + 1) = Int32.toInt (0 : Int32) + Int32.toInt (1 : Int32) := ta_add _ _ (by omega)
    rw [← ev28] at f29
    refine And.intro (fun c30 => ?_) (fun c30 => ?_)
    · skip
      have c30 := (fa_le _ _).mp c30
      exfalso; omega
    · skip
      have c30 := mt (fa_le _ _).mpr c30
      refine And.intro (t_in (by omega)) ?_
      intro v31 ev31
      have f32 : Int32.toInt (v28 + 1) = Int32.toInt v28 + Int32.toInt (1 : Int32) := ta_add _ _ (by omega)
      rw [← ev31] at f32
      exact hpost _ _ _ _ _ (by omega) (by omega) (fun k => by have q9 := h_pl_near_5 k; omega) (by omega)
  · skip
    have c3 := mt (fa_lt _ _).mpr c3
    intro v33 ev33
    have f34 := ti_shl1 16 65536 tr_fruits (by decide) (by omega)
    have hv33 := congrArg Int32.toInt ev33
    intro v35 ev35
    intro v36 ev36
    refine t_X3_ripeBy (by omega) (by omega) (fun r37 h_r37 => ?_)
    intro v38 ev38
    have f39 := ti_andr ((v33 - 1) &&& (v36 ^^^ (-1))) r37 (by omega)
    have f41 : Int32.toInt (v33 - 1) = Int32.toInt v33 - Int32.toInt (1 : Int32) := ta_sub _ _ (by omega)
    have f42 := ti_andl (v33 - 1) (v36 ^^^ (-1)) (by omega)
    have f43 := ti_andl ((v33 - 1) &&& (v36 ^^^ (-1))) r37 (by omega)
    have hv38 := congrArg Int32.toInt ev38
    refine And.intro (fun c44 => ?_) (fun c44 => ?_)
    · skip
      have c44 := (fa_le _ _).mp c44
      intro v45 ev45
      intro v46 ev46
      have f48 := ti_andr v45 1431655765 (by omega)
      have f47 : Int32.toInt (v38 - (v45 &&& 1431655765)) = Int32.toInt v38 - Int32.toInt (v45 &&& 1431655765) := ta_sub _ _ (by omega)
      rw [← ev46] at f47
      intro v49 ev49
      have f50 := ti_andr v46 858993459 (by omega)
      have hv49 := congrArg Int32.toInt ev49
      intro v51 ev51
      intro v52 ev52
      have f54 := ti_andr v51 858993459 (by omega)
      have f53 : Int32.toInt (v49 + (v51 &&& 858993459)) = Int32.toInt v49 + Int32.toInt (v51 &&& 858993459) := ta_add _ _ (by omega)
      rw [← ev52] at f53
      intro v55 ev55
      have hv55 := congrArg Int32.toInt ev55
      intro v57 ev57
      have f58 := ti_andr v55 252645135 (by omega)
      have hv57 := congrArg Int32.toInt ev57
      intro v59 ev59
      have hv59 := congrArg Int32.toInt ev59
      intro v61 ev61
      have hv61 := congrArg Int32.toInt ev61
      have f64 := ti_andr v61 63 (by omega)
      refine And.intro (fun c63 => ?_) (fun c63 => ?_)
      · skip
        have c63 := (fa_le _ _).mp c63
        exact ts_X9_ripens_48 tr_fruits tr_standings tr_x tr_height tr_ripe tr_foot tr_fork tr_settings no_apron no_basket no_ground no_helper no_today h_tr_fruits h_tr_standings h_no_today hpost hKn x1 x2 x3 pl_wanted pl_near ro_size ro_numbers (by omega) (by omega) (by omega) (by omega) (fun k => by have q9 := h_pl_near k; omega) (by omega) (by omega)
      · skip
        have c63 := mt (fa_le _ _).mpr c63
        exact ts_X9_ripens_48 tr_fruits tr_standings tr_x tr_height tr_ripe tr_foot tr_fork tr_settings no_apron no_basket no_ground no_helper no_today h_tr_fruits h_tr_standings h_no_today hpost hKn x3 (v61 &&& 63) x3 pl_wanted pl_near ro_size ro_numbers (by omega) (by omega) (by omega) (by omega) (fun k => by have q9 := h_pl_near k; omega) (by omega) (by omega)
    · skip
      have c44 := mt (fa_le _ _).mpr c44
      intro v65 ev65
      have f66 : Int32.toInt (x3 - 1) = Int32.toInt x3 - Int32.toInt (1 : Int32) := ta_sub _ _ (by omega)
      rw [← ev65] at f66
      refine t_X3_ripeBy (by omega) (by omega) (fun r67 h_r67 => ?_)
      intro v68 ev68
      have f70 := ti_andl v38 (r67 ^^^ (-1)) (by omega)
      have hv68 := congrArg Int32.toInt ev68
      intro v71 ev71
      intro v72 ev72
      have f74 := ti_andr v71 1431655765 (by omega)
      have f73 : Int32.toInt (v68 - (v71 &&& 1431655765)) = Int32.toInt v68 - Int32.toInt (v71 &&& 1431655765) := ta_sub _ _ (by omega)
      rw [← ev72] at f73
      intro v75 ev75
      have f76 := ti_andr v72 858993459 (by omega)
      have hv75 := congrArg Int32.toInt ev75
      intro v77 ev77
      intro v78 ev78
      have f80 := ti_andr v77 858993459 (by omega)
      have f79 : Int32.toInt (v75 + (v77 &&& 858993459)) = Int32.toInt v75 + Int32.toInt (v77 &&& 858993459) := ta_add _ _ (by omega)
      rw [← ev78] at f79
      intro v81 ev81
      have hv81 := congrArg Int32.toInt ev81
      intro v83 ev83
      have f84 := ti_andr v81 252645135 (by omega)
      have hv83 := congrArg Int32.toInt ev83
      intro v85 ev85
      have hv85 := congrArg Int32.toInt ev85
      intro v87 ev87
      have hv87 := congrArg Int32.toInt ev87
      have f90 := ti_andr v87 63 (by omega)
      refine And.intro (fun c89 => ?_) (fun c89 => ?_)
      · skip
        have c89 := (fa_le _ _).mp c89
        exact ts_X9_ripens_48 tr_fruits tr_standings tr_x tr_height tr_ripe tr_foot tr_fork tr_settings no_apron no_basket no_ground no_helper no_today h_tr_fruits h_tr_standings h_no_today hpost hKn x1 x2 x3 pl_wanted pl_near ro_size ro_numbers (by omega) (by omega) (by omega) (by omega) (fun k => by have q9 := h_pl_near k; omega) (by omega) (by omega)
      · skip
        have c89 := mt (fa_le _ _).mpr c89
        exact ts_X9_ripens_48 tr_fruits tr_standings tr_x tr_height tr_ripe tr_foot tr_fork tr_settings no_apron no_basket no_ground no_helper no_today h_tr_fruits h_tr_standings h_no_today hpost hKn x3 (v87 &&& 63) x3 pl_wanted pl_near ro_size ro_numbers (by omega) (by omega) (by omega) (by omega) (fun k => by have q9 := h_pl_near k; omega) (by omega) (by omega)
set_option maxHeartbeats 8000000 in
set_option maxRecDepth 200000 in
theorem tb_X9_ripens_18 {post : Int32 → Int32 → (Nat → Int32) → Int32 → (Nat → Int32) → Prop} (tr_fruits : Int32) (tr_standings : Int32) (tr_x : Nat → Int32) (tr_height : Nat → Int32) (tr_ripe : Nat → Int32) (tr_foot : Nat → Int32) (tr_fork : Nat → Int32) (tr_settings : Nat → Int32) (no_apron : Int32) (no_basket : Int32) (no_ground : Int32) (no_helper : Int32) (no_today : Int32) (h_tr_fruits : 0 ≤ Int32.toInt tr_fruits ∧ Int32.toInt tr_fruits ≤ 16) (h_tr_standings : 0 ≤ Int32.toInt tr_standings ∧ Int32.toInt tr_standings ≤ 8) (h_no_today : 0 ≤ Int32.toInt no_today ∧ Int32.toInt no_today ≤ 9) (hpost : ∀ (r : Int32) (pl_wanted' : Int32) (pl_near' : Nat → Int32) (ro_size' : Int32) (ro_numbers' : Nat → Int32), (0 ≤ Int32.toInt r ∧ Int32.toInt r ≤ 63) → (0 ≤ Int32.toInt pl_wanted' ∧ Int32.toInt pl_wanted' ≤ 65535) → (∀ k : Nat, 0 ≤ Int32.toInt (pl_near' k) ∧ Int32.toInt (pl_near' k) ≤ 65535) → (2 ≤ Int32.toInt ro_size' ∧ Int32.toInt ro_size' ≤ 2) → post r pl_wanted' pl_near' ro_size' ro_numbers') : ∀ (n : Nat) (x1 : Int32) (x2 : Int32) (x3 : Int32) (pl_wanted : Int32) (pl_near : Nat → Int32) (ro_size : Int32) (ro_numbers : Nat → Int32), (0 ≤ Int32.toInt x1 ∧ Int32.toInt x1 ≤ 9) → (0 ≤ Int32.toInt x2 ∧ Int32.toInt x2 ≤ 63) → (0 ≤ Int32.toInt x3 ∧ Int32.toInt x3 ≤ 10) → (0 ≤ Int32.toInt pl_wanted ∧ Int32.toInt pl_wanted ≤ 65535) → (∀ k : Nat, 0 ≤ Int32.toInt (pl_near k) ∧ Int32.toInt (pl_near k) ≤ 65535) → (0 ≤ Int32.toInt ro_size ∧ Int32.toInt ro_size ≤ 16) → (10 - Int32.toInt x3 < (n : Int)) → wb_X9_ripens_18 post tr_fruits tr_standings tr_x tr_height tr_ripe tr_foot tr_fork tr_settings no_apron no_basket no_ground no_helper no_today n x1 x2 x3 pl_wanted pl_near ro_size ro_numbers := by
  intro n
  induction n with
  | zero =>
    intro x1 x2 x3 pl_wanted pl_near ro_size ro_numbers h_x1 h_x2 h_x3 h_pl_wanted h_pl_near h_ro_size hm
    exfalso; omega
  | succ n ih =>
    intro x1 x2 x3 pl_wanted pl_near ro_size ro_numbers h_x1 h_x2 h_x3 h_pl_wanted h_pl_near h_ro_size hm
    exact ts_X9_ripens_18 tr_fruits tr_standings tr_x tr_height tr_ripe tr_foot tr_fork tr_settings no_apron no_basket no_ground no_helper no_today h_tr_fruits h_tr_standings h_no_today hpost ih x1 x2 x3 pl_wanted pl_near ro_size ro_numbers h_x1 h_x2 h_x3 h_pl_wanted h_pl_near h_ro_size (by omega)
set_option maxHeartbeats 8000000 in
set_option maxRecDepth 200000 in
theorem t_X9_ripens {post : Int32 → Int32 → (Nat → Int32) → Int32 → (Nat → Int32) → Prop} {pl_wanted : Int32} {pl_near : Nat → Int32} {tr_fruits : Int32} {tr_standings : Int32} {tr_x : Nat → Int32} {tr_height : Nat → Int32} {tr_ripe : Nat → Int32} {tr_foot : Nat → Int32} {tr_fork : Nat → Int32} {tr_settings : Nat → Int32} {no_apron : Int32} {no_basket : Int32} {no_ground : Int32} {no_helper : Int32} {no_today : Int32} {ro_size : Int32} {ro_numbers : Nat → Int32} (h_pl_wanted : 0 ≤ Int32.toInt pl_wanted ∧ Int32.toInt pl_wanted ≤ 65535) (h_pl_near : ∀ k : Nat, 0 ≤ Int32.toInt (pl_near k) ∧ Int32.toInt (pl_near k) ≤ 65535) (h_tr_fruits : 0 ≤ Int32.toInt tr_fruits ∧ Int32.toInt tr_fruits ≤ 16) (h_tr_standings : 0 ≤ Int32.toInt tr_standings ∧ Int32.toInt tr_standings ≤ 8) (h_no_today : 0 ≤ Int32.toInt no_today ∧ Int32.toInt no_today ≤ 9) (h_ro_size : 0 ≤ Int32.toInt ro_size ∧ Int32.toInt ro_size ≤ 16) (hpost : ∀ (r : Int32) (pl_wanted' : Int32) (pl_near' : Nat → Int32) (ro_size' : Int32) (ro_numbers' : Nat → Int32), (0 ≤ Int32.toInt r ∧ Int32.toInt r ≤ 63) → (0 ≤ Int32.toInt pl_wanted' ∧ Int32.toInt pl_wanted' ≤ 65535) → (∀ k : Nat, 0 ≤ Int32.toInt (pl_near' k) ∧ Int32.toInt (pl_near' k) ≤ 65535) → (2 ≤ Int32.toInt ro_size' ∧ Int32.toInt ro_size' ≤ 2) → post r pl_wanted' pl_near' ro_size' ro_numbers') : wp_X9_ripens post pl_wanted pl_near tr_fruits tr_standings tr_x tr_height tr_ripe tr_foot tr_fork tr_settings no_apron no_basket no_ground no_helper no_today ro_size ro_numbers := by
  have l0 : Int32.toInt (0 : Int32) = 0 := (by decide)
  exact ⟨12, tb_X9_ripens_18 tr_fruits tr_standings tr_x tr_height tr_ripe tr_foot tr_fork tr_settings no_apron no_basket no_ground no_helper no_today h_tr_fruits h_tr_standings h_no_today hpost _ no_today 0 no_today pl_wanted pl_near ro_size ro_numbers (by omega) (by omega) (by omega) (by omega) (fun k => by have q9 := h_pl_near k; omega) (by omega) (by omega)⟩
set_option maxHeartbeats 8000000 in
set_option maxRecDepth 200000 in
theorem t_X9_ondays {post : Int32 → Int32 → (Nat → Int32) → Int32 → (Nat → Int32) → Prop} {p0 : Int32} {pl_wanted : Int32} {pl_near : Nat → Int32} {tr_fruits : Int32} {tr_standings : Int32} {tr_x : Nat → Int32} {tr_height : Nat → Int32} {tr_ripe : Nat → Int32} {tr_foot : Nat → Int32} {tr_fork : Nat → Int32} {tr_settings : Nat → Int32} {no_apron : Int32} {no_basket : Int32} {no_ground : Int32} {no_helper : Int32} {no_today : Int32} {ro_size : Int32} {ro_numbers : Nat → Int32} (h_pl_wanted : 0 ≤ Int32.toInt pl_wanted ∧ Int32.toInt pl_wanted ≤ 65535) (h_pl_near : ∀ k : Nat, 0 ≤ Int32.toInt (pl_near k) ∧ Int32.toInt (pl_near k) ≤ 65535) (h_tr_fruits : 0 ≤ Int32.toInt tr_fruits ∧ Int32.toInt tr_fruits ≤ 16) (h_tr_standings : 0 ≤ Int32.toInt tr_standings ∧ Int32.toInt tr_standings ≤ 8) (h_no_today : 0 ≤ Int32.toInt no_today ∧ Int32.toInt no_today ≤ 9) (h_ro_size : 0 ≤ Int32.toInt ro_size ∧ Int32.toInt ro_size ≤ 16) (hpost : ∀ (r : Int32) (pl_wanted' : Int32) (pl_near' : Nat → Int32) (ro_size' : Int32) (ro_numbers' : Nat → Int32), (-1 ≤ Int32.toInt r ∧ Int32.toInt r ≤ 16) → (0 ≤ Int32.toInt pl_wanted' ∧ Int32.toInt pl_wanted' ≤ 65535) → (∀ k : Nat, 0 ≤ Int32.toInt (pl_near' k) ∧ Int32.toInt (pl_near' k) ≤ 65535) → (0 ≤ Int32.toInt ro_size' ∧ Int32.toInt ro_size' ≤ 16) → post r pl_wanted' pl_near' ro_size' ro_numbers') : wp_X9_ondays post p0 pl_wanted pl_near tr_fruits tr_standings tr_x tr_height tr_ripe tr_foot tr_fork tr_settings no_apron no_basket no_ground no_helper no_today ro_size ro_numbers := by
  have l0 : Int32.toInt ((-1) : Int32) = -1 := (by decide)
  have l1 : Int32.toInt (1 : Int32) = 1 := (by decide)
  have l2 : Int32.toInt (9 : Int32) = 9 := (by decide)
  have f2 := tp_r p0
  refine And.intro (fun c1 => ?_) (fun c1 => ?_)
  · skip
    have c1 := (fa_lt _ _).mp c1
    exact hpost _ _ _ _ _ (by omega) (by omega) (fun k => by have q9 := h_pl_near k; omega) (by omega)
  · skip
    have c1 := mt (fa_lt _ _).mpr c1
    refine And.intro (fun c3 => ?_) (fun c3 => ?_)
    · skip
      have c3 := (fa_le _ _).mp c3
      refine t_X5_lookAs (by omega) (by omega) (fun k => by have q9 := h_pl_near k; omega) (by omega) (by omega) (fun pl_wanted_4 pl_near_5 h_pl_wanted_4 h_pl_near_5 => ?_)
      intro v6 ev6
      have f7 := ti_shl1 16 65536 tr_fruits (by decide) (by omega)
      have hv6 := congrArg Int32.toInt ev6
      intro v8 ev8
      intro v9 ev9
      refine t_X3_ripeBy (by omega) (by omega) (fun r10 h_r10 => ?_)
      intro v11 ev11
      have f12 := ti_andr ((v6 - 1) &&& (v9 ^^^ (-1))) r10 (by omega)
      have f14 : Int32.toInt (v6 - 1) = Int32.toInt v6 - Int32.toInt (1 : Int32) := ta_sub _ _ (by omega)
      have f15 := ti_andl (v6 - 1) (v9 ^^^ (-1)) (by omega)
      have f16 := ti_andl ((v6 - 1) &&& (v9 ^^^ (-1))) r10 (by omega)
      have hv11 := congrArg Int32.toInt ev11
      refine And.intro (fun c17 => ?_) (fun c17 => ?_)
      · skip
        have c17 := (fa_le _ _).mp c17
        intro v18 ev18
        have f19 := ti_shl1 8 256 tr_standings (by decide) (by omega)
        have hv18 := congrArg Int32.toInt ev18
        have f21 : Int32.toInt (v18 - 1) = Int32.toInt v18 - Int32.toInt (1 : Int32) := ta_sub _ _ (by omega)
        refine t_X5_reachedBy (by omega) (fun k => by have q9 := h_pl_near_5 k; omega) (by omega) (fun r20 h_r20 => ?_)
        intro v22 ev22
        have f23 := ti_andr v11 r20 (by omega)
        have f24 := ti_andl v11 r20 (by omega)
        have hv22 := congrArg Int32.toInt ev22
        intro v25 ev25
        have hv25 := congrArg Int32.toInt ev25
        have f27 : Int32.toInt (v25 - 1) = Int32.toInt v25 - Int32.toInt (1 : Int32) := ta_sub _ _ (by omega)
        refine t_X5_smallestCover (by omega) (by omega) (fun k => by have q9 := h_pl_near_5 k; omega) (by omega) (fun r26 h_r26 => ?_)
        refine t_X9_tellMembers (by omega) (by omega) (fun r30 ro_size_28 ro_numbers_29 h_r30 h_ro_size_28 => ?_)
        exact hpost _ _ _ _ _ (by omega) (by omega) (fun k => by have q9 := h_pl_near_5 k; omega) (by omega)
      · skip
        have c17 := mt (fa_le _ _).mpr c17
        intro v31 ev31
        have f32 : Int32.toInt (p0 - 1) = Int32.toInt p0 - Int32.toInt (1 : Int32) := ta_sub _ _ (by omega)
        rw [← ev31] at f32
        refine t_X3_ripeBy (by omega) (by omega) (fun r33 h_r33 => ?_)
        intro v34 ev34
        have f36 := ti_andl v11 (r33 ^^^ (-1)) (by omega)
        have hv34 := congrArg Int32.toInt ev34
        intro v37 ev37
        have f38 := ti_shl1 8 256 tr_standings (by decide) (by omega)
        have hv37 := congrArg Int32.toInt ev37
        have f40 : Int32.toInt (v37 - 1) = Int32.toInt v37 - Int32.toInt (1 : Int32) := ta_sub _ _ (by omega)
        refine t_X5_reachedBy (by omega) (fun k => by have q9 := h_pl_near_5 k; omega) (by omega) (fun r39 h_r39 => ?_)
        intro v41 ev41
        have f42 := ti_andr v34 r39 (by omega)
        have f43 := ti_andl v34 r39 (by omega)
        have hv41 := congrArg Int32.toInt ev41
        intro v44 ev44
        have hv44 := congrArg Int32.toInt ev44
        have f46 : Int32.toInt (v44 - 1) = Int32.toInt v44 - Int32.toInt (1 : Int32) := ta_sub _ _ (by omega)
        refine t_X5_smallestCover (by omega) (by omega) (fun k => by have q9 := h_pl_near_5 k; omega) (by omega) (fun r45 h_r45 => ?_)
        refine t_X9_tellMembers (by omega) (by omega) (fun r49 ro_size_47 ro_numbers_48 h_r49 h_ro_size_47 => ?_)
        exact hpost _ _ _ _ _ (by omega) (by omega) (fun k => by have q9 := h_pl_near_5 k; omega) (by omega)
    · skip
      have c3 := mt (fa_le _ _).mpr c3
      exact hpost _ _ _ _ _ (by omega) (by omega) (fun k => by have q9 := h_pl_near k; omega) (by omega)
set_option maxHeartbeats 8000000 in
set_option maxRecDepth 200000 in
theorem ts_X9_allripe_62 {post : Int32 → Int32 → (Nat → Int32) → Prop} (tr_fruits : Int32) (tr_worth : Nat → Int32) (tr_ripe : Nat → Int32) (no_apron : Int32) (no_basket : Int32) (no_ground : Int32) (no_bruised : Int32) (no_today : Int32) (h_tr_fruits : 0 ≤ Int32.toInt tr_fruits ∧ Int32.toInt tr_fruits ≤ 16) (h_no_today : 0 ≤ Int32.toInt no_today ∧ Int32.toInt no_today ≤ 9) (hpost : ∀ (r : Int32) (ro_size' : Int32) (ro_numbers' : Nat → Int32), (0 ≤ Int32.toInt r ∧ Int32.toInt r ≤ 9) → (2 ≤ Int32.toInt ro_size' ∧ Int32.toInt ro_size' ≤ 2) → post r ro_size' ro_numbers') (x2 : Int32) (x3 : Int32) (ro_size : Int32) (ro_numbers : Nat → Int32) (h_x2 : 0 ≤ Int32.toInt x2 ∧ Int32.toInt x2 ≤ 65535) (h_x3 : 0 ≤ Int32.toInt x3 ∧ Int32.toInt x3 ≤ 9) (h_ro_size : 0 ≤ Int32.toInt ro_size ∧ Int32.toInt ro_size ≤ 16) : ws_X9_allripe_62 post tr_fruits tr_worth tr_ripe no_apron no_basket no_ground no_bruised no_today x2 x3 ro_size ro_numbers := by
  have l0 : Int32.toInt (0 : Int32) = 0 := (by decide)
  have l1 : Int32.toInt (1 : Int32) = 1 := (by decide)
  have l2 : Int32.toInt (1431655765 : Int32) = 1431655765 := (by decide)
  have l3 : Int32.toInt (16 : Int32) = 16 := (by decide)
  have l4 : Int32.toInt (252645135 : Int32) = 252645135 := (by decide)
  have l5 : Int32.toInt (858993459 : Int32) = 858993459 := (by decide)
  intro v1 ev1
  intro v2 ev2
  have f4 := ti_andr v1 1431655765 (by omega)
  have f3 : Int32.toInt (x2 - (v1 &&& 1431655765)) = Int32.toInt x2 - Int32.toInt (v1 &&& 1431655765) := ta_sub _ _ (by omega)
  rw [← ev2] at f3
  intro v5 ev5
  have f6 := ti_andr v2 858993459 (by omega)
  have hv5 := congrArg Int32.toInt ev5
  intro v7 ev7
  intro v8 ev8
  have f10 := ti_andr v7 858993459 (by omega)
  have f9 : Int32.toInt (v5 + (v7 &&& 858993459)) = Int32.toInt v5 + Int32.toInt (v7 &&& 858993459) := ta_add _ _ (by omega)
  rw [← ev8] at f9
  intro v11 ev11
  have hv11 := congrArg Int32.toInt ev11
  intro v13 ev13
  have f14 := ti_andr v11 252645135 (by omega)
  have hv13 := congrArg Int32.toInt ev13
  intro v15 ev15
  have hv15 := congrArg Int32.toInt ev15
  intro v17 ev17
  have hv17 := congrArg Int32.toInt ev17
  refine t_X3_worthOf (by omega) (fun r19 => ?_)
  refine And.intro (fun h9 => absurd h9 (by decide)) (fun _ => ?_)
  refine And.intro (t_in (by omega)) ?_
  intro v20 ev20
  have f21 : Int32.toInt (0 + 1) = Int32.toInt (0 : Int32) + Int32.toInt (1 : Int32) := ta_add _ _ (by omega)
  rw [← ev20] at f21
  refine And.intro (fun c22 => ?_) (fun c22 => ?_)
  · skip
    have c22 := (fa_le _ _).mp c22
    exfalso; omega
  · skip
    have c22 := mt (fa_le _ _).mpr c22
    refine And.intro (t_in (by omega)) ?_
    intro v23 ev23
    have f24 : Int32.toInt (v20 + 1) = Int32.toInt v20 + Int32.toInt (1 : Int32) := ta_add _ _ (by omega)
    rw [← ev23] at f24
    exact hpost _ _ _ (by omega) (by omega)
set_option maxHeartbeats 8000000 in
set_option maxRecDepth 200000 in
theorem ts_X9_allripe_35 {post : Int32 → Int32 → (Nat → Int32) → Prop} {next : Int32 → Int32 → Int32 → Int32 → (Nat → Int32) → Prop} {n35 : Int} (tr_fruits : Int32) (tr_worth : Nat → Int32) (tr_ripe : Nat → Int32) (no_apron : Int32) (no_basket : Int32) (no_ground : Int32) (no_bruised : Int32) (no_today : Int32) (h_tr_fruits : 0 ≤ Int32.toInt tr_fruits ∧ Int32.toInt tr_fruits ≤ 16) (h_no_today : 0 ≤ Int32.toInt no_today ∧ Int32.toInt no_today ≤ 9) (hpost : ∀ (r : Int32) (ro_size' : Int32) (ro_numbers' : Nat → Int32), (0 ≤ Int32.toInt r ∧ Int32.toInt r ≤ 9) → (2 ≤ Int32.toInt ro_size' ∧ Int32.toInt ro_size' ≤ 2) → post r ro_size' ro_numbers') (hKn : ∀ (x1 : Int32) (x2 : Int32) (x3 : Int32) (ro_size : Int32) (ro_numbers : Nat → Int32), (0 ≤ Int32.toInt x1 ∧ Int32.toInt x1 ≤ 65535) → (0 ≤ Int32.toInt x2 ∧ Int32.toInt x2 ≤ 65535) → (0 ≤ Int32.toInt x3 ∧ Int32.toInt x3 ≤ 9) → (0 ≤ Int32.toInt ro_size ∧ Int32.toInt ro_size ≤ 16) → (9 - Int32.toInt x3 < n35) → next x1 x2 x3 ro_size ro_numbers) (x1 : Int32) (x2 : Int32) (x3 : Int32) (ro_size : Int32) (ro_numbers : Nat → Int32) (h_x1 : 0 ≤ Int32.toInt x1 ∧ Int32.toInt x1 ≤ 65535) (h_x2 : 0 ≤ Int32.toInt x2 ∧ Int32.toInt x2 ≤ 65535) (h_x3 : 0 ≤ Int32.toInt x3 ∧ Int32.toInt x3 ≤ 9) (h_ro_size : 0 ≤ Int32.toInt ro_size ∧ Int32.toInt ro_size ≤ 16) (hn35 : 9 - Int32.toInt x3 ≤ n35) : ws_X9_allripe_35 post next tr_fruits tr_worth tr_ripe no_apron no_basket no_ground no_bruised no_today x1 x2 x3 ro_size ro_numbers := by
  have l0 : Int32.toInt (0 : Int32) = 0 := (by decide)
  have l1 : Int32.toInt (1 : Int32) = 1 := (by decide)
  have l2 : Int32.toInt (9 : Int32) = 9 := (by decide)
  refine And.intro (fun c25 => ?_) (fun c25 => ?_)
  · skip
    have c25 := (fa_le _ _).mp c25
    exact ts_X9_allripe_62 tr_fruits tr_worth tr_ripe no_apron no_basket no_ground no_bruised no_today h_tr_fruits h_no_today hpost x2 x3 ro_size ro_numbers (by omega) (by omega) (by omega)
  · skip
    have c25 := mt (fa_le _ _).mpr c25
    refine t_X3_ripeBy (by omega) (by omega) (fun r26 h_r26 => ?_)
    have f29 := ti_andl x1 (r26 ^^^ (-1)) (by omega)
    refine And.intro (fun c27 => ?_) (fun c27 => ?_)
    · skip
      have c27Z := c27
      have c27 := (fa_eq _ _).mp c27
      have s30 := ti_subset x1 r26 (c27Z) (by omega)
      exact ts_X9_allripe_62 tr_fruits tr_worth tr_ripe no_apron no_basket no_ground no_bruised no_today h_tr_fruits h_no_today hpost x2 x3 ro_size ro_numbers (by omega) (by omega) (by omega)
    · skip
      have c27 := mt (fa_eq _ _).mpr c27
      intro v31 ev31
      have f32 : Int32.toInt (x3 + 1) = Int32.toInt x3 + Int32.toInt (1 : Int32) := ta_add _ _ (by omega)
      rw [← ev31] at f32
      exact hKn x1 x2 v31 ro_size ro_numbers (by omega) (by omega) (by omega) (by omega) (by omega)
set_option maxHeartbeats 8000000 in
set_option maxRecDepth 200000 in
theorem tb_X9_allripe_35 {post : Int32 → Int32 → (Nat → Int32) → Prop} (tr_fruits : Int32) (tr_worth : Nat → Int32) (tr_ripe : Nat → Int32) (no_apron : Int32) (no_basket : Int32) (no_ground : Int32) (no_bruised : Int32) (no_today : Int32) (h_tr_fruits : 0 ≤ Int32.toInt tr_fruits ∧ Int32.toInt tr_fruits ≤ 16) (h_no_today : 0 ≤ Int32.toInt no_today ∧ Int32.toInt no_today ≤ 9) (hpost : ∀ (r : Int32) (ro_size' : Int32) (ro_numbers' : Nat → Int32), (0 ≤ Int32.toInt r ∧ Int32.toInt r ≤ 9) → (2 ≤ Int32.toInt ro_size' ∧ Int32.toInt ro_size' ≤ 2) → post r ro_size' ro_numbers') : ∀ (n : Nat) (x1 : Int32) (x2 : Int32) (x3 : Int32) (ro_size : Int32) (ro_numbers : Nat → Int32), (0 ≤ Int32.toInt x1 ∧ Int32.toInt x1 ≤ 65535) → (0 ≤ Int32.toInt x2 ∧ Int32.toInt x2 ≤ 65535) → (0 ≤ Int32.toInt x3 ∧ Int32.toInt x3 ≤ 9) → (0 ≤ Int32.toInt ro_size ∧ Int32.toInt ro_size ≤ 16) → (9 - Int32.toInt x3 < (n : Int)) → wb_X9_allripe_35 post tr_fruits tr_worth tr_ripe no_apron no_basket no_ground no_bruised no_today n x1 x2 x3 ro_size ro_numbers := by
  intro n
  induction n with
  | zero =>
    intro x1 x2 x3 ro_size ro_numbers h_x1 h_x2 h_x3 h_ro_size hm
    exfalso; omega
  | succ n ih =>
    intro x1 x2 x3 ro_size ro_numbers h_x1 h_x2 h_x3 h_ro_size hm
    exact ts_X9_allripe_35 tr_fruits tr_worth tr_ripe no_apron no_basket no_ground no_bruised no_today h_tr_fruits h_no_today hpost ih x1 x2 x3 ro_size ro_numbers h_x1 h_x2 h_x3 h_ro_size (by omega)
set_option maxHeartbeats 8000000 in
set_option maxRecDepth 200000 in
theorem t_X9_allripe {post : Int32 → Int32 → (Nat → Int32) → Prop} {tr_fruits : Int32} {tr_worth : Nat → Int32} {tr_ripe : Nat → Int32} {no_apron : Int32} {no_basket : Int32} {no_ground : Int32} {no_bruised : Int32} {no_today : Int32} {ro_size : Int32} {ro_numbers : Nat → Int32} (h_tr_fruits : 0 ≤ Int32.toInt tr_fruits ∧ Int32.toInt tr_fruits ≤ 16) (h_no_today : 0 ≤ Int32.toInt no_today ∧ Int32.toInt no_today ≤ 9) (h_ro_size : 0 ≤ Int32.toInt ro_size ∧ Int32.toInt ro_size ≤ 16) (hpost : ∀ (r : Int32) (ro_size' : Int32) (ro_numbers' : Nat → Int32), (0 ≤ Int32.toInt r ∧ Int32.toInt r ≤ 9) → (2 ≤ Int32.toInt ro_size' ∧ Int32.toInt ro_size' ≤ 2) → post r ro_size' ro_numbers') : wp_X9_allripe post tr_fruits tr_worth tr_ripe no_apron no_basket no_ground no_bruised no_today ro_size ro_numbers := by
  have l0 : Int32.toInt (1 : Int32) = 1 := (by decide)
  intro v33 ev33
  have f34 := ti_shl1 16 65536 tr_fruits (by decide) (by omega)
  have hv33 := congrArg Int32.toInt ev33
  intro v35 ev35
  intro v36 ev36
  refine t_X3_ripeBy (by omega) (by omega) (fun r37 h_r37 => ?_)
  intro v38 ev38
  have f41 : Int32.toInt (v33 - 1) = Int32.toInt v33 - Int32.toInt (1 : Int32) := ta_sub _ _ (by omega)
  have f42 := ti_andl (v33 - 1) (v36 ^^^ (-1)) (by omega)
  have f43 := ti_andl ((v33 - 1) &&& (v36 ^^^ (-1))) (r37 ^^^ (-1)) (by omega)
  have hv38 := congrArg Int32.toInt ev38
  exact ⟨11, tb_X9_allripe_35 tr_fruits tr_worth tr_ripe no_apron no_basket no_ground no_bruised no_today h_tr_fruits h_no_today hpost _ ((v33 - 1) &&& (v36 ^^^ (-1))) v38 no_today ro_size ro_numbers (by omega) (by omega) (by omega) (by omega) (by omega)⟩
