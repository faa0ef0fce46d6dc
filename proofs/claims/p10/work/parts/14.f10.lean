noncomputable def F_X9_sweep (p0 : Int32) (pl_wanted : Int32) (pl_moves : Int32) (pl_picking : Int32) (pl_downs : Int32) (pl_near : Nat → Int32) (pl_seconds : Nat → Int32) (pl_many : Nat → Int32) (tr_fruits : Int32) (tr_standings : Int32) (tr_x : Nat → Int32) (tr_height : Nat → Int32) (tr_worth : Nat → Int32) (tr_ripe : Nat → Int32) (tr_foot : Nat → Int32) (tr_fork : Nat → Int32) (tr_settings : Nat → Int32) (no_apron : Int32) (no_basket : Int32) (no_ground : Int32) (no_bruised : Int32) (no_ladder : Int32) (no_helper : Int32) (no_today : Int32) (ru_length : Int32) (ru_given : Nat → Int32) (ru_stack : Nat → Int32) (ru_program : Nat → Int32) (ro_size : Int32) (ro_numbers : Nat → Int32) : Int32 × Int32 × Int32 × Int32 × Int32 × (Nat → Int32) × (Nat → Int32) × (Nat → Int32) × (Nat → Int32) × (Nat → Int32) × Int32 × (Nat → Int32) := if p0 < 0 then ((-1), pl_wanted, pl_moves, pl_picking, pl_downs, pl_near, pl_seconds, pl_many, ru_given, ru_stack, ro_size, ro_numbers) else (if p0 ≤ 9999 then (ex_X9_sweep_37 (fun o0 o1 o2 o3 o4 o5 o6 o7 o8 o9 o10 o11 => (o0, o1, o2, o3, o4, o5, o6, o7, o8, o9, o10, o11)) tr_fruits tr_standings tr_x tr_height tr_worth tr_ripe tr_foot tr_fork tr_settings no_apron no_basket no_ground no_bruised no_ladder no_helper no_today ru_length ru_program p0 ((F_X5_look pl_wanted pl_near tr_fruits tr_standings tr_x tr_height tr_ripe tr_foot tr_fork tr_settings no_apron no_basket no_ground no_helper no_today).1) ((F_X5_look pl_wanted pl_near tr_fruits tr_standings tr_x tr_height tr_ripe tr_foot tr_fork tr_settings no_apron no_basket no_ground no_helper no_today).2) ((F_X5_timeAll (F_X5_look pl_wanted pl_near tr_fruits tr_standings tr_x tr_height tr_ripe tr_foot tr_fork tr_settings no_apron no_basket no_ground no_helper no_today).1 (F_X5_look pl_wanted pl_near tr_fruits tr_standings tr_x tr_height tr_ripe tr_foot tr_fork tr_settings no_apron no_basket no_ground no_helper no_today).2 pl_seconds tr_fruits tr_standings tr_x tr_height tr_worth tr_foot tr_fork no_bruised ru_length ru_given ru_stack ru_program).1) ((F_X5_timeAll (F_X5_look pl_wanted pl_near tr_fruits tr_standings tr_x tr_height tr_ripe tr_foot tr_fork tr_settings no_apron no_basket no_ground no_helper no_today).1 (F_X5_look pl_wanted pl_near tr_fruits tr_standings tr_x tr_height tr_ripe tr_foot tr_fork tr_settings no_apron no_basket no_ground no_helper no_today).2 pl_seconds tr_fruits tr_standings tr_x tr_height tr_worth tr_foot tr_fork no_bruised ru_length ru_given ru_stack ru_program).2.1) ((F_X5_timeAll (F_X5_look pl_wanted pl_near tr_fruits tr_standings tr_x tr_height tr_ripe tr_foot tr_fork tr_settings no_apron no_basket no_ground no_helper no_today).1 (F_X5_look pl_wanted pl_near tr_fruits tr_standings tr_x tr_height tr_ripe tr_foot tr_fork tr_settings no_apron no_basket no_ground no_helper no_today).2 pl_seconds tr_fruits tr_standings tr_x tr_height tr_worth tr_foot tr_fork no_bruised ru_length ru_given ru_stack ru_program).2.2) ro_size ro_numbers (nI (1 + (Int32.toInt (F_X3_allStandings tr_standings) + 1 - ((1 : Nat) : Int)).toNat)) (itr (bd_X9_sweep_37 tr_fruits tr_standings tr_x tr_height tr_worth tr_ripe tr_foot tr_fork tr_settings no_apron no_basket no_ground no_bruised no_ladder no_helper no_today ru_length ru_program p0 ((F_X5_look pl_wanted pl_near tr_fruits tr_standings tr_x tr_height tr_ripe tr_foot tr_fork tr_settings no_apron no_basket no_ground no_helper no_today).1) ((F_X5_look pl_wanted pl_near tr_fruits tr_standings tr_x tr_height tr_ripe tr_foot tr_fork tr_settings no_apron no_basket no_ground no_helper no_today).2) ((F_X5_timeAll (F_X5_look pl_wanted pl_near tr_fruits tr_standings tr_x tr_height tr_ripe tr_foot tr_fork tr_settings no_apron no_basket no_ground no_helper no_today).1 (F_X5_look pl_wanted pl_near tr_fruits tr_standings tr_x tr_height tr_ripe tr_foot tr_fork tr_settings no_apron no_basket no_ground no_helper no_today).2 pl_seconds tr_fruits tr_standings tr_x tr_height tr_worth tr_foot tr_fork no_bruised ru_length ru_given ru_stack ru_program).1) ((F_X5_timeAll (F_X5_look pl_wanted pl_near tr_fruits tr_standings tr_x tr_height tr_ripe tr_foot tr_fork tr_settings no_apron no_basket no_ground no_helper no_today).1 (F_X5_look pl_wanted pl_near tr_fruits tr_standings tr_x tr_height tr_ripe tr_foot tr_fork tr_settings no_apron no_basket no_ground no_helper no_today).2 pl_seconds tr_fruits tr_standings tr_x tr_height tr_worth tr_foot tr_fork no_bruised ru_length ru_given ru_stack ru_program).2.1) ((F_X5_timeAll (F_X5_look pl_wanted pl_near tr_fruits tr_standings tr_x tr_height tr_ripe tr_foot tr_fork tr_settings no_apron no_basket no_ground no_helper no_today).1 (F_X5_look pl_wanted pl_near tr_fruits tr_standings tr_x tr_height tr_ripe tr_foot tr_fork tr_settings no_apron no_basket no_ground no_helper no_today).2 pl_seconds tr_fruits tr_standings tr_x tr_height tr_worth tr_foot tr_fork no_bruised ru_length ru_given ru_stack ru_program).2.2) ro_size ro_numbers) (0, 0, 0, pl_moves, pl_picking, pl_downs, pl_many) 1 (Int32.toInt (F_X3_allStandings tr_standings) + 1 - ((1 : Nat) : Int)).toNat)) else ((-1), pl_wanted, pl_moves, pl_picking, pl_downs, pl_near, pl_seconds, pl_many, ru_given, ru_stack, ro_size, ro_numbers))
set_option maxHeartbeats 200000 in
set_option maxRecDepth 10000 in
theorem dt_X9_sweep {P Q : Int32 → Int32 → Int32 → Int32 → Int32 → (Nat → Int32) → (Nat → Int32) → (Nat → Int32) → (Nat → Int32) → (Nat → Int32) → Int32 → (Nat → Int32) → Prop} {p0 : Int32} {pl_wanted : Int32} {pl_moves : Int32} {pl_picking : Int32} {pl_downs : Int32} {pl_near : Nat → Int32} {pl_seconds : Nat → Int32} {pl_many : Nat → Int32} {tr_fruits : Int32} {tr_standings : Int32} {tr_x : Nat → Int32} {tr_height : Nat → Int32} {tr_worth : Nat → Int32} {tr_ripe : Nat → Int32} {tr_foot : Nat → Int32} {tr_fork : Nat → Int32} {tr_settings : Nat → Int32} {no_apron : Int32} {no_basket : Int32} {no_ground : Int32} {no_bruised : Int32} {no_ladder : Int32} {no_helper : Int32} {no_today : Int32} {ru_length : Int32} {ru_given : Nat → Int32} {ru_stack : Nat → Int32} {ru_program : Nat → Int32} {ro_size : Int32} {ro_numbers : Nat → Int32} (hy0 : Int32.toInt (F_X3_allStandings tr_standings) < 2147483647) (h : wp_X9_sweep P p0 pl_wanted pl_moves pl_picking pl_downs pl_near pl_seconds pl_many tr_fruits tr_standings tr_x tr_height tr_worth tr_ripe tr_foot tr_fork tr_settings no_apron no_basket no_ground no_bruised no_ladder no_helper no_today ru_length ru_given ru_stack ru_program ro_size ro_numbers) (hq : ∀ o : Int32 × Int32 × Int32 × Int32 × Int32 × (Nat → Int32) × (Nat → Int32) × (Nat → Int32) × (Nat → Int32) × (Nat → Int32) × Int32 × (Nat → Int32), o = F_X9_sweep p0 pl_wanted pl_moves pl_picking pl_downs pl_near pl_seconds pl_many tr_fruits tr_standings tr_x tr_height tr_worth tr_ripe tr_foot tr_fork tr_settings no_apron no_basket no_ground no_bruised no_ladder no_helper no_today ru_length ru_given ru_stack ru_program ro_size ro_numbers → P o.1 o.2.1 o.2.2.1 o.2.2.2.1 o.2.2.2.2.1 o.2.2.2.2.2.1 o.2.2.2.2.2.2.1 o.2.2.2.2.2.2.2.1 o.2.2.2.2.2.2.2.2.1 o.2.2.2.2.2.2.2.2.2.1 o.2.2.2.2.2.2.2.2.2.2.1 o.2.2.2.2.2.2.2.2.2.2.2 → Q o.1 o.2.1 o.2.2.1 o.2.2.2.1 o.2.2.2.2.1 o.2.2.2.2.2.1 o.2.2.2.2.2.2.1 o.2.2.2.2.2.2.2.1 o.2.2.2.2.2.2.2.2.1 o.2.2.2.2.2.2.2.2.2.1 o.2.2.2.2.2.2.2.2.2.2.1 o.2.2.2.2.2.2.2.2.2.2.2) : wp_X9_sweep Q p0 pl_wanted pl_moves pl_picking pl_downs pl_near pl_seconds pl_many tr_fruits tr_standings tr_x tr_height tr_worth tr_ripe tr_foot tr_fork tr_settings no_apron no_basket no_ground no_bruised no_ladder no_helper no_today ru_length ru_given ru_stack ru_program ro_size ro_numbers := by
  rw [F_X9_sweep] at hq
  refine And.intro (fun c1 => ?_) (fun c1 => ?_)
  · have h := And.left h c1
    rw [if_pos c1] at hq
    have q9 := hq _ rfl
    dsimp only at q9
    exact q9 h
  · have h := And.right h c1
    rw [if_neg c1] at hq
    refine And.intro (fun c2 => ?_) (fun c2 => ?_)
    · have h := And.left h c2
      rw [if_pos c2] at hq
      refine du_X5_look h ?_
      intro h
      refine du_X5_timeAll h ?_
      intro h
      obtain ⟨n3, h⟩ := h
      refine ⟨n3, dl_X9_sweep_37 (a := (0, 0, 0, pl_moves, pl_picking, pl_downs, pl_many)) (i := 1) (by decide) hy0 ?_ n3 0 1 (by decide) (Nat.zero_le _) h⟩
      intro cc4 s5 ec6 es7 h
      rw [← ec6, ← es7, ex_X9_sweep_37] at hq
      refine du_X9_tell_ h ?_
      intro h
      have q9 := hq _ rfl
      dsimp only at q9
      exact q9 h
    · have h := And.right h c2
      rw [if_neg c2] at hq
      have q9 := hq _ rfl
      dsimp only at q9
      exact q9 h
theorem du_X9_sweep {P Q : Int32 → Int32 → Int32 → Int32 → Int32 → (Nat → Int32) → (Nat → Int32) → (Nat → Int32) → (Nat → Int32) → (Nat → Int32) → Int32 → (Nat → Int32) → Prop} {p0 : Int32} {pl_wanted : Int32} {pl_moves : Int32} {pl_picking : Int32} {pl_downs : Int32} {pl_near : Nat → Int32} {pl_seconds : Nat → Int32} {pl_many : Nat → Int32} {tr_fruits : Int32} {tr_standings : Int32} {tr_x : Nat → Int32} {tr_height : Nat → Int32} {tr_worth : Nat → Int32} {tr_ripe : Nat → Int32} {tr_foot : Nat → Int32} {tr_fork : Nat → Int32} {tr_settings : Nat → Int32} {no_apron : Int32} {no_basket : Int32} {no_ground : Int32} {no_bruised : Int32} {no_ladder : Int32} {no_helper : Int32} {no_today : Int32} {ru_length : Int32} {ru_given : Nat → Int32} {ru_stack : Nat → Int32} {ru_program : Nat → Int32} {ro_size : Int32} {ro_numbers : Nat → Int32} (hy0 : Int32.toInt (F_X3_allStandings tr_standings) < 2147483647) (h : wp_X9_sweep P p0 pl_wanted pl_moves pl_picking pl_downs pl_near pl_seconds pl_many tr_fruits tr_standings tr_x tr_height tr_worth tr_ripe tr_foot tr_fork tr_settings no_apron no_basket no_ground no_bruised no_ladder no_helper no_today ru_length ru_given ru_stack ru_program ro_size ro_numbers) (hq : P (F_X9_sweep p0 pl_wanted pl_moves pl_picking pl_downs pl_near pl_seconds pl_many tr_fruits tr_standings tr_x tr_height tr_worth tr_ripe tr_foot tr_fork tr_settings no_apron no_basket no_ground no_bruised no_ladder no_helper no_today ru_length ru_given ru_stack ru_program ro_size ro_numbers).1 (F_X9_sweep p0 pl_wanted pl_moves pl_picking pl_downs pl_near pl_seconds pl_many tr_fruits tr_standings tr_x tr_height tr_worth tr_ripe tr_foot tr_fork tr_settings no_apron no_basket no_ground no_bruised no_ladder no_helper no_today ru_length ru_given ru_stack ru_program ro_size ro_numbers).2.1 (F_X9_sweep p0 pl_wanted pl_moves pl_picking pl_downs pl_near pl_seconds pl_many tr_fruits tr_standings tr_x tr_height tr_worth tr_ripe tr_foot tr_fork tr_settings no_apron no_basket no_ground no_bruised no_ladder no_helper no_today ru_length ru_given ru_stack ru_program ro_size ro_numbers).2.2.1 (F_X9_sweep p0 pl_wanted pl_moves pl_picking pl_downs pl_near pl_seconds pl_many tr_fruits tr_standings tr_x tr_height tr_worth tr_ripe tr_foot tr_fork tr_settings no_apron no_basket no_ground no_bruised no_ladder no_helper no_today ru_length ru_given ru_stack ru_program ro_size ro_numbers).2.2.2.1 (F_X9_sweep p0 pl_wanted pl_moves pl_picking pl_downs pl_near pl_seconds pl_many tr_fruits tr_standings tr_x tr_height tr_worth tr_ripe tr_foot tr_fork tr_settings no_apron no_basket no_ground no_bruised no_ladder no_helper no_today ru_length ru_given ru_stack ru_program ro_size ro_numbers).2.2.2.2.1 (F_X9_sweep p0 pl_wanted pl_moves pl_picking pl_downs pl_near pl_seconds pl_many tr_fruits tr_standings tr_x tr_height tr_worth tr_ripe tr_foot tr_fork tr_settings no_apron no_basket no_ground no_bruised no_ladder no_helper no_today ru_length ru_given ru_stack ru_program ro_size ro_numbers).2.2.2.2.2.1 (F_X9_sweep p0 pl_wanted pl_moves pl_picking pl_downs pl_near pl_seconds pl_many tr_fruits tr_standings tr_x tr_height tr_worth tr_ripe tr_foot tr_fork tr_settings no_apron no_basket no_ground no_bruised no_ladder no_helper no_today ru_length ru_given ru_stack ru_program ro_size ro_numbers).2.2.2.2.2.2.1 (F_X9_sweep p0 pl_wanted pl_moves pl_picking pl_downs pl_near pl_seconds pl_many tr_fruits tr_standings tr_x tr_height tr_worth tr_ripe tr_foot tr_fork tr_settings no_apron no_basket no_ground no_bruised no_ladder no_helper no_today ru_length ru_given ru_stack ru_program ro_size ro_numbers).2.2.2.2.2.2.2.1 (F_X9_sweep p0 pl_wanted pl_moves pl_picking pl_downs pl_near pl_seconds pl_many tr_fruits tr_standings tr_x tr_height tr_worth tr_ripe tr_foot tr_fork tr_settings no_apron no_basket no_ground no_bruised no_ladder no_helper no_today ru_length ru_given ru_stack ru_program ro_size ro_numbers).2.2.2.2.2.2.2.2.1 (F_X9_sweep p0 pl_wanted pl_moves pl_picking pl_downs pl_near pl_seconds pl_many tr_fruits tr_standings tr_x tr_height tr_worth tr_ripe tr_foot tr_fork tr_settings no_apron no_basket no_ground no_bruised no_ladder no_helper no_today ru_length ru_given ru_stack ru_program ro_size ro_numbers).2.2.2.2.2.2.2.2.2.1 (F_X9_sweep p0 pl_wanted pl_moves pl_picking pl_downs pl_near pl_seconds pl_many tr_fruits tr_standings tr_x tr_height tr_worth tr_ripe tr_foot tr_fork tr_settings no_apron no_basket no_ground no_bruised no_ladder no_helper no_today ru_length ru_given ru_stack ru_program ro_size ro_numbers).2.2.2.2.2.2.2.2.2.2.1 (F_X9_sweep p0 pl_wanted pl_moves pl_picking pl_downs pl_near pl_seconds pl_many tr_fruits tr_standings tr_x tr_height tr_worth tr_ripe tr_foot tr_fork tr_settings no_apron no_basket no_ground no_bruised no_ladder no_helper no_today ru_length ru_given ru_stack ru_program ro_size ro_numbers).2.2.2.2.2.2.2.2.2.2.2 → Q (F_X9_sweep p0 pl_wanted pl_moves pl_picking pl_downs pl_near pl_seconds pl_many tr_fruits tr_standings tr_x tr_height tr_worth tr_ripe tr_foot tr_fork tr_settings no_apron no_basket no_ground no_bruised no_ladder no_helper no_today ru_length ru_given ru_stack ru_program ro_size ro_numbers).1 (F_X9_sweep p0 pl_wanted pl_moves pl_picking pl_downs pl_near pl_seconds pl_many tr_fruits tr_standings tr_x tr_height tr_worth tr_ripe tr_foot tr_fork tr_settings no_apron no_basket no_ground no_bruised no_ladder no_helper no_today ru_length ru_given ru_stack ru_program ro_size ro_numbers).2.1 (F_X9_sweep p0 pl_wanted pl_moves pl_picking pl_downs pl_near pl_seconds pl_many tr_fruits tr_standings tr_x tr_height tr_worth tr_ripe tr_foot tr_fork tr_settings no_apron no_basket no_ground no_bruised no_ladder no_helper no_today ru_length ru_given ru_stack ru_program ro_size ro_numbers).2.2.1 (F_X9_sweep p0 pl_wanted pl_moves pl_picking pl_downs pl_near pl_seconds pl_many tr_fruits tr_standings tr_x tr_height tr_worth tr_ripe tr_foot tr_fork tr_settings no_apron no_basket no_ground no_bruised no_ladder no_helper no_today ru_length ru_given ru_stack ru_program ro_size ro_numbers).2.2.2.1 (F_X9_sweep p0 pl_wanted pl_moves pl_picking pl_downs pl_near pl_seconds pl_many tr_fruits tr_standings tr_x tr_height tr_worth tr_ripe tr_foot tr_fork tr_settings no_apron no_basket no_ground no_bruised no_ladder no_helper no_today ru_length ru_given ru_stack ru_program ro_size ro_numbers).2.2.2.2.1 (F_X9_sweep p0 pl_wanted pl_moves pl_picking pl_downs pl_near pl_seconds pl_many tr_fruits tr_standings tr_x tr_height tr_worth tr_ripe tr_foot tr_fork tr_settings no_apron no_basket no_ground no_bruised no_ladder no_helper no_today ru_length ru_given ru_stack ru_program ro_size ro_numbers).2.2.2.2.2.1 (F_X9_sweep p0 pl_wanted pl_moves pl_picking pl_downs pl_near pl_seconds pl_many tr_fruits tr_standings tr_x tr_height tr_worth tr_ripe tr_foot tr_fork tr_settings no_apron no_basket no_ground no_bruised no_ladder no_helper no_today ru_length ru_given ru_stack ru_program ro_size ro_numbers).2.2.2.2.2.2.1 (F_X9_sweep p0 pl_wanted pl_moves pl_picking pl_downs pl_near pl_seconds pl_many tr_fruits tr_standings tr_x tr_height tr_worth tr_ripe tr_foot tr_fork tr_settings no_apron no_basket no_ground no_bruised no_ladder no_helper no_today ru_length ru_given ru_stack ru_program ro_size ro_numbers).2.2.2.2.2.2.2.1 (F_X9_sweep p0 pl_wanted pl_moves pl_picking pl_downs pl_near pl_seconds pl_many tr_fruits tr_standings tr_x tr_height tr_worth tr_ripe tr_foot tr_fork tr_settings no_apron no_basket no_ground no_bruised no_ladder no_helper no_today ru_length ru_given ru_stack ru_program ro_size ro_numbers).2.2.2.2.2.2.2.2.1 (F_X9_sweep p0 pl_wanted pl_moves pl_picking pl_downs pl_near pl_seconds pl_many tr_fruits tr_standings tr_x tr_height tr_worth tr_ripe tr_foot tr_fork tr_settings no_apron no_basket no_ground no_bruised no_ladder no_helper no_today ru_length ru_given ru_stack ru_program ro_size ro_numbers).2.2.2.2.2.2.2.2.2.1 (F_X9_sweep p0 pl_wanted pl_moves pl_picking pl_downs pl_near pl_seconds pl_many tr_fruits tr_standings tr_x tr_height tr_worth tr_ripe tr_foot tr_fork tr_settings no_apron no_basket no_ground no_bruised no_ladder no_helper no_today ru_length ru_given ru_stack ru_program ro_size ro_numbers).2.2.2.2.2.2.2.2.2.2.1 (F_X9_sweep p0 pl_wanted pl_moves pl_picking pl_downs pl_near pl_seconds pl_many tr_fruits tr_standings tr_x tr_height tr_worth tr_ripe tr_foot tr_fork tr_settings no_apron no_basket no_ground no_bruised no_ladder no_helper no_today ru_length ru_given ru_stack ru_program ro_size ro_numbers).2.2.2.2.2.2.2.2.2.2.2) : wp_X9_sweep Q p0 pl_wanted pl_moves pl_picking pl_downs pl_near pl_seconds pl_many tr_fruits tr_standings tr_x tr_height tr_worth tr_ripe tr_foot tr_fork tr_settings no_apron no_basket no_ground no_bruised no_ladder no_helper no_today ru_length ru_given ru_stack ru_program ro_size ro_numbers := dt_X9_sweep hy0 h (fun o eo => by rw [eo]; exact hq)
theorem dw_X9_sweep {Q : Int32 → Int32 → Int32 → Int32 → Int32 → (Nat → Int32) → (Nat → Int32) → (Nat → Int32) → (Nat → Int32) → (Nat → Int32) → Int32 → (Nat → Int32) → Prop} {p0 : Int32} {pl_wanted : Int32} {pl_moves : Int32} {pl_picking : Int32} {pl_downs : Int32} {pl_near : Nat → Int32} {pl_seconds : Nat → Int32} {pl_many : Nat → Int32} {tr_fruits : Int32} {tr_standings : Int32} {tr_x : Nat → Int32} {tr_height : Nat → Int32} {tr_worth : Nat → Int32} {tr_ripe : Nat → Int32} {tr_foot : Nat → Int32} {tr_fork : Nat → Int32} {tr_settings : Nat → Int32} {no_apron : Int32} {no_basket : Int32} {no_ground : Int32} {no_bruised : Int32} {no_ladder : Int32} {no_helper : Int32} {no_today : Int32} {ru_length : Int32} {ru_given : Nat → Int32} {ru_stack : Nat → Int32} {ru_program : Nat → Int32} {ro_size : Int32} {ro_numbers : Nat → Int32} (hy0 : Int32.toInt (F_X3_allStandings tr_standings) < 2147483647) (h : wp_X9_sweep (fun o0 o1 o2 o3 o4 o5 o6 o7 o8 o9 o10 o11 => (o0, o1, o2, o3, o4, o5, o6, o7, o8, o9, o10, o11) = F_X9_sweep p0 pl_wanted pl_moves pl_picking pl_downs pl_near pl_seconds pl_many tr_fruits tr_standings tr_x tr_height tr_worth tr_ripe tr_foot tr_fork tr_settings no_apron no_basket no_ground no_bruised no_ladder no_helper no_today ru_length ru_given ru_stack ru_program ro_size ro_numbers → Q o0 o1 o2 o3 o4 o5 o6 o7 o8 o9 o10 o11) p0 pl_wanted pl_moves pl_picking pl_downs pl_near pl_seconds pl_many tr_fruits tr_standings tr_x tr_height tr_worth tr_ripe tr_foot tr_fork tr_settings no_apron no_basket no_ground no_bruised no_ladder no_helper no_today ru_length ru_given ru_stack ru_program ro_size ro_numbers) : wp_X9_sweep Q p0 pl_wanted pl_moves pl_picking pl_downs pl_near pl_seconds pl_many tr_fruits tr_standings tr_x tr_height tr_worth tr_ripe tr_foot tr_fork tr_settings no_apron no_basket no_ground no_bruised no_ladder no_helper no_today ru_length ru_given ru_stack ru_program ro_size ro_numbers := dt_X9_sweep hy0 h (fun o eo hp => hp eo)
noncomputable def F_X5_duskWorth (p0 : Int32) (pl_best : Nat → Int32) : Int32 := if (pl_best p0.toNatClampNeg) = (-2147483648) then (-1) else (((pl_best p0.toNatClampNeg) + 65535) >>> (16 &&& 31))
set_option maxHeartbeats 200000 in
set_option maxRecDepth 10000 in
theorem dt_X5_duskWorth {P Q : Int32 → Prop} {p0 : Int32} {pl_best : Nat → Int32} (h : wp_X5_duskWorth P p0 pl_best) (hq : ∀ o : Int32, o = F_X5_duskWorth p0 pl_best → P o → Q o) : wp_X5_duskWorth Q p0 pl_best := by
  rw [F_X5_duskWorth] at hq
  refine And.intro (And.left h) ?_
  have h := And.right h
  refine ae ?_
  have h := h _ rfl
  refine And.intro (fun c1 => ?_) (fun c1 => ?_)
  · have h := And.left h c1
    rw [if_neg c1] at hq
    refine And.intro (And.left h) ?_
    have h := And.right h
    refine ae ?_
    have h := h _ rfl
    refine ae ?_
    have h := h _ rfl
    have q9 := hq _ rfl
    exact q9 h
  · have h := And.right h c1
    rw [if_pos c1] at hq
    have q9 := hq _ rfl
    exact q9 h
theorem du_X5_duskWorth {P Q : Int32 → Prop} {p0 : Int32} {pl_best : Nat → Int32} (h : wp_X5_duskWorth P p0 pl_best) (hq : P (F_X5_duskWorth p0 pl_best) → Q (F_X5_duskWorth p0 pl_best)) : wp_X5_duskWorth Q p0 pl_best := dt_X5_duskWorth h (fun o eo => by rw [eo]; exact hq)
noncomputable def F_X5_duskFruits (p0 : Int32) (pl_best : Nat → Int32) : Int32 := if (pl_best p0.toNatClampNeg) = (-2147483648) then 0 else ((-(pl_best p0.toNatClampNeg)) &&& 65535)
set_option maxHeartbeats 200000 in
set_option maxRecDepth 10000 in
theorem dt_X5_duskFruits {P Q : Int32 → Prop} {p0 : Int32} {pl_best : Nat → Int32} (h : wp_X5_duskFruits P p0 pl_best) (hq : ∀ o : Int32, o = F_X5_duskFruits p0 pl_best → P o → Q o) : wp_X5_duskFruits Q p0 pl_best := by
  rw [F_X5_duskFruits] at hq
  refine And.intro (And.left h) ?_
  have h := And.right h
  refine ae ?_
  have h := h _ rfl
  refine And.intro (fun c1 => ?_) (fun c1 => ?_)
  · have h := And.left h c1
    rw [if_neg c1] at hq
    refine And.intro (And.left h) ?_
    have h := And.right h
    refine ae ?_
    have h := h _ rfl
    have q9 := hq _ rfl
    exact q9 h
  · have h := And.right h c1
    rw [if_pos c1] at hq
    have q9 := hq _ rfl
    exact q9 h
theorem du_X5_duskFruits {P Q : Int32 → Prop} {p0 : Int32} {pl_best : Nat → Int32} (h : wp_X5_duskFruits P p0 pl_best) (hq : P (F_X5_duskFruits p0 pl_best) → Q (F_X5_duskFruits p0 pl_best)) : wp_X5_duskFruits Q p0 pl_best := dt_X5_duskFruits h (fun o eo => by rw [eo]; exact hq)
noncomputable def j_X3_firstUncovering_29 {R : Type} (k2 : Int32 → Int32 → Int32 → R) (tr_fruits : Int32) (tr_x : Nat → Int32) (tr_height : Nat → Int32) (x1 : Int32) (x2 : Int32) (x3 : Int32) : R := k2 x1 x2 (x3 + 1)
noncomputable def fs_X3_firstUncovering_2 {R : Type} (po : Int32 → R) (tr_fruits : Int32) (tr_x : Nat → Int32) (tr_height : Nat → Int32) (nx : Int32 → Int32 → Int32 → R) (x1 : Int32) (x2 : Int32) (x3 : Int32) : R := if tr_fruits ≤ x3 then (po (-1)) else (if ((x1 >>> (x3 &&& 31)) &&& 1) = 0 then (j_X3_firstUncovering_29 nx tr_fruits tr_x tr_height x1 x2 x3) else (if (F_X3_lowerThan x3 x2 tr_fruits tr_x tr_height) = 0 then (po x3) else (j_X3_firstUncovering_29 nx tr_fruits tr_x tr_height x1 x2 x3)))
set_option maxHeartbeats 200000 in
set_option maxRecDepth 10000 in
theorem dl_X3_firstUncovering_2 {P Q : Int32 → Prop} {tr_fruits : Int32} {tr_x : Nat → Int32} {tr_height : Nat → Int32} {R : Type} {po : Int32 → R} {d : Int32 → Int32 → Int32 → R} : ∀ (n m : Nat) (x1 : Int32) (x2 : Int32) (x3 : Int32), 0 ≤ Int32.toInt x3 ∧ Int32.toInt x3 ≤ 16 ∧ Int32.toInt tr_fruits ≤ 16 → 16 - Int32.toInt x3 < (m : Int) → wb_X3_firstUncovering_2 P tr_fruits tr_x tr_height n x1 x2 x3 → (∀ (b0 : Int32), po b0 = flp (fs_X3_firstUncovering_2 po tr_fruits tr_x tr_height) d m x1 x2 x3 → P b0 → Q b0) → wb_X3_firstUncovering_2 Q tr_fruits tr_x tr_height n x1 x2 x3 := by
  have l1 : Int32.toInt (1 : Int32) = 1 := by decide
  intro n
  induction n with
  | zero => intro m x1 x2 x3 hv hm h hq; exact False.elim h
  | succ n ih =>
    intro m x1 x2 x3 hv hm h hq
    cases m with
    | zero => exfalso; omega
    | succ m =>
      rw [flp_s, fs_X3_firstUncovering_2] at hq
      have h : ws_X3_firstUncovering_2 P (wb_X3_firstUncovering_2 P tr_fruits tr_x tr_height n) tr_fruits tr_x tr_height x1 x2 x3 := h
      show ws_X3_firstUncovering_2 Q (wb_X3_firstUncovering_2 Q tr_fruits tr_x tr_height n) tr_fruits tr_x tr_height x1 x2 x3
      unfold ws_X3_firstUncovering_2 at h ⊢
      refine And.intro (fun c1 => ?_) (fun c1 => ?_)
      · have h := And.left h c1
        rw [if_pos c1] at hq
        have dc1 := (fa_le _ _).mp c1
        exact hq _ rfl h
      · have h := And.right h c1
        rw [if_neg c1] at hq
        have dc1 := mt (fa_le _ _).mpr c1
        refine ae ?_
        have h := h _ rfl
        refine And.intro (fun c2 => ?_) (fun c2 => ?_)
        · have h := And.left h c2
          rw [if_pos c2] at hq
          have dc2 := (fa_eq _ _).mp c2
          rw [j_X3_firstUncovering_29] at hq
          unfold ws_X3_firstUncovering_29 at h ⊢
          refine ae ?_
          have h := h _ rfl
          have f9 := ta_add x3 1 (by omega)
          exact ih m _ _ _ (by omega) (by omega) h hq
        · have h := And.right h c2
          rw [if_neg c2] at hq
          have dc2 := mt (fa_eq _ _).mpr c2
          refine du_X3_lowerThan h ?_
          intro h
          refine And.intro (fun c3 => ?_) (fun c3 => ?_)
          · have h := And.left h c3
            rw [if_neg c3] at hq
            have dc3 := mt (fa_eq _ _).mpr c3
            rw [j_X3_firstUncovering_29] at hq
            unfold ws_X3_firstUncovering_29 at h ⊢
            refine ae ?_
            have h := h _ rfl
            have f9 := ta_add x3 1 (by omega)
            exact ih m _ _ _ (by omega) (by omega) h hq
          · have h := And.right h c3
            rw [if_pos c3] at hq
            have dc3 := (fa_eq _ _).mp c3
            exact hq _ rfl h
noncomputable def F_X3_firstUncovering (p0 : Int32) (p1 : Int32) (tr_fruits : Int32) (tr_x : Nat → Int32) (tr_height : Nat → Int32) : Int32 := flp (fs_X3_firstUncovering_2 (fun o0 => o0) tr_fruits tr_x tr_height) (fun _ _ _ => 0) 17 p0 p1 0
set_option maxHeartbeats 200000 in
set_option maxRecDepth 10000 in
theorem dt_X3_firstUncovering {P Q : Int32 → Prop} {p0 : Int32} {p1 : Int32} {tr_fruits : Int32} {tr_x : Nat → Int32} {tr_height : Nat → Int32} (hy0 : Int32.toInt tr_fruits ≤ 16) (h : wp_X3_firstUncovering P p0 p1 tr_fruits tr_x tr_height) (hq : ∀ o : Int32, o = F_X3_firstUncovering p0 p1 tr_fruits tr_x tr_height → P o → Q o) : wp_X3_firstUncovering Q p0 p1 tr_fruits tr_x tr_height := by
  rw [F_X3_firstUncovering] at hq
  obtain ⟨n1, h⟩ := h
  exact ⟨n1, dl_X3_firstUncovering_2 n1 17 _ _ _ ⟨by decide, by decide, hy0⟩ (by decide) h (fun b0 e9 h9 => hq b0 e9 h9)⟩
theorem du_X3_firstUncovering {P Q : Int32 → Prop} {p0 : Int32} {p1 : Int32} {tr_fruits : Int32} {tr_x : Nat → Int32} {tr_height : Nat → Int32} (hy0 : Int32.toInt tr_fruits ≤ 16) (h : wp_X3_firstUncovering P p0 p1 tr_fruits tr_x tr_height) (hq : P (F_X3_firstUncovering p0 p1 tr_fruits tr_x tr_height) → Q (F_X3_firstUncovering p0 p1 tr_fruits tr_x tr_height)) : wp_X3_firstUncovering Q p0 p1 tr_fruits tr_x tr_height := dt_X3_firstUncovering hy0 h (fun o eo => by rw [eo]; exact hq)
noncomputable def j_X9_gentle_91 {R : Type} (po : Int32 → Int32 → (Nat → Int32) → R) (tr_fruits : Int32) (tr_x : Nat → Int32) (tr_height : Nat → Int32) (tr_ripe : Nat → Int32) (tr_foot : Nat → Int32) (tr_fork : Nat → Int32) (tr_settings : Nat → Int32) (no_apron : Int32) (no_basket : Int32) (no_ground : Int32) (no_ladder : Int32) (no_helper : Int32) (no_today : Int32) (ro_size : Int32) (ro_numbers : Nat → Int32) : R := po ro_size ro_size ro_numbers
noncomputable def fs_X9_gentle_39 {R : Type} (po : Int32 → Int32 → (Nat → Int32) → R) (tr_fruits : Int32) (tr_x : Nat → Int32) (tr_height : Nat → Int32) (tr_ripe : Nat → Int32) (tr_foot : Nat → Int32) (tr_fork : Nat → Int32) (tr_settings : Nat → Int32) (no_apron : Int32) (no_basket : Int32) (no_ground : Int32) (no_ladder : Int32) (no_helper : Int32) (no_today : Int32) (nx : Int32 → Int32 → Int32 → Int32 → (Nat → Int32) → R) (x1 : Int32) (x2 : Int32) (x3 : Int32) (ro_size : Int32) (ro_numbers : Nat → Int32) : R := if 16 ≤ x3 then (j_X9_gentle_91 po tr_fruits tr_x tr_height tr_ripe tr_foot tr_fork tr_settings no_apron no_basket no_ground no_ladder no_helper no_today ro_size ro_numbers) else (if (F_X3_firstUncovering (x2 &&& x1) x1 tr_fruits tr_x tr_height) = (-1) then (j_X9_gentle_91 po tr_fruits tr_x tr_height tr_ripe tr_foot tr_fork tr_settings no_apron no_basket no_ground no_ladder no_helper no_today ro_size ro_numbers) else (nx (x1 &&& ((1 <<< ((F_X3_firstUncovering (x2 &&& x1) x1 tr_fruits tr_x tr_height) &&& 31)) ^^^ (-1))) x2 (x3 + 1) ((F_X6_add (F_X3_firstUncovering (x2 &&& x1) x1 tr_fruits tr_x tr_height) ro_size ro_numbers).1) ((F_X6_add (F_X3_firstUncovering (x2 &&& x1) x1 tr_fruits tr_x tr_height) ro_size ro_numbers).2)))
set_option maxHeartbeats 200000 in
set_option maxRecDepth 10000 in
theorem dl_X9_gentle_39 {P Q : Int32 → Int32 → (Nat → Int32) → Prop} {tr_fruits : Int32} {tr_x : Nat → Int32} {tr_height : Nat → Int32} {tr_ripe : Nat → Int32} {tr_foot : Nat → Int32} {tr_fork : Nat → Int32} {tr_settings : Nat → Int32} {no_apron : Int32} {no_basket : Int32} {no_ground : Int32} {no_ladder : Int32} {no_helper : Int32} {no_today : Int32} {R : Type} {po : Int32 → Int32 → (Nat → Int32) → R} {d : Int32 → Int32 → Int32 → Int32 → (Nat → Int32) → R} (hz0 : Int32.toInt tr_fruits ≤ 16) : ∀ (n m : Nat) (x1 : Int32) (x2 : Int32) (x3 : Int32) (ro_size : Int32) (ro_numbers : Nat → Int32), 0 ≤ Int32.toInt x3 ∧ Int32.toInt x3 ≤ 16 → 16 - Int32.toInt x3 < (m : Int) → wb_X9_gentle_39 P tr_fruits tr_x tr_height tr_ripe tr_foot tr_fork tr_settings no_apron no_basket no_ground no_ladder no_helper no_today n x1 x2 x3 ro_size ro_numbers → (∀ (b0 : Int32) (b1 : Int32) (b2 : Nat → Int32), po b0 b1 b2 = flp (fs_X9_gentle_39 po tr_fruits tr_x tr_height tr_ripe tr_foot tr_fork tr_settings no_apron no_basket no_ground no_ladder no_helper no_today) d m x1 x2 x3 ro_size ro_numbers → P b0 b1 b2 → Q b0 b1 b2) → wb_X9_gentle_39 Q tr_fruits tr_x tr_height tr_ripe tr_foot tr_fork tr_settings no_apron no_basket no_ground no_ladder no_helper no_today n x1 x2 x3 ro_size ro_numbers := by
  have l1 : Int32.toInt (1 : Int32) = 1 := by decide
  have l16 : Int32.toInt (16 : Int32) = 16 := by decide
  intro n
  induction n with
  | zero => intro m x1 x2 x3 ro_size ro_numbers hv hm h hq; exact False.elim h
  | succ n ih =>
    intro m x1 x2 x3 ro_size ro_numbers hv hm h hq
    cases m with
    | zero => exfalso; omega
    | succ m =>
      rw [flp_s, fs_X9_gentle_39] at hq
      have h : ws_X9_gentle_39 P (wb_X9_gentle_39 P tr_fruits tr_x tr_height tr_ripe tr_foot tr_fork tr_settings no_apron no_basket no_ground no_ladder no_helper no_today n) tr_fruits tr_x tr_height tr_ripe tr_foot tr_fork tr_settings no_apron no_basket no_ground no_ladder no_helper no_today x1 x2 x3 ro_size ro_numbers := h
      show ws_X9_gentle_39 Q (wb_X9_gentle_39 Q tr_fruits tr_x tr_height tr_ripe tr_foot tr_fork tr_settings no_apron no_basket no_ground no_ladder no_helper no_today n) tr_fruits tr_x tr_height tr_ripe tr_foot tr_fork tr_settings no_apron no_basket no_ground no_ladder no_helper no_today x1 x2 x3 ro_size ro_numbers
      unfold ws_X9_gentle_39 at h ⊢
      refine And.intro (fun c1 => ?_) (fun c1 => ?_)
      · have h := And.left h c1
        rw [if_pos c1] at hq
        have dc1 := (fa_le _ _).mp c1
        rw [j_X9_gentle_91] at hq
        unfold ws_X9_gentle_91 at h ⊢
        exact hq _ _ _ rfl h
      · have h := And.right h c1
        rw [if_neg c1] at hq
        have dc1 := mt (fa_le _ _).mpr c1
        refine ae ?_
        have h := h _ rfl
        refine du_X3_firstUncovering hz0 h ?_
        intro h
        refine And.intro (fun c2 => ?_) (fun c2 => ?_)
        · have h := And.left h c2
          rw [if_neg c2] at hq
          have dc2 := mt (fa_eq _ _).mpr c2
          refine du_X6_add h ?_
          intro h
          refine ae ?_
          have h := h _ rfl
          refine ae ?_
          have h := h _ rfl
          refine ae ?_
          have h := h _ rfl
          have f9 := ta_add x3 1 (by omega)
          exact ih m _ _ _ _ _ (by omega) (by omega) h hq
        · have h := And.right h c2
          rw [if_pos c2] at hq
          have dc2 := (fa_eq _ _).mp c2
          rw [j_X9_gentle_91] at hq
          unfold ws_X9_gentle_91 at h ⊢
          exact hq _ _ _ rfl h
noncomputable def F_X9_gentle (tr_fruits : Int32) (tr_x : Nat → Int32) (tr_height : Nat → Int32) (tr_ripe : Nat → Int32) (tr_foot : Nat → Int32) (tr_fork : Nat → Int32) (tr_settings : Nat → Int32) (no_apron : Int32) (no_basket : Int32) (no_ground : Int32) (no_ladder : Int32) (no_helper : Int32) (no_today : Int32) (ro_size : Int32) (ro_numbers : Nat → Int32) : Int32 × Int32 × (Nat → Int32) := if no_ladder = (-1) then ((-2), ro_size, ro_numbers) else (flp (fs_X9_gentle_39 (fun o0 o1 o2 => (o0, o1, o2)) tr_fruits tr_x tr_height tr_ripe tr_foot tr_fork tr_settings no_apron no_basket no_ground no_ladder no_helper no_today) (fun _ _ _ _ _ => (0, 0, (fun _ => 0))) 17 (F_X0_hanging tr_fruits no_apron no_basket no_ground) (F_X0_readyHere tr_fruits tr_x tr_height tr_ripe tr_foot tr_fork tr_settings no_apron no_basket no_ground no_ladder no_helper no_today) 0 (F_X6_clear ro_size) ro_numbers)
set_option maxHeartbeats 200000 in
set_option maxRecDepth 10000 in
theorem dt_X9_gentle {P Q : Int32 → Int32 → (Nat → Int32) → Prop} {tr_fruits : Int32} {tr_x : Nat → Int32} {tr_height : Nat → Int32} {tr_ripe : Nat → Int32} {tr_foot : Nat → Int32} {tr_fork : Nat → Int32} {tr_settings : Nat → Int32} {no_apron : Int32} {no_basket : Int32} {no_ground : Int32} {no_ladder : Int32} {no_helper : Int32} {no_today : Int32} {ro_size : Int32} {ro_numbers : Nat → Int32} (hy0 : Int32.toInt tr_fruits ≤ 16) (h : wp_X9_gentle P tr_fruits tr_x tr_height tr_ripe tr_foot tr_fork tr_settings no_apron no_basket no_ground no_ladder no_helper no_today ro_size ro_numbers) (hq : ∀ o : Int32 × Int32 × (Nat → Int32), o = F_X9_gentle tr_fruits tr_x tr_height tr_ripe tr_foot tr_fork tr_settings no_apron no_basket no_ground no_ladder no_helper no_today ro_size ro_numbers → P o.1 o.2.1 o.2.2 → Q o.1 o.2.1 o.2.2) : wp_X9_gentle Q tr_fruits tr_x tr_height tr_ripe tr_foot tr_fork tr_settings no_apron no_basket no_ground no_ladder no_helper no_today ro_size ro_numbers := by
  rw [F_X9_gentle] at hq
  refine And.intro (fun c1 => ?_) (fun c1 => ?_)
  · have h := And.left h c1
    rw [if_neg c1] at hq
    refine du_X6_clear h ?_
    intro h
    refine du_X0_hanging h ?_
    intro h
    refine du_X0_readyHere h ?_
    intro h
    obtain ⟨n2, h⟩ := h
    exact ⟨n2, dl_X9_gentle_39 hy0 n2 17 _ _ _ _ _ (by decide) (by decide) h (fun b0 b1 b2 e9 h9 => hq (b0, b1, b2) e9 h9)⟩
  · have h := And.right h c1
    rw [if_pos c1] at hq
    have q9 := hq _ rfl
    dsimp only at q9
    exact q9 h
theorem du_X9_gentle {P Q : Int32 → Int32 → (Nat → Int32) → Prop} {tr_fruits : Int32} {tr_x : Nat → Int32} {tr_height : Nat → Int32} {tr_ripe : Nat → Int32} {tr_foot : Nat → Int32} {tr_fork : Nat → Int32} {tr_settings : Nat → Int32} {no_apron : Int32} {no_basket : Int32} {no_ground : Int32} {no_ladder : Int32} {no_helper : Int32} {no_today : Int32} {ro_size : Int32} {ro_numbers : Nat → Int32} (hy0 : Int32.toInt tr_fruits ≤ 16) (h : wp_X9_gentle P tr_fruits tr_x tr_height tr_ripe tr_foot tr_fork tr_settings no_apron no_basket no_ground no_ladder no_helper no_today ro_size ro_numbers) (hq : P (F_X9_gentle tr_fruits tr_x tr_height tr_ripe tr_foot tr_fork tr_settings no_apron no_basket no_ground no_ladder no_helper no_today ro_size ro_numbers).1 (F_X9_gentle tr_fruits tr_x tr_height tr_ripe tr_foot tr_fork tr_settings no_apron no_basket no_ground no_ladder no_helper no_today ro_size ro_numbers).2.1 (F_X9_gentle tr_fruits tr_x tr_height tr_ripe tr_foot tr_fork tr_settings no_apron no_basket no_ground no_ladder no_helper no_today ro_size ro_numbers).2.2 → Q (F_X9_gentle tr_fruits tr_x tr_height tr_ripe tr_foot tr_fork tr_settings no_apron no_basket no_ground no_ladder no_helper no_today ro_size ro_numbers).1 (F_X9_gentle tr_fruits tr_x tr_height tr_ripe tr_foot tr_fork tr_settings no_apron no_basket no_ground no_ladder no_helper no_today ro_size ro_numbers).2.1 (F_X9_gentle tr_fruits tr_x tr_height tr_ripe tr_foot tr_fork tr_settings no_apron no_basket no_ground no_ladder no_helper no_today ro_size ro_numbers).2.2) : wp_X9_gentle Q tr_fruits tr_x tr_height tr_ripe tr_foot tr_fork tr_settings no_apron no_basket no_ground no_ladder no_helper no_today ro_size ro_numbers := dt_X9_gentle hy0 h (fun o eo => by rw [eo]; exact hq)
theorem dw_X9_gentle {Q : Int32 → Int32 → (Nat → Int32) → Prop} {tr_fruits : Int32} {tr_x : Nat → Int32} {tr_height : Nat → Int32} {tr_ripe : Nat → Int32} {tr_foot : Nat → Int32} {tr_fork : Nat → Int32} {tr_settings : Nat → Int32} {no_apron : Int32} {no_basket : Int32} {no_ground : Int32} {no_ladder : Int32} {no_helper : Int32} {no_today : Int32} {ro_size : Int32} {ro_numbers : Nat → Int32} (hy0 : Int32.toInt tr_fruits ≤ 16) (h : wp_X9_gentle (fun o0 o1 o2 => (o0, o1, o2) = F_X9_gentle tr_fruits tr_x tr_height tr_ripe tr_foot tr_fork tr_settings no_apron no_basket no_ground no_ladder no_helper no_today ro_size ro_numbers → Q o0 o1 o2) tr_fruits tr_x tr_height tr_ripe tr_foot tr_fork tr_settings no_apron no_basket no_ground no_ladder no_helper no_today ro_size ro_numbers) : wp_X9_gentle Q tr_fruits tr_x tr_height tr_ripe tr_foot tr_fork tr_settings no_apron no_basket no_ground no_ladder no_helper no_today ro_size ro_numbers := dt_X9_gentle hy0 h (fun o eo hp => hp eo)
noncomputable def j_X9_harm_78 {R : Type} (k35 : Int32 → Int32 → Int32 → Int32 → Int32 → (Nat → Int32) → R) (tr_fruits : Int32) (tr_x : Nat → Int32) (tr_height : Nat → Int32) (tr_worth : Nat → Int32) (tr_ripe : Nat → Int32) (tr_foot : Nat → Int32) (tr_fork : Nat → Int32) (tr_settings : Nat → Int32) (no_apron : Int32) (no_basket : Int32) (no_ground : Int32) (no_bruised : Int32) (no_ladder : Int32) (no_helper : Int32) (no_today : Int32) (x1 : Int32) (x2 : Int32) (x3 : Int32) (x4 : Int32) (ro_size : Int32) (ro_numbers : Nat → Int32) : R := k35 x1 x2 x3 (x4 + 1) ro_size ro_numbers
noncomputable def bd_X9_harm_35 (tr_fruits : Int32) (tr_x : Nat → Int32) (tr_height : Nat → Int32) (tr_worth : Nat → Int32) (tr_ripe : Nat → Int32) (tr_foot : Nat → Int32) (tr_fork : Nat → Int32) (tr_settings : Nat → Int32) (no_apron : Int32) (no_basket : Int32) (no_ground : Int32) (no_bruised : Int32) (no_ladder : Int32) (no_helper : Int32) (no_today : Int32) (x2 : Int32) (ro_size : Int32) (ro_numbers : Nat → Int32) (c : Int32) (s : Int32 × Int32) : Int32 × Int32 := if ((x2 >>> (c &&& 31)) &&& 1) = 0 then (j_X9_harm_78 (fun q0 q1 q2 q3 q4 q5 => (q0, q2)) tr_fruits tr_x tr_height tr_worth tr_ripe tr_foot tr_fork tr_settings no_apron no_basket no_ground no_bruised no_ladder no_helper no_today s.1 x2 s.2 c ro_size ro_numbers) else (j_X9_harm_78 (fun q0 q1 q2 q3 q4 q5 => (q0, q2)) tr_fruits tr_x tr_height tr_worth tr_ripe tr_foot tr_fork tr_settings no_apron no_basket no_ground no_bruised no_ladder no_helper no_today (s.1 &&& ((1 <<< (c &&& 31)) ^^^ (-1))) x2 (s.2 ||| (F_X3_lowerThan c s.1 tr_fruits tr_x tr_height)) c ro_size ro_numbers)
noncomputable def ex_X9_harm_35 {R : Type} (po : Int32 → Int32 → (Nat → Int32) → R) (tr_fruits : Int32) (tr_x : Nat → Int32) (tr_height : Nat → Int32) (tr_worth : Nat → Int32) (tr_ripe : Nat → Int32) (tr_foot : Nat → Int32) (tr_fork : Nat → Int32) (tr_settings : Nat → Int32) (no_apron : Int32) (no_basket : Int32) (no_ground : Int32) (no_bruised : Int32) (no_ladder : Int32) (no_helper : Int32) (no_today : Int32) (x2 : Int32) (ro_size : Int32) (ro_numbers : Nat → Int32) (c : Int32) (s : Int32 × Int32) : R := po s.2 ((F_X9_tell ((F_X0_worthOf s.2 tr_fruits tr_worth no_bruised) - (F_X3_worthOf s.2 (no_bruised ||| s.2) tr_fruits tr_worth)) ro_size ro_numbers).1) ((F_X9_tell ((F_X0_worthOf s.2 tr_fruits tr_worth no_bruised) - (F_X3_worthOf s.2 (no_bruised ||| s.2) tr_fruits tr_worth)) ro_size ro_numbers).2)
set_option maxHeartbeats 200000 in
set_option maxRecDepth 10000 in
theorem dl_X9_harm_35 {P Q : Int32 → Int32 → (Nat → Int32) → Prop} {tr_fruits : Int32} {tr_x : Nat → Int32} {tr_height : Nat → Int32} {tr_worth : Nat → Int32} {tr_ripe : Nat → Int32} {tr_foot : Nat → Int32} {tr_fork : Nat → Int32} {tr_settings : Nat → Int32} {no_apron : Int32} {no_basket : Int32} {no_ground : Int32} {no_bruised : Int32} {no_ladder : Int32} {no_helper : Int32} {no_today : Int32} {x2 : Int32} {ro_size : Int32} {ro_numbers : Nat → Int32} {a : Int32 × Int32} {i : Nat} (hi0 : i < 2147483648) (hE : ∀ (c : Int32) (s : Int32 × Int32), c = nI (i + (Int32.toInt tr_fruits - ((i : Nat) : Int)).toNat) → s = itr (bd_X9_harm_35 tr_fruits tr_x tr_height tr_worth tr_ripe tr_foot tr_fork tr_settings no_apron no_basket no_ground no_bruised no_ladder no_helper no_today x2 ro_size ro_numbers) a i (Int32.toInt tr_fruits - ((i : Nat) : Int)).toNat → (wp_X0_worthOf (fun r_3 => ∀ v_4 : Int32, v_4 = no_bruised ||| s.2 → wp_X3_worthOf (fun r_5 => ∀ v_6 : Int32, v_6 = r_3 - r_5 → wp_X9_tell (fun ro_size_7 ro_numbers_8 => P s.2 ro_size_7 ro_numbers_8) v_6 ro_size ro_numbers) s.2 v_4 tr_fruits tr_worth) s.2 tr_fruits tr_worth no_bruised) → (wp_X0_worthOf (fun r_3 => ∀ v_4 : Int32, v_4 = no_bruised ||| s.2 → wp_X3_worthOf (fun r_5 => ∀ v_6 : Int32, v_6 = r_3 - r_5 → wp_X9_tell (fun ro_size_7 ro_numbers_8 => Q s.2 ro_size_7 ro_numbers_8) v_6 ro_size ro_numbers) s.2 v_4 tr_fruits tr_worth) s.2 tr_fruits tr_worth no_bruised)) : ∀ (n k : Nat) (c : Int32), c = nI (i + k) → k ≤ (Int32.toInt tr_fruits - ((i : Nat) : Int)).toNat → wb_X9_harm_35 P tr_fruits tr_x tr_height tr_worth tr_ripe tr_foot tr_fork tr_settings no_apron no_basket no_ground no_bruised no_ladder no_helper no_today n (itr (bd_X9_harm_35 tr_fruits tr_x tr_height tr_worth tr_ripe tr_foot tr_fork tr_settings no_apron no_basket no_ground no_bruised no_ladder no_helper no_today x2 ro_size ro_numbers) a i k).1 x2 (itr (bd_X9_harm_35 tr_fruits tr_x tr_height tr_worth tr_ripe tr_foot tr_fork tr_settings no_apron no_basket no_ground no_bruised no_ladder no_helper no_today x2 ro_size ro_numbers) a i k).2 c ro_size ro_numbers → wb_X9_harm_35 Q tr_fruits tr_x tr_height tr_worth tr_ripe tr_foot tr_fork tr_settings no_apron no_basket no_ground no_bruised no_ladder no_helper no_today n (itr (bd_X9_harm_35 tr_fruits tr_x tr_height tr_worth tr_ripe tr_foot tr_fork tr_settings no_apron no_basket no_ground no_bruised no_ladder no_helper no_today x2 ro_size ro_numbers) a i k).1 x2 (itr (bd_X9_harm_35 tr_fruits tr_x tr_height tr_worth tr_ripe tr_foot tr_fork tr_settings no_apron no_basket no_ground no_bruised no_ladder no_helper no_today x2 ro_size ro_numbers) a i k).2 c ro_size ro_numbers := by
  intro n
  induction n with
  | zero => intro k c hc hk h; exact False.elim h
  | succ n ih =>
    intro k c hc hk h
    have hr := tp_r tr_fruits
    have hi : Int32.toInt c = ((i + k : Nat) : Int) := by rw [hc]; exact nI_toInt (by omega)
    refine And.intro (fun t0 => ?_) (fun t0 => ?_)
    · have h := And.left h t0
      have t1 := (fa_le _ _).mp t0
      have hk2 : k = (Int32.toInt tr_fruits - ((i : Nat) : Int)).toNat := by omega
      subst hk2
      exact hE _ _ hc rfl h
    · have h := And.right h t0
      have t1 := mt (fa_le _ _).mpr t0
      have hs : ∀ o : Int32 × Int32, o = itr (bd_X9_harm_35 tr_fruits tr_x tr_height tr_worth tr_ripe tr_foot tr_fork tr_settings no_apron no_basket no_ground no_bruised no_ladder no_helper no_today x2 ro_size ro_numbers) a i (k + 1) → wb_X9_harm_35 P tr_fruits tr_x tr_height tr_worth tr_ripe tr_foot tr_fork tr_settings no_apron no_basket no_ground no_bruised no_ladder no_helper no_today n o.1 x2 o.2 (c + 1) ro_size ro_numbers → wb_X9_harm_35 Q tr_fruits tr_x tr_height tr_worth tr_ripe tr_foot tr_fork tr_settings no_apron no_basket no_ground no_bruised no_ladder no_helper no_today n o.1 x2 o.2 (c + 1) ro_size ro_numbers := by
        intro o eo h9
        have q := ih (k + 1) (c + 1) (by rw [hc]; exact nI_1 _) (by omega)
        rw [← eo] at q
        exact q h9
      rw [itr_s, ← hc, bd_X9_harm_35] at hs
      refine ae ?_
      have h := h _ rfl
      refine And.intro (fun c1 => ?_) (fun c1 => ?_)
      · have h := And.left h c1
        rw [if_pos c1] at hs
        rw [j_X9_harm_78] at hs
        unfold ws_X9_harm_78 at h ⊢
        refine ae ?_
        have h := h _ rfl
        have q9 := hs _ rfl
        dsimp only at q9
        exact q9 h
      · have h := And.right h c1
        rw [if_neg c1] at hs
        refine du_X3_lowerThan h ?_
        intro h
        refine ae ?_
        have h := h _ rfl
        refine ae ?_
        have h := h _ rfl
        refine ae ?_
        have h := h _ rfl
        rw [j_X9_harm_78] at hs
        unfold ws_X9_harm_78 at h ⊢
        refine ae ?_
        have h := h _ rfl
        have q9 := hs _ rfl
        dsimp only at q9
        exact q9 h
noncomputable def F_X9_harm (tr_fruits : Int32) (tr_x : Nat → Int32) (tr_height : Nat → Int32) (tr_worth : Nat → Int32) (tr_ripe : Nat → Int32) (tr_foot : Nat → Int32) (tr_fork : Nat → Int32) (tr_settings : Nat → Int32) (no_apron : Int32) (no_basket : Int32) (no_ground : Int32) (no_bruised : Int32) (no_ladder : Int32) (no_helper : Int32) (no_today : Int32) (ro_size : Int32) (ro_numbers : Nat → Int32) : Int32 × Int32 × (Nat → Int32) := if no_ladder = (-1) then ((-2), ro_size, ro_numbers) else (ex_X9_harm_35 (fun o0 o1 o2 => (o0, o1, o2)) tr_fruits tr_x tr_height tr_worth tr_ripe tr_foot tr_fork tr_settings no_apron no_basket no_ground no_bruised no_ladder no_helper no_today (F_X0_readyHere tr_fruits tr_x tr_height tr_ripe tr_foot tr_fork tr_settings no_apron no_basket no_ground no_ladder no_helper no_today) ro_size ro_numbers (nI (0 + (Int32.toInt tr_fruits - ((0 : Nat) : Int)).toNat)) (itr (bd_X9_harm_35 tr_fruits tr_x tr_height tr_worth tr_ripe tr_foot tr_fork tr_settings no_apron no_basket no_ground no_bruised no_ladder no_helper no_today (F_X0_readyHere tr_fruits tr_x tr_height tr_ripe tr_foot tr_fork tr_settings no_apron no_basket no_ground no_ladder no_helper no_today) ro_size ro_numbers) ((F_X0_hanging tr_fruits no_apron no_basket no_ground), 0) 0 (Int32.toInt tr_fruits - ((0 : Nat) : Int)).toNat))
set_option maxHeartbeats 200000 in
set_option maxRecDepth 10000 in
theorem dt_X9_harm {P Q : Int32 → Int32 → (Nat → Int32) → Prop} {tr_fruits : Int32} {tr_x : Nat → Int32} {tr_height : Nat → Int32} {tr_worth : Nat → Int32} {tr_ripe : Nat → Int32} {tr_foot : Nat → Int32} {tr_fork : Nat → Int32} {tr_settings : Nat → Int32} {no_apron : Int32} {no_basket : Int32} {no_ground : Int32} {no_bruised : Int32} {no_ladder : Int32} {no_helper : Int32} {no_today : Int32} {ro_size : Int32} {ro_numbers : Nat → Int32} (h : wp_X9_harm P tr_fruits tr_x tr_height tr_worth tr_ripe tr_foot tr_fork tr_settings no_apron no_basket no_ground no_bruised no_ladder no_helper no_today ro_size ro_numbers) (hq : ∀ o : Int32 × Int32 × (Nat → Int32), o = F_X9_harm tr_fruits tr_x tr_height tr_worth tr_ripe tr_foot tr_fork tr_settings no_apron no_basket no_ground no_bruised no_ladder no_helper no_today ro_size ro_numbers → P o.1 o.2.1 o.2.2 → Q o.1 o.2.1 o.2.2) : wp_X9_harm Q tr_fruits tr_x tr_height tr_worth tr_ripe tr_foot tr_fork tr_settings no_apron no_basket no_ground no_bruised no_ladder no_helper no_today ro_size ro_numbers := by
  rw [F_X9_harm] at hq
  refine And.intro (fun c1 => ?_) (fun c1 => ?_)
  · have h := And.left h c1
    rw [if_neg c1] at hq
    refine du_X0_hanging h ?_
    intro h
    refine du_X0_readyHere h ?_
    intro h
    obtain ⟨n2, h⟩ := h
    refine ⟨n2, dl_X9_harm_35 (a := ((F_X0_hanging tr_fruits no_apron no_basket no_ground), 0)) (i := 0) (by decide) ?_ n2 0 0 (by decide) (Nat.zero_le _) h⟩
    intro cc3 s4 ec5 es6 h
    rw [← ec5, ← es6, ex_X9_harm_35] at hq
    refine du_X0_worthOf h ?_
    intro h
    refine ae ?_
    have h := h _ rfl
    refine du_X3_worthOf h ?_
    intro h
    refine ae ?_
    have h := h _ rfl
    refine du_X9_tell h ?_
    intro h
    have q9 := hq _ rfl
    dsimp only at q9
    exact q9 h
  · have h := And.right h c1
    rw [if_pos c1] at hq
    have q9 := hq _ rfl
    dsimp only at q9
    exact q9 h
theorem du_X9_harm {P Q : Int32 → Int32 → (Nat → Int32) → Prop} {tr_fruits : Int32} {tr_x : Nat → Int32} {tr_height : Nat → Int32} {tr_worth : Nat → Int32} {tr_ripe : Nat → Int32} {tr_foot : Nat → Int32} {tr_fork : Nat → Int32} {tr_settings : Nat → Int32} {no_apron : Int32} {no_basket : Int32} {no_ground : Int32} {no_bruised : Int32} {no_ladder : Int32} {no_helper : Int32} {no_today : Int32} {ro_size : Int32} {ro_numbers : Nat → Int32} (h : wp_X9_harm P tr_fruits tr_x tr_height tr_worth tr_ripe tr_foot tr_fork tr_settings no_apron no_basket no_ground no_bruised no_ladder no_helper no_today ro_size ro_numbers) (hq : P (F_X9_harm tr_fruits tr_x tr_height tr_worth tr_ripe tr_foot tr_fork tr_settings no_apron no_basket no_ground no_bruised no_ladder no_helper no_today ro_size ro_numbers).1 (F_X9_harm tr_fruits tr_x tr_height tr_worth tr_ripe tr_foot tr_fork tr_settings no_apron no_basket no_ground no_bruised no_ladder no_helper no_today ro_size ro_numbers).2.1 (F_X9_harm tr_fruits tr_x tr_height tr_worth tr_ripe tr_foot tr_fork tr_settings no_apron no_basket no_ground no_bruised no_ladder no_helper no_today ro_size ro_numbers).2.2 → Q (F_X9_harm tr_fruits tr_x tr_height tr_worth tr_ripe tr_foot tr_fork tr_settings no_apron no_basket no_ground no_bruised no_ladder no_helper no_today ro_size ro_numbers).1 (F_X9_harm tr_fruits tr_x tr_height tr_worth tr_ripe tr_foot tr_fork tr_settings no_apron no_basket no_ground no_bruised no_ladder no_helper no_today ro_size ro_numbers).2.1 (F_X9_harm tr_fruits tr_x tr_height tr_worth tr_ripe tr_foot tr_fork tr_settings no_apron no_basket no_ground no_bruised no_ladder no_helper no_today ro_size ro_numbers).2.2) : wp_X9_harm Q tr_fruits tr_x tr_height tr_worth tr_ripe tr_foot tr_fork tr_settings no_apron no_basket no_ground no_bruised no_ladder no_helper no_today ro_size ro_numbers := dt_X9_harm h (fun o eo => by rw [eo]; exact hq)
theorem dw_X9_harm {Q : Int32 → Int32 → (Nat → Int32) → Prop} {tr_fruits : Int32} {tr_x : Nat → Int32} {tr_height : Nat → Int32} {tr_worth : Nat → Int32} {tr_ripe : Nat → Int32} {tr_foot : Nat → Int32} {tr_fork : Nat → Int32} {tr_settings : Nat → Int32} {no_apron : Int32} {no_basket : Int32} {no_ground : Int32} {no_bruised : Int32} {no_ladder : Int32} {no_helper : Int32} {no_today : Int32} {ro_size : Int32} {ro_numbers : Nat → Int32} (h : wp_X9_harm (fun o0 o1 o2 => (o0, o1, o2) = F_X9_harm tr_fruits tr_x tr_height tr_worth tr_ripe tr_foot tr_fork tr_settings no_apron no_basket no_ground no_bruised no_ladder no_helper no_today ro_size ro_numbers → Q o0 o1 o2) tr_fruits tr_x tr_height tr_worth tr_ripe tr_foot tr_fork tr_settings no_apron no_basket no_ground no_bruised no_ladder no_helper no_today ro_size ro_numbers) : wp_X9_harm Q tr_fruits tr_x tr_height tr_worth tr_ripe tr_foot tr_fork tr_settings no_apron no_basket no_ground no_bruised no_ladder no_helper no_today ro_size ro_numbers := dt_X9_harm h (fun o eo hp => hp eo)
noncomputable def j_X5_loadFirsts_93 {R : Type} (k50 : Int32 → Int32 → Int32 → Int32 → Int32 → (Nat → Int32) → (Nat → Int32) → (Nat → Int32) → R) (pl_wanted : Int32) (pl_near : Nat → Int32) (tr_fruits : Int32) (tr_standings : Int32) (tr_x : Nat → Int32) (tr_height : Nat → Int32) (tr_worth : Nat → Int32) (tr_foot : Nat → Int32) (tr_fork : Nat → Int32) (no_bruised : Int32) (ru_length : Int32) (ru_program : Nat → Int32) (x1 : Int32) (x2 : Int32) (x3 : Int32) (x4 : Int32) (x5 : Int32) (pl_load : Nat → Int32) (ru_given : Nat → Int32) (ru_stack : Nat → Int32) : R := k50 x1 x2 x3 x4 (x5 + 1) pl_load ru_given ru_stack
noncomputable def bd_X5_loadFirsts_50 (pl_wanted : Int32) (pl_near : Nat → Int32) (tr_fruits : Int32) (tr_standings : Int32) (tr_x : Nat → Int32) (tr_height : Nat → Int32) (tr_worth : Nat → Int32) (tr_foot : Nat → Int32) (tr_fork : Nat → Int32) (no_bruised : Int32) (ru_length : Int32) (ru_program : Nat → Int32) (x1 : Int32) (x2 : Int32) (x3 : Int32) (x4 : Int32) (c : Int32) (s : (Nat → Int32) × (Nat → Int32) × (Nat → Int32)) : (Nat → Int32) × (Nat → Int32) × (Nat → Int32) := if ((x4 >>> (c &&& 31)) &&& 1) = 0 then (j_X5_loadFirsts_93 (fun q0 q1 q2 q3 q4 q5 q6 q7 => (q5, q6, q7)) pl_wanted pl_near tr_fruits tr_standings tr_x tr_height tr_worth tr_foot tr_fork no_bruised ru_length ru_program x1 x2 x3 x4 c s.1 s.2.1 s.2.2) else (j_X5_loadFirsts_93 (fun q0 q1 q2 q3 q4 q5 q6 q7 => (q5, q6, q7)) pl_wanted pl_near tr_fruits tr_standings tr_x tr_height tr_worth tr_foot tr_fork no_bruised ru_length ru_program x1 x2 x3 x4 c (upd s.1 x3.toNatClampNeg ((s.1 x3.toNatClampNeg) + (F_X0_pickSeconds c x3 0 0 tr_fruits tr_x tr_height tr_worth tr_foot tr_fork no_bruised ru_length s.2.1 s.2.2 ru_program).1)) ((F_X0_pickSeconds c x3 0 0 tr_fruits tr_x tr_height tr_worth tr_foot tr_fork no_bruised ru_length s.2.1 s.2.2 ru_program).2.1) ((F_X0_pickSeconds c x3 0 0 tr_fruits tr_x tr_height tr_worth tr_foot tr_fork no_bruised ru_length s.2.1 s.2.2 ru_program).2.2))
noncomputable def ex_X5_loadFirsts_50 {R : Type} (k7 : Int32 → Int32 → Int32 → (Nat → Int32) → (Nat → Int32) → (Nat → Int32) → R) (pl_wanted : Int32) (pl_near : Nat → Int32) (tr_fruits : Int32) (tr_standings : Int32) (tr_x : Nat → Int32) (tr_height : Nat → Int32) (tr_worth : Nat → Int32) (tr_foot : Nat → Int32) (tr_fork : Nat → Int32) (no_bruised : Int32) (ru_length : Int32) (ru_program : Nat → Int32) (x1 : Int32) (x2 : Int32) (x3 : Int32) (x4 : Int32) (c : Int32) (s : (Nat → Int32) × (Nat → Int32) × (Nat → Int32)) : R := k7 x1 (x2 &&& (x4 ^^^ (-1))) (x3 + 1) s.1 s.2.1 s.2.2
set_option maxHeartbeats 200000 in
set_option maxRecDepth 10000 in
theorem dl_X5_loadFirsts_50 {P Q : (Nat → Int32) → (Nat → Int32) → (Nat → Int32) → Prop} {K7 L7 : Int32 → Int32 → Int32 → (Nat → Int32) → (Nat → Int32) → (Nat → Int32) → Prop} {pl_wanted : Int32} {pl_near : Nat → Int32} {tr_fruits : Int32} {tr_standings : Int32} {tr_x : Nat → Int32} {tr_height : Nat → Int32} {tr_worth : Nat → Int32} {tr_foot : Nat → Int32} {tr_fork : Nat → Int32} {no_bruised : Int32} {ru_length : Int32} {ru_program : Nat → Int32} {x1 : Int32} {x2 : Int32} {x3 : Int32} {x4 : Int32} {a : (Nat → Int32) × (Nat → Int32) × (Nat → Int32)} {i : Nat} (hi0 : i < 2147483648) (hE : ∀ (c : Int32) (s : (Nat → Int32) × (Nat → Int32) × (Nat → Int32)), c = nI (i + (Int32.toInt tr_fruits - ((i : Nat) : Int)).toNat) → s = itr (bd_X5_loadFirsts_50 pl_wanted pl_near tr_fruits tr_standings tr_x tr_height tr_worth tr_foot tr_fork no_bruised ru_length ru_program x1 x2 x3 x4) a i (Int32.toInt tr_fruits - ((i : Nat) : Int)).toNat → (∀ v_2 : Int32, v_2 = x2 &&& (x4 ^^^ (-1)) → ∀ v_3 : Int32, v_3 = x3 + 1 → K7 x1 v_2 v_3 s.1 s.2.1 s.2.2) → (∀ v_2 : Int32, v_2 = x2 &&& (x4 ^^^ (-1)) → ∀ v_3 : Int32, v_3 = x3 + 1 → L7 x1 v_2 v_3 s.1 s.2.1 s.2.2)) : ∀ (n k : Nat) (c : Int32), c = nI (i + k) → k ≤ (Int32.toInt tr_fruits - ((i : Nat) : Int)).toNat → wb_X5_loadFirsts_50 P K7 pl_wanted pl_near tr_fruits tr_standings tr_x tr_height tr_worth tr_foot tr_fork no_bruised ru_length ru_program n x1 x2 x3 x4 c (itr (bd_X5_loadFirsts_50 pl_wanted pl_near tr_fruits tr_standings tr_x tr_height tr_worth tr_foot tr_fork no_bruised ru_length ru_program x1 x2 x3 x4) a i k).1 (itr (bd_X5_loadFirsts_50 pl_wanted pl_near tr_fruits tr_standings tr_x tr_height tr_worth tr_foot tr_fork no_bruised ru_length ru_program x1 x2 x3 x4) a i k).2.1 (itr (bd_X5_loadFirsts_50 pl_wanted pl_near tr_fruits tr_standings tr_x tr_height tr_worth tr_foot tr_fork no_bruised ru_length ru_program x1 x2 x3 x4) a i k).2.2 → wb_X5_loadFirsts_50 Q L7 pl_wanted pl_near tr_fruits tr_standings tr_x tr_height tr_worth tr_foot tr_fork no_bruised ru_length ru_program n x1 x2 x3 x4 c (itr (bd_X5_loadFirsts_50 pl_wanted pl_near tr_fruits tr_standings tr_x tr_height tr_worth tr_foot tr_fork no_bruised ru_length ru_program x1 x2 x3 x4) a i k).1 (itr (bd_X5_loadFirsts_50 pl_wanted pl_near tr_fruits tr_standings tr_x tr_height tr_worth tr_foot tr_fork no_bruised ru_length ru_program x1 x2 x3 x4) a i k).2.1 (itr (bd_X5_loadFirsts_50 pl_wanted pl_near tr_fruits tr_standings tr_x tr_height tr_worth tr_foot tr_fork no_bruised ru_length ru_program x1 x2 x3 x4) a i k).2.2 := by
  intro n
  induction n with
  | zero => intro k c hc hk h; exact False.elim h
  | succ n ih =>
    intro k c hc hk h
    have hr := tp_r tr_fruits
    have hi : Int32.toInt c = ((i + k : Nat) : Int) := by rw [hc]; exact nI_toInt (by omega)
    refine And.intro (fun t0 => ?_) (fun t0 => ?_)
    · have h := And.left h t0
      have t1 := (fa_le _ _).mp t0
      have hk2 : k = (Int32.toInt tr_fruits - ((i : Nat) : Int)).toNat := by omega
      subst hk2
      exact hE _ _ hc rfl h
    · have h := And.right h t0
      have t1 := mt (fa_le _ _).mpr t0
      have hs : ∀ o : (Nat → Int32) × (Nat → Int32) × (Nat → Int32), o = itr (bd_X5_loadFirsts_50 pl_wanted pl_near tr_fruits tr_standings tr_x tr_height tr_worth tr_foot tr_fork no_bruised ru_length ru_program x1 x2 x3 x4) a i (k + 1) → wb_X5_loadFirsts_50 P K7 pl_wanted pl_near tr_fruits tr_standings tr_x tr_height tr_worth tr_foot tr_fork no_bruised ru_length ru_program n x1 x2 x3 x4 (c + 1) o.1 o.2.1 o.2.2 → wb_X5_loadFirsts_50 Q L7 pl_wanted pl_near tr_fruits tr_standings tr_x tr_height tr_worth tr_foot tr_fork no_bruised ru_length ru_program n x1 x2 x3 x4 (c + 1) o.1 o.2.1 o.2.2 := by
        intro o eo h9
        have q := ih (k + 1) (c + 1) (by rw [hc]; exact nI_1 _) (by omega)
        rw [← eo] at q
        exact q h9
      rw [itr_s, ← hc, bd_X5_loadFirsts_50] at hs
      refine ae ?_
      have h := h _ rfl
      refine And.intro (fun c1 => ?_) (fun c1 => ?_)
      · have h := And.left h c1
        rw [if_pos c1] at hs
        rw [j_X5_loadFirsts_93] at hs
        unfold ws_X5_loadFirsts_93 at h ⊢
        refine ae ?_
        have h := h _ rfl
        have q9 := hs _ rfl
        dsimp only at q9
        exact q9 h
      · have h := And.right h c1
        rw [if_neg c1] at hs
        refine And.intro (And.left h) ?_
        have h := And.right h
        refine ae ?_
        have h := h _ rfl
        refine du_X0_pickSeconds h ?_
        intro h
        refine ae ?_
        have h := h _ rfl
        refine And.intro (And.left h) ?_
        have h := And.right h
        rw [j_X5_loadFirsts_93] at hs
        unfold ws_X5_loadFirsts_93 at h ⊢
        refine ae ?_
        have h := h _ rfl
        have q9 := hs _ rfl
        dsimp only at q9
        exact q9 h
noncomputable def j_X5_loadFirsts_45 {R : Type} (k7 : Int32 → Int32 → Int32 → (Nat → Int32) → (Nat → Int32) → (Nat → Int32) → R) (pl_wanted : Int32) (pl_near : Nat → Int32) (tr_fruits : Int32) (tr_standings : Int32) (tr_x : Nat → Int32) (tr_height : Nat → Int32) (tr_worth : Nat → Int32) (tr_foot : Nat → Int32) (tr_fork : Nat → Int32) (no_bruised : Int32) (ru_length : Int32) (ru_program : Nat → Int32) (x1 : Int32) (x2 : Int32) (x3 : Int32) (k0 : Int32) (pl_load : Nat → Int32) (ru_given : Nat → Int32) (ru_stack : Nat → Int32) : R := ex_X5_loadFirsts_50 k7 pl_wanted pl_near tr_fruits tr_standings tr_x tr_height tr_worth tr_foot tr_fork no_bruised ru_length ru_program x1 x2 x3 k0 (nI (0 + (Int32.toInt tr_fruits - ((0 : Nat) : Int)).toNat)) (itr (bd_X5_loadFirsts_50 pl_wanted pl_near tr_fruits tr_standings tr_x tr_height tr_worth tr_foot tr_fork no_bruised ru_length ru_program x1 x2 x3 k0) (pl_load, ru_given, ru_stack) 0 (Int32.toInt tr_fruits - ((0 : Nat) : Int)).toNat)
noncomputable def bd_X5_loadFirsts_7 (pl_wanted : Int32) (pl_near : Nat → Int32) (tr_fruits : Int32) (tr_standings : Int32) (tr_x : Nat → Int32) (tr_height : Nat → Int32) (tr_worth : Nat → Int32) (tr_foot : Nat → Int32) (tr_fork : Nat → Int32) (no_bruised : Int32) (ru_length : Int32) (ru_program : Nat → Int32) (x1 : Int32) (c : Int32) (s : Int32 × (Nat → Int32) × (Nat → Int32) × (Nat → Int32)) : Int32 × (Nat → Int32) × (Nat → Int32) × (Nat → Int32) := if ((x1 >>> (c &&& 31)) &&& 1) = 0 then (j_X5_loadFirsts_45 (fun q0 q1 q2 q3 q4 q5 => (q1, q3, q4, q5)) pl_wanted pl_near tr_fruits tr_standings tr_x tr_height tr_worth tr_foot tr_fork no_bruised ru_length ru_program x1 s.1 c 0 (upd s.2.1 c.toNatClampNeg 0) s.2.2.1 s.2.2.2) else (j_X5_loadFirsts_45 (fun q0 q1 q2 q3 q4 q5 => (q1, q3, q4, q5)) pl_wanted pl_near tr_fruits tr_standings tr_x tr_height tr_worth tr_foot tr_fork no_bruised ru_length ru_program x1 s.1 c (s.1 &&& (pl_near c.toNatClampNeg)) (upd s.2.1 c.toNatClampNeg 0) s.2.2.1 s.2.2.2)
noncomputable def ex_X5_loadFirsts_7 {R : Type} (po : (Nat → Int32) → (Nat → Int32) → (Nat → Int32) → R) (pl_wanted : Int32) (pl_near : Nat → Int32) (tr_fruits : Int32) (tr_standings : Int32) (tr_x : Nat → Int32) (tr_height : Nat → Int32) (tr_worth : Nat → Int32) (tr_foot : Nat → Int32) (tr_fork : Nat → Int32) (no_bruised : Int32) (ru_length : Int32) (ru_program : Nat → Int32) (x1 : Int32) (c : Int32) (s : Int32 × (Nat → Int32) × (Nat → Int32) × (Nat → Int32)) : R := po s.2.1 s.2.2.1 s.2.2.2
set_option maxHeartbeats 200000 in
set_option maxRecDepth 10000 in
theorem dl_X5_loadFirsts_7 {P Q : (Nat → Int32) → (Nat → Int32) → (Nat → Int32) → Prop} {pl_wanted : Int32} {pl_near : Nat → Int32} {tr_fruits : Int32} {tr_standings : Int32} {tr_x : Nat → Int32} {tr_height : Nat → Int32} {tr_worth : Nat → Int32} {tr_foot : Nat → Int32} {tr_fork : Nat → Int32} {no_bruised : Int32} {ru_length : Int32} {ru_program : Nat → Int32} {x1 : Int32} {a : Int32 × (Nat → Int32) × (Nat → Int32) × (Nat → Int32)} {i : Nat} (hi0 : i < 2147483648) (hE : ∀ (c : Int32) (s : Int32 × (Nat → Int32) × (Nat → Int32) × (Nat → Int32)), c = nI (i + (Int32.toInt tr_standings - ((i : Nat) : Int)).toNat) → s = itr (bd_X5_loadFirsts_7 pl_wanted pl_near tr_fruits tr_standings tr_x tr_height tr_worth tr_foot tr_fork no_bruised ru_length ru_program x1) a i (Int32.toInt tr_standings - ((i : Nat) : Int)).toNat → (P s.2.1 s.2.2.1 s.2.2.2) → (Q s.2.1 s.2.2.1 s.2.2.2)) : ∀ (n k : Nat) (c : Int32), c = nI (i + k) → k ≤ (Int32.toInt tr_standings - ((i : Nat) : Int)).toNat → wb_X5_loadFirsts_7 P pl_wanted pl_near tr_fruits tr_standings tr_x tr_height tr_worth tr_foot tr_fork no_bruised ru_length ru_program n x1 (itr (bd_X5_loadFirsts_7 pl_wanted pl_near tr_fruits tr_standings tr_x tr_height tr_worth tr_foot tr_fork no_bruised ru_length ru_program x1) a i k).1 c (itr (bd_X5_loadFirsts_7 pl_wanted pl_near tr_fruits tr_standings tr_x tr_height tr_worth tr_foot tr_fork no_bruised ru_length ru_program x1) a i k).2.1 (itr (bd_X5_loadFirsts_7 pl_wanted pl_near tr_fruits tr_standings tr_x tr_height tr_worth tr_foot tr_fork no_bruised ru_length ru_program x1) a i k).2.2.1 (itr (bd_X5_loadFirsts_7 pl_wanted pl_near tr_fruits tr_standings tr_x tr_height tr_worth tr_foot tr_fork no_bruised ru_length ru_program x1) a i k).2.2.2 → wb_X5_loadFirsts_7 Q pl_wanted pl_near tr_fruits tr_standings tr_x tr_height tr_worth tr_foot tr_fork no_bruised ru_length ru_program n x1 (itr (bd_X5_loadFirsts_7 pl_wanted pl_near tr_fruits tr_standings tr_x tr_height tr_worth tr_foot tr_fork no_bruised ru_length ru_program x1) a i k).1 c (itr (bd_X5_loadFirsts_7 pl_wanted pl_near tr_fruits tr_standings tr_x tr_height tr_worth tr_foot tr_fork no_bruised ru_length ru_program x1) a i k).2.1 (itr (bd_X5_loadFirsts_7 pl_wanted pl_near tr_fruits tr_standings tr_x tr_height tr_worth tr_foot tr_fork no_bruised ru_length ru_program x1) a i k).2.2.1 (itr (bd_X5_loadFirsts_7 pl_wanted pl_near tr_fruits tr_standings tr_x tr_height tr_worth tr_foot tr_fork no_bruised ru_length ru_program x1) a i k).2.2.2 := by
  intro n
  induction n with
  | zero => intro k c hc hk h; exact False.elim h
  | succ n ih =>
    intro k c hc hk h
    have hr := tp_r tr_standings
    have hi : Int32.toInt c = ((i + k : Nat) : Int) := by rw [hc]; exact nI_toInt (by omega)
    refine And.intro (fun t0 => ?_) (fun t0 => ?_)
    · have h := And.left h t0
      have t1 := (fa_le _ _).mp t0
      have hk2 : k = (Int32.toInt tr_standings - ((i : Nat) : Int)).toNat := by omega
      subst hk2
      exact hE _ _ hc rfl h
    · have h := And.right h t0
      have t1 := mt (fa_le _ _).mpr t0
      have hs : ∀ o : Int32 × (Nat → Int32) × (Nat → Int32) × (Nat → Int32), o = itr (bd_X5_loadFirsts_7 pl_wanted pl_near tr_fruits tr_standings tr_x tr_height tr_worth tr_foot tr_fork no_bruised ru_length ru_program x1) a i (k + 1) → wb_X5_loadFirsts_7 P pl_wanted pl_near tr_fruits tr_standings tr_x tr_height tr_worth tr_foot tr_fork no_bruised ru_length ru_program n x1 o.1 (c + 1) o.2.1 o.2.2.1 o.2.2.2 → wb_X5_loadFirsts_7 Q pl_wanted pl_near tr_fruits tr_standings tr_x tr_height tr_worth tr_foot tr_fork no_bruised ru_length ru_program n x1 o.1 (c + 1) o.2.1 o.2.2.1 o.2.2.2 := by
        intro o eo h9
        have q := ih (k + 1) (c + 1) (by rw [hc]; exact nI_1 _) (by omega)
        rw [← eo] at q
        exact q h9
      rw [itr_s, ← hc, bd_X5_loadFirsts_7] at hs
      refine And.intro (And.left h) ?_
      have h := And.right h
      refine ae ?_
      have h := h _ rfl
      refine And.intro (fun c1 => ?_) (fun c1 => ?_)
      · have h := And.left h c1
        rw [if_pos c1] at hs
        rw [j_X5_loadFirsts_45] at hs
        unfold ws_X5_loadFirsts_45 at h ⊢
        obtain ⟨n2, h⟩ := h
        refine ⟨n2, dl_X5_loadFirsts_50 (a := ((upd (itr (bd_X5_loadFirsts_7 pl_wanted pl_near tr_fruits tr_standings tr_x tr_height tr_worth tr_foot tr_fork no_bruised ru_length ru_program x1) a i k).2.1 c.toNatClampNeg 0), ((itr (bd_X5_loadFirsts_7 pl_wanted pl_near tr_fruits tr_standings tr_x tr_height tr_worth tr_foot tr_fork no_bruised ru_length ru_program x1) a i k).2.2.1), ((itr (bd_X5_loadFirsts_7 pl_wanted pl_near tr_fruits tr_standings tr_x tr_height tr_worth tr_foot tr_fork no_bruised ru_length ru_program x1) a i k).2.2.2))) (i := 0) (by decide) ?_ n2 0 0 (by decide) (Nat.zero_le _) h⟩
        intro cc3 s4 ec5 es6 h
        rw [← ec5, ← es6, ex_X5_loadFirsts_50] at hs
        refine ae ?_
        have h := h _ rfl
        refine ae ?_
        have h := h _ rfl
        have q9 := hs _ rfl
        dsimp only at q9
        exact q9 h
      · have h := And.right h c1
        rw [if_neg c1] at hs
        refine And.intro (And.left h) ?_
        have h := And.right h
        refine ae ?_
        have h := h _ rfl
        rw [j_X5_loadFirsts_45] at hs
        unfold ws_X5_loadFirsts_45 at h ⊢
        obtain ⟨n7, h⟩ := h
        refine ⟨n7, dl_X5_loadFirsts_50 (a := ((upd (itr (bd_X5_loadFirsts_7 pl_wanted pl_near tr_fruits tr_standings tr_x tr_height tr_worth tr_foot tr_fork no_bruised ru_length ru_program x1) a i k).2.1 c.toNatClampNeg 0), ((itr (bd_X5_loadFirsts_7 pl_wanted pl_near tr_fruits tr_standings tr_x tr_height tr_worth tr_foot tr_fork no_bruised ru_length ru_program x1) a i k).2.2.1), ((itr (bd_X5_loadFirsts_7 pl_wanted pl_near tr_fruits tr_standings tr_x tr_height tr_worth tr_foot tr_fork no_bruised ru_length ru_program x1) a i k).2.2.2))) (i := 0) (by decide) ?_ n7 0 0 (by decide) (Nat.zero_le _) h⟩
        intro cc8 s9 ec10 es11 h
        rw [← ec10, ← es11, ex_X5_loadFirsts_50] at hs
        refine ae ?_
        have h := h _ rfl
        refine ae ?_
        have h := h _ rfl
        have q9 := hs _ rfl
        dsimp only at q9
        exact q9 h
noncomputable def F_X5_loadFirsts (p0 : Int32) (pl_wanted : Int32) (pl_near : Nat → Int32) (pl_load : Nat → Int32) (tr_fruits : Int32) (tr_standings : Int32) (tr_x : Nat → Int32) (tr_height : Nat → Int32) (tr_worth : Nat → Int32) (tr_foot : Nat → Int32) (tr_fork : Nat → Int32) (no_bruised : Int32) (ru_length : Int32) (ru_given : Nat → Int32) (ru_stack : Nat → Int32) (ru_program : Nat → Int32) : (Nat → Int32) × (Nat → Int32) × (Nat → Int32) := ex_X5_loadFirsts_7 (fun o0 o1 o2 => (o0, o1, o2)) pl_wanted pl_near tr_fruits tr_standings tr_x tr_height tr_worth tr_foot tr_fork no_bruised ru_length ru_program p0 (nI (0 + (Int32.toInt tr_standings - ((0 : Nat) : Int)).toNat)) (itr (bd_X5_loadFirsts_7 pl_wanted pl_near tr_fruits tr_standings tr_x tr_height tr_worth tr_foot tr_fork no_bruised ru_length ru_program p0) (pl_wanted, pl_load, ru_given, ru_stack) 0 (Int32.toInt tr_standings - ((0 : Nat) : Int)).toNat)
set_option maxHeartbeats 200000 in
set_option maxRecDepth 10000 in
theorem dt_X5_loadFirsts {P Q : (Nat → Int32) → (Nat → Int32) → (Nat → Int32) → Prop} {p0 : Int32} {pl_wanted : Int32} {pl_near : Nat → Int32} {pl_load : Nat → Int32} {tr_fruits : Int32} {tr_standings : Int32} {tr_x : Nat → Int32} {tr_height : Nat → Int32} {tr_worth : Nat → Int32} {tr_foot : Nat → Int32} {tr_fork : Nat → Int32} {no_bruised : Int32} {ru_length : Int32} {ru_given : Nat → Int32} {ru_stack : Nat → Int32} {ru_program : Nat → Int32} (h : wp_X5_loadFirsts P p0 pl_wanted pl_near pl_load tr_fruits tr_standings tr_x tr_height tr_worth tr_foot tr_fork no_bruised ru_length ru_given ru_stack ru_program) (hq : ∀ o : (Nat → Int32) × (Nat → Int32) × (Nat → Int32), o = F_X5_loadFirsts p0 pl_wanted pl_near pl_load tr_fruits tr_standings tr_x tr_height tr_worth tr_foot tr_fork no_bruised ru_length ru_given ru_stack ru_program → P o.1 o.2.1 o.2.2 → Q o.1 o.2.1 o.2.2) : wp_X5_loadFirsts Q p0 pl_wanted pl_near pl_load tr_fruits tr_standings tr_x tr_height tr_worth tr_foot tr_fork no_bruised ru_length ru_given ru_stack ru_program := by
  rw [F_X5_loadFirsts] at hq
  obtain ⟨n1, h⟩ := h
  refine ⟨n1, dl_X5_loadFirsts_7 (a := (pl_wanted, pl_load, ru_given, ru_stack)) (i := 0) (by decide) ?_ n1 0 0 (by decide) (Nat.zero_le _) h⟩
  intro cc2 s3 ec4 es5 h
  rw [← ec4, ← es5, ex_X5_loadFirsts_7] at hq
  have q9 := hq _ rfl
  dsimp only at q9
  exact q9 h
theorem du_X5_loadFirsts {P Q : (Nat → Int32) → (Nat → Int32) → (Nat → Int32) → Prop} {p0 : Int32} {pl_wanted : Int32} {pl_near : Nat → Int32} {pl_load : Nat → Int32} {tr_fruits : Int32} {tr_standings : Int32} {tr_x : Nat → Int32} {tr_height : Nat → Int32} {tr_worth : Nat → Int32} {tr_foot : Nat → Int32} {tr_fork : Nat → Int32} {no_bruised : Int32} {ru_length : Int32} {ru_given : Nat → Int32} {ru_stack : Nat → Int32} {ru_program : Nat → Int32} (h : wp_X5_loadFirsts P p0 pl_wanted pl_near pl_load tr_fruits tr_standings tr_x tr_height tr_worth tr_foot tr_fork no_bruised ru_length ru_given ru_stack ru_program) (hq : P (F_X5_loadFirsts p0 pl_wanted pl_near pl_load tr_fruits tr_standings tr_x tr_height tr_worth tr_foot tr_fork no_bruised ru_length ru_given ru_stack ru_program).1 (F_X5_loadFirsts p0 pl_wanted pl_near pl_load tr_fruits tr_standings tr_x tr_height tr_worth tr_foot tr_fork no_bruised ru_length ru_given ru_stack ru_program).2.1 (F_X5_loadFirsts p0 pl_wanted pl_near pl_load tr_fruits tr_standings tr_x tr_height tr_worth tr_foot tr_fork no_bruised ru_length ru_given ru_stack ru_program).2.2 → Q (F_X5_loadFirsts p0 pl_wanted pl_near pl_load tr_fruits tr_standings tr_x tr_height tr_worth tr_foot tr_fork no_bruised ru_length ru_given ru_stack ru_program).1 (F_X5_loadFirsts p0 pl_wanted pl_near pl_load tr_fruits tr_standings tr_x tr_height tr_worth tr_foot tr_fork no_bruised ru_length ru_given ru_stack ru_program).2.1 (F_X5_loadFirsts p0 pl_wanted pl_near pl_load tr_fruits tr_standings tr_x tr_height tr_worth tr_foot tr_fork no_bruised ru_length ru_given ru_stack ru_program).2.2) : wp_X5_loadFirsts Q p0 pl_wanted pl_near pl_load tr_fruits tr_standings tr_x tr_height tr_worth tr_foot tr_fork no_bruised ru_length ru_given ru_stack ru_program := dt_X5_loadFirsts h (fun o eo => by rw [eo]; exact hq)
noncomputable def j_X5_loadOf_32 {R : Type} (k4 : Int32 → Int32 → Int32 → R) (pl_load : Nat → Int32) (tr_standings : Int32) (x1 : Int32) (x2 : Int32) (x3 : Int32) : R := k4 x1 x2 (x3 + 1)
noncomputable def bd_X5_loadOf_4 (pl_load : Nat → Int32) (tr_standings : Int32) (x1 : Int32) (c : Int32) (s : Int32) : Int32 := if ((x1 >>> (c &&& 31)) &&& 1) = 0 then (j_X5_loadOf_32 (fun q0 q1 q2 => q1) pl_load tr_standings x1 s c) else (j_X5_loadOf_32 (fun q0 q1 q2 => q1) pl_load tr_standings x1 (s + (pl_load c.toNatClampNeg)) c)
noncomputable def ex_X5_loadOf_4 {R : Type} (po : Int32 → R) (pl_load : Nat → Int32) (tr_standings : Int32) (x1 : Int32) (c : Int32) (s : Int32) : R := po s
set_option maxHeartbeats 200000 in
set_option maxRecDepth 10000 in
theorem dl_X5_loadOf_4 {P Q : Int32 → Prop} {pl_load : Nat → Int32} {tr_standings : Int32} {x1 : Int32} {a : Int32} {i : Nat} (hi0 : i < 2147483648) (hE : ∀ (c : Int32) (s : Int32), c = nI (i + (Int32.toInt tr_standings - ((i : Nat) : Int)).toNat) → s = itr (bd_X5_loadOf_4 pl_load tr_standings x1) a i (Int32.toInt tr_standings - ((i : Nat) : Int)).toNat → (P s) → (Q s)) : ∀ (n k : Nat) (c : Int32), c = nI (i + k) → k ≤ (Int32.toInt tr_standings - ((i : Nat) : Int)).toNat → wb_X5_loadOf_4 P pl_load tr_standings n x1 (itr (bd_X5_loadOf_4 pl_load tr_standings x1) a i k) c → wb_X5_loadOf_4 Q pl_load tr_standings n x1 (itr (bd_X5_loadOf_4 pl_load tr_standings x1) a i k) c := by
  intro n
  induction n with
  | zero => intro k c hc hk h; exact False.elim h
  | succ n ih =>
    intro k c hc hk h
    have hr := tp_r tr_standings
    have hi : Int32.toInt c = ((i + k : Nat) : Int) := by rw [hc]; exact nI_toInt (by omega)
    refine And.intro (fun t0 => ?_) (fun t0 => ?_)
    · have h := And.left h t0
      have t1 := (fa_le _ _).mp t0
      have hk2 : k = (Int32.toInt tr_standings - ((i : Nat) : Int)).toNat := by omega
      subst hk2
      exact hE _ _ hc rfl h
    · have h := And.right h t0
      have t1 := mt (fa_le _ _).mpr t0
      have hs : ∀ o : Int32, o = itr (bd_X5_loadOf_4 pl_load tr_standings x1) a i (k + 1) → wb_X5_loadOf_4 P pl_load tr_standings n x1 o (c + 1) → wb_X5_loadOf_4 Q pl_load tr_standings n x1 o (c + 1) := by
        intro o eo h9
        have q := ih (k + 1) (c + 1) (by rw [hc]; exact nI_1 _) (by omega)
        rw [← eo] at q
        exact q h9
      rw [itr_s, ← hc, bd_X5_loadOf_4] at hs
      refine ae ?_
      have h := h _ rfl
      refine And.intro (fun c1 => ?_) (fun c1 => ?_)
      · have h := And.left h c1
        rw [if_pos c1] at hs
        rw [j_X5_loadOf_32] at hs
        unfold ws_X5_loadOf_32 at h ⊢
        refine ae ?_
        have h := h _ rfl
        have q9 := hs _ rfl
        exact q9 h
      · have h := And.right h c1
        rw [if_neg c1] at hs
        refine And.intro (And.left h) ?_
        have h := And.right h
        refine ae ?_
        have h := h _ rfl
        rw [j_X5_loadOf_32] at hs
        unfold ws_X5_loadOf_32 at h ⊢
        refine ae ?_
        have h := h _ rfl
        have q9 := hs _ rfl
        exact q9 h
noncomputable def F_X5_loadOf (p0 : Int32) (pl_load : Nat → Int32) (tr_standings : Int32) : Int32 := ex_X5_loadOf_4 (fun o0 => o0) pl_load tr_standings p0 (nI (0 + (Int32.toInt tr_standings - ((0 : Nat) : Int)).toNat)) (itr (bd_X5_loadOf_4 pl_load tr_standings p0) 0 0 (Int32.toInt tr_standings - ((0 : Nat) : Int)).toNat)
set_option maxHeartbeats 200000 in
set_option maxRecDepth 10000 in
theorem dt_X5_loadOf {P Q : Int32 → Prop} {p0 : Int32} {pl_load : Nat → Int32} {tr_standings : Int32} (h : wp_X5_loadOf P p0 pl_load tr_standings) (hq : ∀ o : Int32, o = F_X5_loadOf p0 pl_load tr_standings → P o → Q o) : wp_X5_loadOf Q p0 pl_load tr_standings := by
  rw [F_X5_loadOf] at hq
  obtain ⟨n1, h⟩ := h
  refine ⟨n1, dl_X5_loadOf_4 (a := 0) (i := 0) (by decide) ?_ n1 0 0 (by decide) (Nat.zero_le _) h⟩
  intro cc2 s3 ec4 es5 h
  rw [← ec4, ← es5, ex_X5_loadOf_4] at hq
  have q9 := hq _ rfl
  exact q9 h
theorem du_X5_loadOf {P Q : Int32 → Prop} {p0 : Int32} {pl_load : Nat → Int32} {tr_standings : Int32} (h : wp_X5_loadOf P p0 pl_load tr_standings) (hq : P (F_X5_loadOf p0 pl_load tr_standings) → Q (F_X5_loadOf p0 pl_load tr_standings)) : wp_X5_loadOf Q p0 pl_load tr_standings := dt_X5_loadOf h (fun o eo => by rw [eo]; exact hq)
noncomputable def j_X9_share_96 {R : Type} (k45 : Int32 → Int32 → Int32 → Int32 → Int32 → Int32 → (Nat → Int32) → (Nat → Int32) → (Nat → Int32) → (Nat → Int32) → Int32 → (Nat → Int32) → R) (tr_fruits : Int32) (tr_standings : Int32) (tr_x : Nat → Int32) (tr_height : Nat → Int32) (tr_worth : Nat → Int32) (tr_ripe : Nat → Int32) (tr_foot : Nat → Int32) (tr_fork : Nat → Int32) (tr_settings : Nat → Int32) (no_apron : Int32) (no_basket : Int32) (no_ground : Int32) (no_bruised : Int32) (no_helper : Int32) (no_today : Int32) (ru_length : Int32) (ru_program : Nat → Int32) (x1 : Int32) (x2 : Int32) (x3 : Int32) (x4 : Int32) (x5 : Int32) (pl_wanted : Int32) (pl_near : Nat → Int32) (pl_load : Nat → Int32) (ru_given : Nat → Int32) (ru_stack : Nat → Int32) (ro_size : Int32) (ro_numbers : Nat → Int32) : R := k45 x1 x2 x3 x4 (x5 + 1) pl_wanted pl_near pl_load ru_given ru_stack ro_size ro_numbers
noncomputable def bd_X9_share_45 (tr_fruits : Int32) (tr_standings : Int32) (tr_x : Nat → Int32) (tr_height : Nat → Int32) (tr_worth : Nat → Int32) (tr_ripe : Nat → Int32) (tr_foot : Nat → Int32) (tr_fork : Nat → Int32) (tr_settings : Nat → Int32) (no_apron : Int32) (no_basket : Int32) (no_ground : Int32) (no_bruised : Int32) (no_helper : Int32) (no_today : Int32) (ru_length : Int32) (ru_program : Nat → Int32) (x1 : Int32) (x2 : Int32) (pl_wanted : Int32) (pl_near : Nat → Int32) (pl_load : Nat → Int32) (ru_given : Nat → Int32) (ru_stack : Nat → Int32) (ro_size : Int32) (ro_numbers : Nat → Int32) (c : Int32) (s : Int32 × Int32) : Int32 × Int32 := if (c &&& (x1 ^^^ (-1))) = 0 then (if s.2 ≤ (if (F_X5_loadOf c pl_load tr_standings) < (x2 - (F_X5_loadOf c pl_load tr_standings)) then (x2 - (F_X5_loadOf c pl_load tr_standings)) else (F_X5_loadOf c pl_load tr_standings)) then (j_X9_share_96 (fun q0 q1 q2 q3 q4 q5 q6 q7 q8 q9 q10 q11 => (q2, q3)) tr_fruits tr_standings tr_x tr_height tr_worth tr_ripe tr_foot tr_fork tr_settings no_apron no_basket no_ground no_bruised no_helper no_today ru_length ru_program x1 x2 s.1 s.2 c pl_wanted pl_near pl_load ru_given ru_stack ro_size ro_numbers) else (j_X9_share_96 (fun q0 q1 q2 q3 q4 q5 q6 q7 q8 q9 q10 q11 => (q2, q3)) tr_fruits tr_standings tr_x tr_height tr_worth tr_ripe tr_foot tr_fork tr_settings no_apron no_basket no_ground no_bruised no_helper no_today ru_length ru_program x1 x2 c (if (F_X5_loadOf c pl_load tr_standings) < (x2 - (F_X5_loadOf c pl_load tr_standings)) then (x2 - (F_X5_loadOf c pl_load tr_standings)) else (F_X5_loadOf c pl_load tr_standings)) c pl_wanted pl_near pl_load ru_given ru_stack ro_size ro_numbers)) else (j_X9_share_96 (fun q0 q1 q2 q3 q4 q5 q6 q7 q8 q9 q10 q11 => (q2, q3)) tr_fruits tr_standings tr_x tr_height tr_worth tr_ripe tr_foot tr_fork tr_settings no_apron no_basket no_ground no_bruised no_helper no_today ru_length ru_program x1 x2 s.1 s.2 c pl_wanted pl_near pl_load ru_given ru_stack ro_size ro_numbers)
noncomputable def ex_X9_share_45 {R : Type} (po : Int32 → Int32 → (Nat → Int32) → (Nat → Int32) → (Nat → Int32) → (Nat → Int32) → Int32 → (Nat → Int32) → R) (tr_fruits : Int32) (tr_standings : Int32) (tr_x : Nat → Int32) (tr_height : Nat → Int32) (tr_worth : Nat → Int32) (tr_ripe : Nat → Int32) (tr_foot : Nat → Int32) (tr_fork : Nat → Int32) (tr_settings : Nat → Int32) (no_apron : Int32) (no_basket : Int32) (no_ground : Int32) (no_bruised : Int32) (no_helper : Int32) (no_today : Int32) (ru_length : Int32) (ru_program : Nat → Int32) (x1 : Int32) (x2 : Int32) (pl_wanted : Int32) (pl_near : Nat → Int32) (pl_load : Nat → Int32) (ru_given : Nat → Int32) (ru_stack : Nat → Int32) (ro_size : Int32) (ro_numbers : Nat → Int32) (c : Int32) (s : Int32 × Int32) : R := po s.2 pl_wanted pl_near pl_load ru_given ru_stack ((F_X9_tell_ s.1 (x2 - (F_X5_loadOf s.1 pl_load tr_standings)) ro_size ro_numbers).1) ((F_X9_tell_ s.1 (x2 - (F_X5_loadOf s.1 pl_load tr_standings)) ro_size ro_numbers).2)
set_option maxHeartbeats 200000 in
set_option maxRecDepth 10000 in
theorem dl_X9_share_45 {P Q : Int32 → Int32 → (Nat → Int32) → (Nat → Int32) → (Nat → Int32) → (Nat → Int32) → Int32 → (Nat → Int32) → Prop} {tr_fruits : Int32} {tr_standings : Int32} {tr_x : Nat → Int32} {tr_height : Nat → Int32} {tr_worth : Nat → Int32} {tr_ripe : Nat → Int32} {tr_foot : Nat → Int32} {tr_fork : Nat → Int32} {tr_settings : Nat → Int32} {no_apron : Int32} {no_basket : Int32} {no_ground : Int32} {no_bruised : Int32} {no_helper : Int32} {no_today : Int32} {ru_length : Int32} {ru_program : Nat → Int32} {x1 : Int32} {x2 : Int32} {pl_wanted : Int32} {pl_near : Nat → Int32} {pl_load : Nat → Int32} {ru_given : Nat → Int32} {ru_stack : Nat → Int32} {ro_size : Int32} {ro_numbers : Nat → Int32} {a : Int32 × Int32} {i : Nat} (hi0 : i < 2147483648) (hz0 : Int32.toInt x1 < 2147483647) (hE : ∀ (c : Int32) (s : Int32 × Int32), c = nI (i + (Int32.toInt x1 + 1 - ((i : Nat) : Int)).toNat) → s = itr (bd_X9_share_45 tr_fruits tr_standings tr_x tr_height tr_worth tr_ripe tr_foot tr_fork tr_settings no_apron no_basket no_ground no_bruised no_helper no_today ru_length ru_program x1 x2 pl_wanted pl_near pl_load ru_given ru_stack ro_size ro_numbers) a i (Int32.toInt x1 + 1 - ((i : Nat) : Int)).toNat → (wp_X5_loadOf (fun r_8 => ∀ v_9 : Int32, v_9 = x2 - r_8 → wp_X9_tell_ (fun ro_size_10 ro_numbers_11 => P s.2 pl_wanted pl_near pl_load ru_given ru_stack ro_size_10 ro_numbers_11) s.1 v_9 ro_size ro_numbers) s.1 pl_load tr_standings) → (wp_X5_loadOf (fun r_8 => ∀ v_9 : Int32, v_9 = x2 - r_8 → wp_X9_tell_ (fun ro_size_10 ro_numbers_11 => Q s.2 pl_wanted pl_near pl_load ru_given ru_stack ro_size_10 ro_numbers_11) s.1 v_9 ro_size ro_numbers) s.1 pl_load tr_standings)) : ∀ (n k : Nat) (c : Int32), c = nI (i + k) → k ≤ (Int32.toInt x1 + 1 - ((i : Nat) : Int)).toNat → wb_X9_share_45 P tr_fruits tr_standings tr_x tr_height tr_worth tr_ripe tr_foot tr_fork tr_settings no_apron no_basket no_ground no_bruised no_helper no_today ru_length ru_program n x1 x2 (itr (bd_X9_share_45 tr_fruits tr_standings tr_x tr_height tr_worth tr_ripe tr_foot tr_fork tr_settings no_apron no_basket no_ground no_bruised no_helper no_today ru_length ru_program x1 x2 pl_wanted pl_near pl_load ru_given ru_stack ro_size ro_numbers) a i k).1 (itr (bd_X9_share_45 tr_fruits tr_standings tr_x tr_height tr_worth tr_ripe tr_foot tr_fork tr_settings no_apron no_basket no_ground no_bruised no_helper no_today ru_length ru_program x1 x2 pl_wanted pl_near pl_load ru_given ru_stack ro_size ro_numbers) a i k).2 c pl_wanted pl_near pl_load ru_given ru_stack ro_size ro_numbers → wb_X9_share_45 Q tr_fruits tr_standings tr_x tr_height tr_worth tr_ripe tr_foot tr_fork tr_settings no_apron no_basket no_ground no_bruised no_helper no_today ru_length ru_program n x1 x2 (itr (bd_X9_share_45 tr_fruits tr_standings tr_x tr_height tr_worth tr_ripe tr_foot tr_fork tr_settings no_apron no_basket no_ground no_bruised no_helper no_today ru_length ru_program x1 x2 pl_wanted pl_near pl_load ru_given ru_stack ro_size ro_numbers) a i k).1 (itr (bd_X9_share_45 tr_fruits tr_standings tr_x tr_height tr_worth tr_ripe tr_foot tr_fork tr_settings no_apron no_basket no_ground no_bruised no_helper no_today ru_length ru_program x1 x2 pl_wanted pl_near pl_load ru_given ru_stack ro_size ro_numbers) a i k).2 c pl_wanted pl_near pl_load ru_given ru_stack ro_size ro_numbers := by
  intro n
  induction n with
  | zero => intro k c hc hk h; exact False.elim h
  | succ n ih =>
    intro k c hc hk h
    have hr := tp_r x1
    have hi : Int32.toInt c = ((i + k : Nat) : Int) := by rw [hc]; exact nI_toInt (by omega)
    refine And.intro (fun t0 => ?_) (fun t0 => ?_)
    · have h := And.left h t0
      have t1 := (fa_lt _ _).mp t0
      have hk2 : k = (Int32.toInt x1 + 1 - ((i : Nat) : Int)).toNat := by omega
      subst hk2
      exact hE _ _ hc rfl h
    · have h := And.right h t0
      have t1 := mt (fa_lt _ _).mpr t0
      have hs : ∀ o : Int32 × Int32, o = itr (bd_X9_share_45 tr_fruits tr_standings tr_x tr_height tr_worth tr_ripe tr_foot tr_fork tr_settings no_apron no_basket no_ground no_bruised no_helper no_today ru_length ru_program x1 x2 pl_wanted pl_near pl_load ru_given ru_stack ro_size ro_numbers) a i (k + 1) → wb_X9_share_45 P tr_fruits tr_standings tr_x tr_height tr_worth tr_ripe tr_foot tr_fork tr_settings no_apron no_basket no_ground no_bruised no_helper no_today ru_length ru_program n x1 x2 o.1 o.2 (c + 1) pl_wanted pl_near pl_load ru_given ru_stack ro_size ro_numbers → wb_X9_share_45 Q tr_fruits tr_standings tr_x tr_height tr_worth tr_ripe tr_foot tr_fork tr_settings no_apron no_basket no_ground no_bruised no_helper no_today ru_length ru_program n x1 x2 o.1 o.2 (c + 1) pl_wanted pl_near pl_load ru_given ru_stack ro_size ro_numbers := by
        intro o eo h9
        have q := ih (k + 1) (c + 1) (by rw [hc]; exact nI_1 _) (by omega)
        rw [← eo] at q
        exact q h9
      rw [itr_s, ← hc, bd_X9_share_45] at hs
      refine And.intro (fun c1 => ?_) (fun c1 => ?_)
      · have h := And.left h c1
        rw [if_neg c1] at hs
        rw [j_X9_share_96] at hs
        unfold ws_X9_share_96 at h ⊢
        refine ae ?_
        have h := h _ rfl
        have q9 := hs _ rfl
        dsimp only at q9
        exact q9 h
      · have h := And.right h c1
        rw [if_pos c1] at hs
        refine du_X5_loadOf h ?_
        intro h
        refine ae ?_
        have h := h _ rfl
        refine ae ?_
        have h := h _ rfl
        refine And.intro (fun c2 => ?_) (fun c2 => ?_)
        · have h := And.left h c2
          rw [if_pos c2] at hs
          rw [j_X9_share_96] at hs
          unfold ws_X9_share_96 at h ⊢
          refine ae ?_
          have h := h _ rfl
          have q9 := hs _ rfl
          dsimp only at q9
          exact q9 h
        · have h := And.right h c2
          rw [if_neg c2] at hs
          rw [j_X9_share_96] at hs
          unfold ws_X9_share_96 at h ⊢
          refine ae ?_
          have h := h _ rfl
          have q9 := hs _ rfl
          dsimp only at q9
          exact q9 h
noncomputable def F_X9_share (p0 : Int32) (pl_wanted : Int32) (pl_near : Nat → Int32) (pl_load : Nat → Int32) (tr_fruits : Int32) (tr_standings : Int32) (tr_x : Nat → Int32) (tr_height : Nat → Int32) (tr_worth : Nat → Int32) (tr_ripe : Nat → Int32) (tr_foot : Nat → Int32) (tr_fork : Nat → Int32) (tr_settings : Nat → Int32) (no_apron : Int32) (no_basket : Int32) (no_ground : Int32) (no_bruised : Int32) (no_helper : Int32) (no_today : Int32) (ru_length : Int32) (ru_given : Nat → Int32) (ru_stack : Nat → Int32) (ru_program : Nat → Int32) (ro_size : Int32) (ro_numbers : Nat → Int32) : Int32 × Int32 × (Nat → Int32) × (Nat → Int32) × (Nat → Int32) × (Nat → Int32) × Int32 × (Nat → Int32) := if (F_X3_areStandings p0 tr_standings) = 0 then ((-1), pl_wanted, pl_near, pl_load, ru_given, ru_stack, ro_size, ro_numbers) else (ex_X9_share_45 (fun o0 o1 o2 o3 o4 o5 o6 o7 => (o0, o1, o2, o3, o4, o5, o6, o7)) tr_fruits tr_standings tr_x tr_height tr_worth tr_ripe tr_foot tr_fork tr_settings no_apron no_basket no_ground no_bruised no_helper no_today ru_length ru_program p0 (F_X5_loadOf p0 (F_X5_loadFirsts p0 (F_X5_look pl_wanted pl_near tr_fruits tr_standings tr_x tr_height tr_ripe tr_foot tr_fork tr_settings no_apron no_basket no_ground no_helper no_today).1 (F_X5_look pl_wanted pl_near tr_fruits tr_standings tr_x tr_height tr_ripe tr_foot tr_fork tr_settings no_apron no_basket no_ground no_helper no_today).2 pl_load tr_fruits tr_standings tr_x tr_height tr_worth tr_foot tr_fork no_bruised ru_length ru_given ru_stack ru_program).1 tr_standings) ((F_X5_look pl_wanted pl_near tr_fruits tr_standings tr_x tr_height tr_ripe tr_foot tr_fork tr_settings no_apron no_basket no_ground no_helper no_today).1) ((F_X5_look pl_wanted pl_near tr_fruits tr_standings tr_x tr_height tr_ripe tr_foot tr_fork tr_settings no_apron no_basket no_ground no_helper no_today).2) ((F_X5_loadFirsts p0 (F_X5_look pl_wanted pl_near tr_fruits tr_standings tr_x tr_height tr_ripe tr_foot tr_fork tr_settings no_apron no_basket no_ground no_helper no_today).1 (F_X5_look pl_wanted pl_near tr_fruits tr_standings tr_x tr_height tr_ripe tr_foot tr_fork tr_settings no_apron no_basket no_ground no_helper no_today).2 pl_load tr_fruits tr_standings tr_x tr_height tr_worth tr_foot tr_fork no_bruised ru_length ru_given ru_stack ru_program).1) ((F_X5_loadFirsts p0 (F_X5_look pl_wanted pl_near tr_fruits tr_standings tr_x tr_height tr_ripe tr_foot tr_fork tr_settings no_apron no_basket no_ground no_helper no_today).1 (F_X5_look pl_wanted pl_near tr_fruits tr_standings tr_x tr_height tr_ripe tr_foot tr_fork tr_settings no_apron no_basket no_ground no_helper no_today).2 pl_load tr_fruits tr_standings tr_x tr_height tr_worth tr_foot tr_fork no_bruised ru_length ru_given ru_stack ru_program).2.1) ((F_X5_loadFirsts p0 (F_X5_look pl_wanted pl_near tr_fruits tr_standings tr_x tr_height tr_ripe tr_foot tr_fork tr_settings no_apron no_basket no_ground no_helper no_today).1 (F_X5_look pl_wanted pl_near tr_fruits tr_standings tr_x tr_height tr_ripe tr_foot tr_fork tr_settings no_apron no_basket no_ground no_helper no_today).2 pl_load tr_fruits tr_standings tr_x tr_height tr_worth tr_foot tr_fork no_bruised ru_length ru_given ru_stack ru_program).2.2) ro_size ro_numbers (nI (1 + (Int32.toInt p0 + 1 - ((1 : Nat) : Int)).toNat)) (itr (bd_X9_share_45 tr_fruits tr_standings tr_x tr_height tr_worth tr_ripe tr_foot tr_fork tr_settings no_apron no_basket no_ground no_bruised no_helper no_today ru_length ru_program p0 (F_X5_loadOf p0 (F_X5_loadFirsts p0 (F_X5_look pl_wanted pl_near tr_fruits tr_standings tr_x tr_height tr_ripe tr_foot tr_fork tr_settings no_apron no_basket no_ground no_helper no_today).1 (F_X5_look pl_wanted pl_near tr_fruits tr_standings tr_x tr_height tr_ripe tr_foot tr_fork tr_settings no_apron no_basket no_ground no_helper no_today).2 pl_load tr_fruits tr_standings tr_x tr_height tr_worth tr_foot tr_fork no_bruised ru_length ru_given ru_stack ru_program).1 tr_standings) ((F_X5_look pl_wanted pl_near tr_fruits tr_standings tr_x tr_height tr_ripe tr_foot tr_fork tr_settings no_apron no_basket no_ground no_helper no_today).1) ((F_X5_look pl_wanted pl_near tr_fruits tr_standings tr_x tr_height tr_ripe tr_foot tr_fork tr_settings no_apron no_basket no_ground no_helper no_today).2) ((F_X5_loadFirsts p0 (F_X5_look pl_wanted pl_near tr_fruits tr_standings tr_x tr_height tr_ripe tr_foot tr_fork tr_settings no_apron no_basket no_ground no_helper no_today).1 (F_X5_look pl_wanted pl_near tr_fruits tr_standings tr_x tr_height tr_ripe tr_foot tr_fork tr_settings no_apron no_basket no_ground no_helper no_today).2 pl_load tr_fruits tr_standings tr_x tr_height tr_worth tr_foot tr_fork no_bruised ru_length ru_given ru_stack ru_program).1) ((F_X5_loadFirsts p0 (F_X5_look pl_wanted pl_near tr_fruits tr_standings tr_x tr_height tr_ripe tr_foot tr_fork tr_settings no_apron no_basket no_ground no_helper no_today).1 (F_X5_look pl_wanted pl_near tr_fruits tr_standings tr_x tr_height tr_ripe tr_foot tr_fork tr_settings no_apron no_basket no_ground no_helper no_today).2 pl_load tr_fruits tr_standings tr_x tr_height tr_worth tr_foot tr_fork no_bruised ru_length ru_given ru_stack ru_program).2.1) ((F_X5_loadFirsts p0 (F_X5_look pl_wanted pl_near tr_fruits tr_standings tr_x tr_height tr_ripe tr_foot tr_fork tr_settings no_apron no_basket no_ground no_helper no_today).1 (F_X5_look pl_wanted pl_near tr_fruits tr_standings tr_x tr_height tr_ripe tr_foot tr_fork tr_settings no_apron no_basket no_ground no_helper no_today).2 pl_load tr_fruits tr_standings tr_x tr_height tr_worth tr_foot tr_fork no_bruised ru_length ru_given ru_stack ru_program).2.2) ro_size ro_numbers) (0, (F_X5_loadOf p0 (F_X5_loadFirsts p0 (F_X5_look pl_wanted pl_near tr_fruits tr_standings tr_x tr_height tr_ripe tr_foot tr_fork tr_settings no_apron no_basket no_ground no_helper no_today).1 (F_X5_look pl_wanted pl_near tr_fruits tr_standings tr_x tr_height tr_ripe tr_foot tr_fork tr_settings no_apron no_basket no_ground no_helper no_today).2 pl_load tr_fruits tr_standings tr_x tr_height tr_worth tr_foot tr_fork no_bruised ru_length ru_given ru_stack ru_program).1 tr_standings)) 1 (Int32.toInt p0 + 1 - ((1 : Nat) : Int)).toNat))
set_option maxHeartbeats 200000 in
set_option maxRecDepth 10000 in
theorem dt_X9_share {P Q : Int32 → Int32 → (Nat → Int32) → (Nat → Int32) → (Nat → Int32) → (Nat → Int32) → Int32 → (Nat → Int32) → Prop} {p0 : Int32} {pl_wanted : Int32} {pl_near : Nat → Int32} {pl_load : Nat → Int32} {tr_fruits : Int32} {tr_standings : Int32} {tr_x : Nat → Int32} {tr_height : Nat → Int32} {tr_worth : Nat → Int32} {tr_ripe : Nat → Int32} {tr_foot : Nat → Int32} {tr_fork : Nat → Int32} {tr_settings : Nat → Int32} {no_apron : Int32} {no_basket : Int32} {no_ground : Int32} {no_bruised : Int32} {no_helper : Int32} {no_today : Int32} {ru_length : Int32} {ru_given : Nat → Int32} {ru_stack : Nat → Int32} {ru_program : Nat → Int32} {ro_size : Int32} {ro_numbers : Nat → Int32} (hy0 : Int32.toInt p0 < 2147483647) (h : wp_X9_share P p0 pl_wanted pl_near pl_load tr_fruits tr_standings tr_x tr_height tr_worth tr_ripe tr_foot tr_fork tr_settings no_apron no_basket no_ground no_bruised no_helper no_today ru_length ru_given ru_stack ru_program ro_size ro_numbers) (hq : ∀ o : Int32 × Int32 × (Nat → Int32) × (Nat → Int32) × (Nat → Int32) × (Nat → Int32) × Int32 × (Nat → Int32), o = F_X9_share p0 pl_wanted pl_near pl_load tr_fruits tr_standings tr_x tr_height tr_worth tr_ripe tr_foot tr_fork tr_settings no_apron no_basket no_ground no_bruised no_helper no_today ru_length ru_given ru_stack ru_program ro_size ro_numbers → P o.1 o.2.1 o.2.2.1 o.2.2.2.1 o.2.2.2.2.1 o.2.2.2.2.2.1 o.2.2.2.2.2.2.1 o.2.2.2.2.2.2.2 → Q o.1 o.2.1 o.2.2.1 o.2.2.2.1 o.2.2.2.2.1 o.2.2.2.2.2.1 o.2.2.2.2.2.2.1 o.2.2.2.2.2.2.2) : wp_X9_share Q p0 pl_wanted pl_near pl_load tr_fruits tr_standings tr_x tr_height tr_worth tr_ripe tr_foot tr_fork tr_settings no_apron no_basket no_ground no_bruised no_helper no_today ru_length ru_given ru_stack ru_program ro_size ro_numbers := by
  rw [F_X9_share] at hq
  refine du_X3_areStandings h ?_
  intro h
  refine And.intro (fun c1 => ?_) (fun c1 => ?_)
  · have h := And.left h c1
    rw [if_neg c1] at hq
    refine du_X5_look h ?_
    intro h
    refine du_X5_loadFirsts h ?_
    intro h
    refine du_X5_loadOf h ?_
    intro h
    obtain ⟨n2, h⟩ := h
    refine ⟨n2, dl_X9_share_45 (a := (0, (F_X5_loadOf p0 (F_X5_loadFirsts p0 (F_X5_look pl_wanted pl_near tr_fruits tr_standings tr_x tr_height tr_ripe tr_foot tr_fork tr_settings no_apron no_basket no_ground no_helper no_today).1 (F_X5_look pl_wanted pl_near tr_fruits tr_standings tr_x tr_height tr_ripe tr_foot tr_fork tr_settings no_apron no_basket no_ground no_helper no_today).2 pl_load tr_fruits tr_standings tr_x tr_height tr_worth tr_foot tr_fork no_bruised ru_length ru_given ru_stack ru_program).1 tr_standings))) (i := 1) (by decide) hy0 ?_ n2 0 1 (by decide) (Nat.zero_le _) h⟩
    intro cc3 s4 ec5 es6 h
    rw [← ec5, ← es6, ex_X9_share_45] at hq
    refine du_X5_loadOf h ?_
    intro h
    refine ae ?_
    have h := h _ rfl
    refine du_X9_tell_ h ?_
    intro h
    have q9 := hq _ rfl
    dsimp only at q9
    exact q9 h
  · have h := And.right h c1
    rw [if_pos c1] at hq
    have q9 := hq _ rfl
    dsimp only at q9
    exact q9 h
theorem du_X9_share {P Q : Int32 → Int32 → (Nat → Int32) → (Nat → Int32) → (Nat → Int32) → (Nat → Int32) → Int32 → (Nat → Int32) → Prop} {p0 : Int32} {pl_wanted : Int32} {pl_near : Nat → Int32} {pl_load : Nat → Int32} {tr_fruits : Int32} {tr_standings : Int32} {tr_x : Nat → Int32} {tr_height : Nat → Int32} {tr_worth : Nat → Int32} {tr_ripe : Nat → Int32} {tr_foot : Nat → Int32} {tr_fork : Nat → Int32} {tr_settings : Nat → Int32} {no_apron : Int32} {no_basket : Int32} {no_ground : Int32} {no_bruised : Int32} {no_helper : Int32} {no_today : Int32} {ru_length : Int32} {ru_given : Nat → Int32} {ru_stack : Nat → Int32} {ru_program : Nat → Int32} {ro_size : Int32} {ro_numbers : Nat → Int32} (hy0 : Int32.toInt p0 < 2147483647) (h : wp_X9_share P p0 pl_wanted pl_near pl_load tr_fruits tr_standings tr_x tr_height tr_worth tr_ripe tr_foot tr_fork tr_settings no_apron no_basket no_ground no_bruised no_helper no_today ru_length ru_given ru_stack ru_program ro_size ro_numbers) (hq : P (F_X9_share p0 pl_wanted pl_near pl_load tr_fruits tr_standings tr_x tr_height tr_worth tr_ripe tr_foot tr_fork tr_settings no_apron no_basket no_ground no_bruised no_helper no_today ru_length ru_given ru_stack ru_program ro_size ro_numbers).1 (F_X9_share p0 pl_wanted pl_near pl_load tr_fruits tr_standings tr_x tr_height tr_worth tr_ripe tr_foot tr_fork tr_settings no_apron no_basket no_ground no_bruised no_helper no_today ru_length ru_given ru_stack ru_program ro_size ro_numbers).2.1 (F_X9_share p0 pl_wanted pl_near pl_load tr_fruits tr_standings tr_x tr_height tr_worth tr_ripe tr_foot tr_fork tr_settings no_apron no_basket no_ground no_bruised no_helper no_today ru_length ru_given ru_stack ru_program ro_size ro_numbers).2.2.1 (F_X9_share p0 pl_wanted pl_near pl_load tr_fruits tr_standings tr_x tr_height tr_worth tr_ripe tr_foot tr_fork tr_settings no_apron no_basket no_ground no_bruised no_helper no_today ru_length ru_given ru_stack ru_program ro_size ro_numbers).2.2.2.1 (F_X9_share p0 pl_wanted pl_near pl_load tr_fruits tr_standings tr_x tr_height tr_worth tr_ripe tr_foot tr_fork tr_settings no_apron no_basket no_ground no_bruised no_helper no_today ru_length ru_given ru_stack ru_program ro_size ro_numbers).2.2.2.2.1 (F_X9_share p0 pl_wanted pl_near pl_load tr_fruits tr_standings tr_x tr_height tr_worth tr_ripe tr_foot tr_fork tr_settings no_apron no_basket no_ground no_bruised no_helper no_today ru_length ru_given ru_stack ru_program ro_size ro_numbers).2.2.2.2.2.1 (F_X9_share p0 pl_wanted pl_near pl_load tr_fruits tr_standings tr_x tr_height tr_worth tr_ripe tr_foot tr_fork tr_settings no_apron no_basket no_ground no_bruised no_helper no_today ru_length ru_given ru_stack ru_program ro_size ro_numbers).2.2.2.2.2.2.1 (F_X9_share p0 pl_wanted pl_near pl_load tr_fruits tr_standings tr_x tr_height tr_worth tr_ripe tr_foot tr_fork tr_settings no_apron no_basket no_ground no_bruised no_helper no_today ru_length ru_given ru_stack ru_program ro_size ro_numbers).2.2.2.2.2.2.2 → Q (F_X9_share p0 pl_wanted pl_near pl_load tr_fruits tr_standings tr_x tr_height tr_worth tr_ripe tr_foot tr_fork tr_settings no_apron no_basket no_ground no_bruised no_helper no_today ru_length ru_given ru_stack ru_program ro_size ro_numbers).1 (F_X9_share p0 pl_wanted pl_near pl_load tr_fruits tr_standings tr_x tr_height tr_worth tr_ripe tr_foot tr_fork tr_settings no_apron no_basket no_ground no_bruised no_helper no_today ru_length ru_given ru_stack ru_program ro_size ro_numbers).2.1 (F_X9_share p0 pl_wanted pl_near pl_load tr_fruits tr_standings tr_x tr_height tr_worth tr_ripe tr_foot tr_fork tr_settings no_apron no_basket no_ground no_bruised no_helper no_today ru_length ru_given ru_stack ru_program ro_size ro_numbers).2.2.1 (F_X9_share p0 pl_wanted pl_near pl_load tr_fruits tr_standings tr_x tr_height tr_worth tr_ripe tr_foot tr_fork tr_settings no_apron no_basket no_ground no_bruised no_helper no_today ru_length ru_given ru_stack ru_program ro_size ro_numbers).2.2.2.1 (F_X9_share p0 pl_wanted pl_near pl_load tr_fruits tr_standings tr_x tr_height tr_worth tr_ripe tr_foot tr_fork tr_settings no_apron no_basket no_ground no_bruised no_helper no_today ru_length ru_given ru_stack ru_program ro_size ro_numbers).2.2.2.2.1 (F_X9_share p0 pl_wanted pl_near pl_load tr_fruits tr_standings tr_x tr_height tr_worth tr_ripe tr_foot tr_fork tr_settings no_apron no_basket no_ground no_bruised no_helper no_today ru_length ru_given ru_stack ru_program ro_size ro_numbers).2.2.2.2.2.1 (F_X9_share p0 pl_wanted pl_near pl_load tr_fruits tr_standings tr_x tr_height tr_worth tr_ripe tr_foot tr_fork tr_settings no_apron no_basket no_ground no_bruised no_helper no_today ru_length ru_given ru_stack ru_program ro_size ro_numbers).2.2.2.2.2.2.1 (F_X9_share p0 pl_wanted pl_near pl_load tr_fruits tr_standings tr_x tr_height tr_worth tr_ripe tr_foot tr_fork tr_settings no_apron no_basket no_ground no_bruised no_helper no_today ru_length ru_given ru_stack ru_program ro_size ro_numbers).2.2.2.2.2.2.2) : wp_X9_share Q p0 pl_wanted pl_near pl_load tr_fruits tr_standings tr_x tr_height tr_worth tr_ripe tr_foot tr_fork tr_settings no_apron no_basket no_ground no_bruised no_helper no_today ru_length ru_given ru_stack ru_program ro_size ro_numbers := dt_X9_share hy0 h (fun o eo => by rw [eo]; exact hq)
theorem dw_X9_share {Q : Int32 → Int32 → (Nat → Int32) → (Nat → Int32) → (Nat → Int32) → (Nat → Int32) → Int32 → (Nat → Int32) → Prop} {p0 : Int32} {pl_wanted : Int32} {pl_near : Nat → Int32} {pl_load : Nat → Int32} {tr_fruits : Int32} {tr_standings : Int32} {tr_x : Nat → Int32} {tr_height : Nat → Int32} {tr_worth : Nat → Int32} {tr_ripe : Nat → Int32} {tr_foot : Nat → Int32} {tr_fork : Nat → Int32} {tr_settings : Nat → Int32} {no_apron : Int32} {no_basket : Int32} {no_ground : Int32} {no_bruised : Int32} {no_helper : Int32} {no_today : Int32} {ru_length : Int32} {ru_given : Nat → Int32} {ru_stack : Nat → Int32} {ru_program : Nat → Int32} {ro_size : Int32} {ro_numbers : Nat → Int32} (hy0 : Int32.toInt p0 < 2147483647) (h : wp_X9_share (fun o0 o1 o2 o3 o4 o5 o6 o7 => (o0, o1, o2, o3, o4, o5, o6, o7) = F_X9_share p0 pl_wanted pl_near pl_load tr_fruits tr_standings tr_x tr_height tr_worth tr_ripe tr_foot tr_fork tr_settings no_apron no_basket no_ground no_bruised no_helper no_today ru_length ru_given ru_stack ru_program ro_size ro_numbers → Q o0 o1 o2 o3 o4 o5 o6 o7) p0 pl_wanted pl_near pl_load tr_fruits tr_standings tr_x tr_height tr_worth tr_ripe tr_foot tr_fork tr_settings no_apron no_basket no_ground no_bruised no_helper no_today ru_length ru_given ru_stack ru_program ro_size ro_numbers) : wp_X9_share Q p0 pl_wanted pl_near pl_load tr_fruits tr_standings tr_x tr_height tr_worth tr_ripe tr_foot tr_fork tr_settings no_apron no_basket no_ground no_bruised no_helper no_today ru_length ru_given ru_stack ru_program ro_size ro_numbers := dt_X9_share hy0 h (fun o eo hp => hp eo)
