set_option maxHeartbeats 8000000 in
set_option maxRecDepth 200000 in
theorem ts_X9_next_80 {post : Int32 → Int32 → (Nat → Int32) → Int32 → (Nat → Int32) → Prop} {K28 : Int32 → Int32 → Int32 → Int32 → Int32 → (Nat → Int32) → Int32 → (Nat → Int32) → Prop} {n28 : Int} (tr_fruits : Int32) (tr_standings : Int32) (tr_x : Nat → Int32) (tr_height : Nat → Int32) (tr_worth : Nat → Int32) (tr_ripe : Nat → Int32) (tr_foot : Nat → Int32) (tr_fork : Nat → Int32) (tr_settings : Nat → Int32) (no_apron : Int32) (no_basket : Int32) (no_ground : Int32) (no_bruised : Int32) (no_helper : Int32) (no_today : Int32) (h_tr_fruits : 0 ≤ Int32.toInt tr_fruits ∧ Int32.toInt tr_fruits ≤ 16) (h_tr_standings : 0 ≤ Int32.toInt tr_standings ∧ Int32.toInt tr_standings ≤ 8) (h_no_today : 0 ≤ Int32.toInt no_today ∧ Int32.toInt no_today ≤ 9) (hpost : ∀ (r : Int32) (pl_wanted' : Int32) (pl_near' : Nat → Int32) (ro_size' : Int32) (ro_numbers' : Nat → Int32), (-2 ≤ Int32.toInt r ∧ Int32.toInt r ≤ 7) → (0 ≤ Int32.toInt pl_wanted' ∧ Int32.toInt pl_wanted' ≤ 65535) → (∀ k : Nat, 0 ≤ Int32.toInt (pl_near' k) ∧ Int32.toInt (pl_near' k) ≤ 65535) → (0 ≤ Int32.toInt ro_size' ∧ Int32.toInt ro_size' ≤ 16) → post r pl_wanted' pl_near' ro_size' ro_numbers') (hK28 : ∀ (x1 : Int32) (x2 : Int32) (x3 : Int32) (x4 : Int32) (pl_wanted : Int32) (pl_near : Nat → Int32) (ro_size : Int32) (ro_numbers : Nat → Int32), (0 ≤ Int32.toInt x1 ∧ Int32.toInt x1 ≤ 255) → (-2 ≤ Int32.toInt x2 ∧ Int32.toInt x2 ≤ 7) → (0 ≤ Int32.toInt x4 ∧ Int32.toInt x4 ≤ 8) → (0 ≤ Int32.toInt pl_wanted ∧ Int32.toInt pl_wanted ≤ 65535) → (∀ k : Nat, 0 ≤ Int32.toInt (pl_near k) ∧ Int32.toInt (pl_near k) ≤ 65535) → (0 ≤ Int32.toInt ro_size ∧ Int32.toInt ro_size ≤ 16) → (8 - Int32.toInt x4 < n28) → K28 x1 x2 x3 x4 pl_wanted pl_near ro_size ro_numbers) (x1 : Int32) (x2 : Int32) (x3 : Int32) (x4 : Int32) (pl_wanted : Int32) (pl_near : Nat → Int32) (ro_size : Int32) (ro_numbers : Nat → Int32) (h_x1 : 0 ≤ Int32.toInt x1 ∧ Int32.toInt x1 ≤ 255) (h_x2 : -2 ≤ Int32.toInt x2 ∧ Int32.toInt x2 ≤ 7) (h_x4 : 0 ≤ Int32.toInt x4 ∧ Int32.toInt x4 ≤ 7) (h_pl_wanted : 0 ≤ Int32.toInt pl_wanted ∧ Int32.toInt pl_wanted ≤ 65535) (h_pl_near : ∀ k : Nat, 0 ≤ Int32.toInt (pl_near k) ∧ Int32.toInt (pl_near k) ≤ 65535) (h_ro_size : 0 ≤ Int32.toInt ro_size ∧ Int32.toInt ro_size ≤ 16) (hn28 : 8 - Int32.toInt x4 ≤ n28) : ws_X9_next_80 post K28 tr_fruits tr_standings tr_x tr_height tr_worth tr_ripe tr_foot tr_fork tr_settings no_apron no_basket no_ground no_bruised no_helper no_today x1 x2 x3 x4 pl_wanted pl_near ro_size ro_numbers := by
  have l0 : Int32.toInt (1 : Int32) = 1 := (by decide)
  intro v1 ev1
  have f2 : Int32.toInt (x4 + 1) = Int32.toInt x4 + Int32.toInt (1 : Int32) := ta_add _ _ (by omega)
  rw [← ev1] at f2
  have f3 := tp_r x3
  exact hK28 x1 x2 x3 v1 pl_wanted pl_near ro_size ro_numbers (by omega) (by omega) (by omega) (by omega) (fun k => by have q9 := h_pl_near k; omega) (by omega) (by omega)
set_option maxHeartbeats 8000000 in
set_option maxRecDepth 200000 in
theorem ts_X9_next_74 {post : Int32 → Int32 → (Nat → Int32) → Int32 → (Nat → Int32) → Prop} {K28 : Int32 → Int32 → Int32 → Int32 → Int32 → (Nat → Int32) → Int32 → (Nat → Int32) → Prop} {n28 : Int} (tr_fruits : Int32) (tr_standings : Int32) (tr_x : Nat → Int32) (tr_height : Nat → Int32) (tr_worth : Nat → Int32) (tr_ripe : Nat → Int32) (tr_foot : Nat → Int32) (tr_fork : Nat → Int32) (tr_settings : Nat → Int32) (no_apron : Int32) (no_basket : Int32) (no_ground : Int32) (no_bruised : Int32) (no_helper : Int32) (no_today : Int32) (h_tr_fruits : 0 ≤ Int32.toInt tr_fruits ∧ Int32.toInt tr_fruits ≤ 16) (h_tr_standings : 0 ≤ Int32.toInt tr_standings ∧ Int32.toInt tr_standings ≤ 8) (h_no_today : 0 ≤ Int32.toInt no_today ∧ Int32.toInt no_today ≤ 9) (hpost : ∀ (r : Int32) (pl_wanted' : Int32) (pl_near' : Nat → Int32) (ro_size' : Int32) (ro_numbers' : Nat → Int32), (-2 ≤ Int32.toInt r ∧ Int32.toInt r ≤ 7) → (0 ≤ Int32.toInt pl_wanted' ∧ Int32.toInt pl_wanted' ≤ 65535) → (∀ k : Nat, 0 ≤ Int32.toInt (pl_near' k) ∧ Int32.toInt (pl_near' k) ≤ 65535) → (0 ≤ Int32.toInt ro_size' ∧ Int32.toInt ro_size' ≤ 16) → post r pl_wanted' pl_near' ro_size' ro_numbers') (hK28 : ∀ (x1 : Int32) (x2 : Int32) (x3 : Int32) (x4 : Int32) (pl_wanted : Int32) (pl_near : Nat → Int32) (ro_size : Int32) (ro_numbers : Nat → Int32), (0 ≤ Int32.toInt x1 ∧ Int32.toInt x1 ≤ 255) → (-2 ≤ Int32.toInt x2 ∧ Int32.toInt x2 ≤ 7) → (0 ≤ Int32.toInt x4 ∧ Int32.toInt x4 ≤ 8) → (0 ≤ Int32.toInt pl_wanted ∧ Int32.toInt pl_wanted ≤ 65535) → (∀ k : Nat, 0 ≤ Int32.toInt (pl_near k) ∧ Int32.toInt (pl_near k) ≤ 65535) → (0 ≤ Int32.toInt ro_size ∧ Int32.toInt ro_size ≤ 16) → (8 - Int32.toInt x4 < n28) → K28 x1 x2 x3 x4 pl_wanted pl_near ro_size ro_numbers) (x1 : Int32) (x4 : Int32) (x5 : Int32) (pl_wanted : Int32) (pl_near : Nat → Int32) (ro_size : Int32) (ro_numbers : Nat → Int32) (h_x1 : 0 ≤ Int32.toInt x1 ∧ Int32.toInt x1 ≤ 255) (h_x4 : 0 ≤ Int32.toInt x4 ∧ Int32.toInt x4 ≤ 7) (h_pl_wanted : 0 ≤ Int32.toInt pl_wanted ∧ Int32.toInt pl_wanted ≤ 65535) (h_pl_near : ∀ k : Nat, 0 ≤ Int32.toInt (pl_near k) ∧ Int32.toInt (pl_near k) ≤ 65535) (h_ro_size : 0 ≤ Int32.toInt ro_size ∧ Int32.toInt ro_size ≤ 16) (hn28 : 8 - Int32.toInt x4 ≤ n28) : ws_X9_next_74 post K28 tr_fruits tr_standings tr_x tr_height tr_worth tr_ripe tr_foot tr_fork tr_settings no_apron no_basket no_ground no_bruised no_helper no_today x1 x4 x5 pl_wanted pl_near ro_size ro_numbers := by
  have f4 := tp_r x5
  exact ts_X9_next_80 tr_fruits tr_standings tr_x tr_height tr_worth tr_ripe tr_foot tr_fork tr_settings no_apron no_basket no_ground no_bruised no_helper no_today h_tr_fruits h_tr_standings h_no_today hpost hK28 x1 x4 x5 x4 pl_wanted pl_near ro_size ro_numbers (by omega) (by omega) (by omega) (by omega) (fun k => by have q9 := h_pl_near k; omega) (by omega) (by omega)
set_option maxHeartbeats 8000000 in
set_option maxRecDepth 200000 in
theorem ts_X9_next_28 {post : Int32 → Int32 → (Nat → Int32) → Int32 → (Nat → Int32) → Prop} {next : Int32 → Int32 → Int32 → Int32 → Int32 → (Nat → Int32) → Int32 → (Nat → Int32) → Prop} {n28 : Int} (tr_fruits : Int32) (tr_standings : Int32) (tr_x : Nat → Int32) (tr_height : Nat → Int32) (tr_worth : Nat → Int32) (tr_ripe : Nat → Int32) (tr_foot : Nat → Int32) (tr_fork : Nat → Int32) (tr_settings : Nat → Int32) (no_apron : Int32) (no_basket : Int32) (no_ground : Int32) (no_bruised : Int32) (no_helper : Int32) (no_today : Int32) (h_tr_fruits : 0 ≤ Int32.toInt tr_fruits ∧ Int32.toInt tr_fruits ≤ 16) (h_tr_standings : 0 ≤ Int32.toInt tr_standings ∧ Int32.toInt tr_standings ≤ 8) (h_no_today : 0 ≤ Int32.toInt no_today ∧ Int32.toInt no_today ≤ 9) (hpost : ∀ (r : Int32) (pl_wanted' : Int32) (pl_near' : Nat → Int32) (ro_size' : Int32) (ro_numbers' : Nat → Int32), (-2 ≤ Int32.toInt r ∧ Int32.toInt r ≤ 7) → (0 ≤ Int32.toInt pl_wanted' ∧ Int32.toInt pl_wanted' ≤ 65535) → (∀ k : Nat, 0 ≤ Int32.toInt (pl_near' k) ∧ Int32.toInt (pl_near' k) ≤ 65535) → (0 ≤ Int32.toInt ro_size' ∧ Int32.toInt ro_size' ≤ 16) → post r pl_wanted' pl_near' ro_size' ro_numbers') (hKn : ∀ (x1 : Int32) (x2 : Int32) (x3 : Int32) (x4 : Int32) (pl_wanted : Int32) (pl_near : Nat → Int32) (ro_size : Int32) (ro_numbers : Nat → Int32), (0 ≤ Int32.toInt x1 ∧ Int32.toInt x1 ≤ 255) → (-2 ≤ Int32.toInt x2 ∧ Int32.toInt x2 ≤ 7) → (0 ≤ Int32.toInt x4 ∧ Int32.toInt x4 ≤ 8) → (0 ≤ Int32.toInt pl_wanted ∧ Int32.toInt pl_wanted ≤ 65535) → (∀ k : Nat, 0 ≤ Int32.toInt (pl_near k) ∧ Int32.toInt (pl_near k) ≤ 65535) → (0 ≤ Int32.toInt ro_size ∧ Int32.toInt ro_size ≤ 16) → (8 - Int32.toInt x4 < n28) → next x1 x2 x3 x4 pl_wanted pl_near ro_size ro_numbers) (x1 : Int32) (x2 : Int32) (x3 : Int32) (x4 : Int32) (pl_wanted : Int32) (pl_near : Nat → Int32) (ro_size : Int32) (ro_numbers : Nat → Int32) (h_x1 : 0 ≤ Int32.toInt x1 ∧ Int32.toInt x1 ≤ 255) (h_x2 : -2 ≤ Int32.toInt x2 ∧ Int32.toInt x2 ≤ 7) (h_x4 : 0 ≤ Int32.toInt x4 ∧ Int32.toInt x4 ≤ 8) (h_pl_wanted : 0 ≤ Int32.toInt pl_wanted ∧ Int32.toInt pl_wanted ≤ 65535) (h_pl_near : ∀ k : Nat, 0 ≤ Int32.toInt (pl_near k) ∧ Int32.toInt (pl_near k) ≤ 65535) (h_ro_size : 0 ≤ Int32.toInt ro_size ∧ Int32.toInt ro_size ≤ 16) (hn28 : 8 - Int32.toInt x4 ≤ n28) : ws_X9_next_28 post next tr_fruits tr_standings tr_x tr_height tr_worth tr_ripe tr_foot tr_fork tr_settings no_apron no_basket no_ground no_bruised no_helper no_today x1 x2 x3 x4 pl_wanted pl_near ro_size ro_numbers := by
  have l0 : Int32.toInt (0 : Int32) = 0 := (by decide)
  have l1 : Int32.toInt (1 : Int32) = 1 := (by decide)
  have l2 : Int32.toInt (16 : Int32) = 16 := (by decide)
  refine And.intro (fun c5 => ?_) (fun c5 => ?_)
  · skip
    have c5 := (fa_le _ _).mp c5
    refine And.intro (fun c6 => ?_) (fun c6 => ?_)
    · skip
      have c6 := (fa_lt _ _).mp c6
      exact hpost _ _ _ _ _ (by omega) (by omega) (fun k => by have q9 := h_pl_near k; omega) (by omega)
    · skip
      have c6 := mt (fa_lt _ _).mpr c6
      refine t_X5_reachedBy (by omega) (fun k => by have q9 := h_pl_near k; omega) (by omega) (fun r7 h_r7 => ?_)
      intro v8 ev8
      have f10 := ti_andl pl_wanted (r7 ^^^ (-1)) (by omega)
      have hv8 := congrArg Int32.toInt ev8
      refine t_X3_worthOf (by omega) (fun r11 => ?_)
      refine And.intro (fun h9 => absurd h9 (by decide)) (fun _ => ?_)
      refine And.intro (t_in (by omega)) ?_
      intro v12 ev12
      have f13 : Int32.toInt (0 + 1) = Int32.toInt (0 : Int32) + Int32.toInt (1 : Int32) := ta_add _ _ (by omega)
      rw [← ev12] at f13
      refine And.intro (fun c14 => ?_) (fun c14 => ?_)
      · skip
        have c14 := (fa_le _ _).mp c14
        exfalso; omega
      · skip
        have c14 := mt (fa_le _ _).mpr c14
        refine And.intro (t_in (by omega)) ?_
        intro v15 ev15
        have f16 : Int32.toInt (v12 + 1) = Int32.toInt v12 + Int32.toInt (1 : Int32) := ta_add _ _ (by omega)
        rw [← ev15] at f16
        exact hpost _ _ _ _ _ (by omega) (by omega) (fun k => by have q9 := h_pl_near k; omega) (by omega)
  · skip
    have c5 := mt (fa_le _ _).mpr c5
    intro v17 ev17
    have f18 := ti_shr x1 x4 (by omega)
    have hv17 := congrArg Int32.toInt ev17
    have f20 := ti_andr v17 1 (by omega)
    have f21 := ti_andl v17 1 (by omega)
    refine And.intro (fun c19 => ?_) (fun c19 => ?_)
    · skip
      have c19 := mt (fa_eq _ _).mpr c19
      have f22 := tp_r x3
      exact ts_X9_next_80 tr_fruits tr_standings tr_x tr_height tr_worth tr_ripe tr_foot tr_fork tr_settings no_apron no_basket no_ground no_bruised no_helper no_today h_tr_fruits h_tr_standings h_no_today hpost hKn x1 x2 x3 x4 pl_wanted pl_near ro_size ro_numbers (by omega) (by omega) (by omega) (by omega) (fun k => by have q9 := h_pl_near k; omega) (by omega) (by omega)
    · skip
      have c19 := (fa_eq _ _).mp c19
      intro v23 ev23
      have f25 := ti_shl1 7 128 x4 (by decide) (by omega)
      have f24 := ti_or 8 256 x1 (1 <<< (x4 &&& 31)) (by decide) (by omega) (by omega)
      have hv23 := congrArg Int32.toInt ev23
      refine t_X5_reachedBy (by omega) (fun k => by have q9 := h_pl_near k; omega) (by omega) (fun r26 h_r26 => ?_)
      intro v27 ev27
      have f29 := ti_andl pl_wanted (r26 ^^^ (-1)) (by omega)
      have hv27 := congrArg Int32.toInt ev27
      refine t_X3_worthOf (by omega) (fun r30 => ?_)
      refine And.intro (fun c31 => ?_) (fun c31 => ?_)
      · skip
        have c31 := (fa_lt _ _).mp c31
        have f32 := tp_r r30
        exact ts_X9_next_74 tr_fruits tr_standings tr_x tr_height tr_worth tr_ripe tr_foot tr_fork tr_settings no_apron no_basket no_ground no_bruised no_helper no_today h_tr_fruits h_tr_standings h_no_today hpost hKn x1 x4 r30 pl_wanted pl_near ro_size ro_numbers (by omega) (by omega) (by omega) (fun k => by have q9 := h_pl_near k; omega) (by omega) (by omega)
      · skip
        have c31 := mt (fa_lt _ _).mpr c31
        have f34 := tp_r r30
        have f35 := tp_r x3
        refine And.intro (fun c33 => ?_) (fun c33 => ?_)
        · skip
          have c33 := (fa_le _ _).mp c33
          exact ts_X9_next_80 tr_fruits tr_standings tr_x tr_height tr_worth tr_ripe tr_foot tr_fork tr_settings no_apron no_basket no_ground no_bruised no_helper no_today h_tr_fruits h_tr_standings h_no_today hpost hKn x1 x2 x3 x4 pl_wanted pl_near ro_size ro_numbers (by omega) (by omega) (by omega) (by omega) (fun k => by have q9 := h_pl_near k; omega) (by omega) (by omega)
        · skip
          have c33 := mt (fa_le _ _).mpr c33
          exact ts_X9_next_74 tr_fruits tr_standings tr_x tr_height tr_worth tr_ripe tr_foot tr_fork tr_settings no_apron no_basket no_ground no_bruised no_helper no_today h_tr_fruits h_tr_standings h_no_today hpost hKn x1 x4 r30 pl_wanted pl_near ro_size ro_numbers (by omega) (by omega) (by omega) (fun k => by have q9 := h_pl_near k; omega) (by omega) (by omega)
set_option maxHeartbeats 8000000 in
set_option maxRecDepth 200000 in
theorem tb_X9_next_28 {post : Int32 → Int32 → (Nat → Int32) → Int32 → (Nat → Int32) → Prop} (tr_fruits : Int32) (tr_standings : Int32) (tr_x : Nat → Int32) (tr_height : Nat → Int32) (tr_worth : Nat → Int32) (tr_ripe : Nat → Int32) (tr_foot : Nat → Int32) (tr_fork : Nat → Int32) (tr_settings : Nat → Int32) (no_apron : Int32) (no_basket : Int32) (no_ground : Int32) (no_bruised : Int32) (no_helper : Int32) (no_today : Int32) (h_tr_fruits : 0 ≤ Int32.toInt tr_fruits ∧ Int32.toInt tr_fruits ≤ 16) (h_tr_standings : 0 ≤ Int32.toInt tr_standings ∧ Int32.toInt tr_standings ≤ 8) (h_no_today : 0 ≤ Int32.toInt no_today ∧ Int32.toInt no_today ≤ 9) (hpost : ∀ (r : Int32) (pl_wanted' : Int32) (pl_near' : Nat → Int32) (ro_size' : Int32) (ro_numbers' : Nat → Int32), (-2 ≤ Int32.toInt r ∧ Int32.toInt r ≤ 7) → (0 ≤ Int32.toInt pl_wanted' ∧ Int32.toInt pl_wanted' ≤ 65535) → (∀ k : Nat, 0 ≤ Int32.toInt (pl_near' k) ∧ Int32.toInt (pl_near' k) ≤ 65535) → (0 ≤ Int32.toInt ro_size' ∧ Int32.toInt ro_size' ≤ 16) → post r pl_wanted' pl_near' ro_size' ro_numbers') : ∀ (n : Nat) (x1 : Int32) (x2 : Int32) (x3 : Int32) (x4 : Int32) (pl_wanted : Int32) (pl_near : Nat → Int32) (ro_size : Int32) (ro_numbers : Nat → Int32), (0 ≤ Int32.toInt x1 ∧ Int32.toInt x1 ≤ 255) → (-2 ≤ Int32.toInt x2 ∧ Int32.toInt x2 ≤ 7) → (0 ≤ Int32.toInt x4 ∧ Int32.toInt x4 ≤ 8) → (0 ≤ Int32.toInt pl_wanted ∧ Int32.toInt pl_wanted ≤ 65535) → (∀ k : Nat, 0 ≤ Int32.toInt (pl_near k) ∧ Int32.toInt (pl_near k) ≤ 65535) → (0 ≤ Int32.toInt ro_size ∧ Int32.toInt ro_size ≤ 16) → (8 - Int32.toInt x4 < (n : Int)) → wb_X9_next_28 post tr_fruits tr_standings tr_x tr_height tr_worth tr_ripe tr_foot tr_fork tr_settings no_apron no_basket no_ground no_bruised no_helper no_today n x1 x2 x3 x4 pl_wanted pl_near ro_size ro_numbers := by
  intro n
  induction n with
  | zero =>
    intro x1 x2 x3 x4 pl_wanted pl_near ro_size ro_numbers h_x1 h_x2 h_x4 h_pl_wanted h_pl_near h_ro_size hm
    exfalso; omega
  | succ n ih =>
    intro x1 x2 x3 x4 pl_wanted pl_near ro_size ro_numbers h_x1 h_x2 h_x4 h_pl_wanted h_pl_near h_ro_size hm
    exact ts_X9_next_28 tr_fruits tr_standings tr_x tr_height tr_worth tr_ripe tr_foot tr_fork tr_settings no_apron no_basket no_ground no_bruised no_helper no_today h_tr_fruits h_tr_standings h_no_today hpost ih x1 x2 x3 x4 pl_wanted pl_near ro_size ro_numbers h_x1 h_x2 h_x4 h_pl_wanted h_pl_near h_ro_size (by omega)
set_option maxHeartbeats 8000000 in
set_option maxRecDepth 200000 in
theorem t_X9_next {post : Int32 → Int32 → (Nat → Int32) → Int32 → (Nat → Int32) → Prop} {p0 : Int32} {pl_wanted : Int32} {pl_near : Nat → Int32} {tr_fruits : Int32} {tr_standings : Int32} {tr_x : Nat → Int32} {tr_height : Nat → Int32} {tr_worth : Nat → Int32} {tr_ripe : Nat → Int32} {tr_foot : Nat → Int32} {tr_fork : Nat → Int32} {tr_settings : Nat → Int32} {no_apron : Int32} {no_basket : Int32} {no_ground : Int32} {no_bruised : Int32} {no_helper : Int32} {no_today : Int32} {ro_size : Int32} {ro_numbers : Nat → Int32} (h_pl_wanted : 0 ≤ Int32.toInt pl_wanted ∧ Int32.toInt pl_wanted ≤ 65535) (h_pl_near : ∀ k : Nat, 0 ≤ Int32.toInt (pl_near k) ∧ Int32.toInt (pl_near k) ≤ 65535) (h_tr_fruits : 0 ≤ Int32.toInt tr_fruits ∧ Int32.toInt tr_fruits ≤ 16) (h_tr_standings : 0 ≤ Int32.toInt tr_standings ∧ Int32.toInt tr_standings ≤ 8) (h_no_today : 0 ≤ Int32.toInt no_today ∧ Int32.toInt no_today ≤ 9) (h_ro_size : 0 ≤ Int32.toInt ro_size ∧ Int32.toInt ro_size ≤ 16) (hpost : ∀ (r : Int32) (pl_wanted' : Int32) (pl_near' : Nat → Int32) (ro_size' : Int32) (ro_numbers' : Nat → Int32), (-2 ≤ Int32.toInt r ∧ Int32.toInt r ≤ 7) → (0 ≤ Int32.toInt pl_wanted' ∧ Int32.toInt pl_wanted' ≤ 65535) → (∀ k : Nat, 0 ≤ Int32.toInt (pl_near' k) ∧ Int32.toInt (pl_near' k) ≤ 65535) → (0 ≤ Int32.toInt ro_size' ∧ Int32.toInt ro_size' ≤ 16) → post r pl_wanted' pl_near' ro_size' ro_numbers') : wp_X9_next post p0 pl_wanted pl_near tr_fruits tr_standings tr_x tr_height tr_worth tr_ripe tr_foot tr_fork tr_settings no_apron no_basket no_ground no_bruised no_helper no_today ro_size ro_numbers := by
  have l0 : Int32.toInt ((-1) : Int32) = -1 := (by decide)
  have l1 : Int32.toInt ((-2) : Int32) = -2 := (by decide)
  have l2 : Int32.toInt (0 : Int32) = 0 := (by decide)
  have l3 : Int32.toInt (1 : Int32) = 1 := (by decide)
  intro v36 ev36
  have f37 := ti_shl1 8 256 tr_standings (by decide) (by omega)
  have hv36 := congrArg Int32.toInt ev36
  refine And.intro (fun c38 => ?_) (fun c38 => ?_)
  · skip
    have c38 := mt (fa_eq _ _).mpr c38
    refine And.intro (fun h9 => absurd h9 (by decide)) (fun _ => ?_)
    exact hpost _ _ _ _ _ (by omega) (by omega) (fun k => by have q9 := h_pl_near k; omega) (by omega)
  · skip
    have c38Z := c38
    have c38 := (fa_eq _ _).mp c38
    have f40 : Int32.toInt (v36 - 1) = Int32.toInt v36 - Int32.toInt (1 : Int32) := ta_sub _ _ (by omega)
    have s41 := ti_subset p0 (v36 - 1) (c38Z) (by omega)
    refine And.intro (fun _ => ?_) (fun h9 => absurd h9 (by decide))
    refine t_X5_lookAs (by omega) (by omega) (fun k => by have q9 := h_pl_near k; omega) (by omega) (by omega) (fun pl_wanted_42 pl_near_43 h_pl_wanted_42 h_pl_near_43 => ?_)
    exact ⟨10, tb_X9_next_28 tr_fruits tr_standings tr_x tr_height tr_worth tr_ripe tr_foot tr_fork tr_settings no_apron no_basket no_ground no_bruised no_helper no_today h_tr_fruits h_tr_standings h_no_today hpost _ p0 (-2) 0 0 pl_wanted_42 pl_near_43 ro_size ro_numbers (by omega) (by omega) (by omega) (by omega) (fun k => by have q9 := h_pl_near_43 k; omega) (by omega) (by omega)⟩
set_option maxHeartbeats 8000000 in
set_option maxRecDepth 200000 in
theorem ts_X3_waySeconds_67 {post : Int32 → Prop} {K21 : Int32 → Int32 → Int32 → Int32 → Int32 → Int32 → Prop} {n21 : Int} (tr_standings : Int32) (tr_foot : Nat → Int32) (tr_settings : Nat → Int32) (h_tr_standings : 0 ≤ Int32.toInt tr_standings ∧ Int32.toInt tr_standings ≤ 8) (hpost : ∀ (r : Int32) , post r) (hK21 : ∀ (x1 : Int32) (x2 : Int32) (x3 : Int32) (x4 : Int32) (x5 : Int32) (x6 : Int32), (-1 ≤ Int32.toInt x1 ∧ Int32.toInt x1 ≤ 7) → (0 ≤ Int32.toInt x2 ∧ Int32.toInt x2 ≤ 255) → (1 ≤ Int32.toInt x3 ∧ Int32.toInt x3 ≤ 63) → (-2147483648 ≤ Int32.toInt x4 ∧ Int32.toInt x4 ≤ 99) → (0 ≤ Int32.toInt x5 ∧ Int32.toInt x5 ≤ 2147483647) → (0 ≤ Int32.toInt x6 ∧ Int32.toInt x6 ≤ 8) → (8 - Int32.toInt x6 < n21) → K21 x1 x2 x3 x4 x5 x6) (x1 : Int32) (x2 : Int32) (x3 : Int32) (x4 : Int32) (x5 : Int32) (x6 : Int32) (h_x1 : -1 ≤ Int32.toInt x1 ∧ Int32.toInt x1 ≤ 7) (h_x2 : 0 ≤ Int32.toInt x2 ∧ Int32.toInt x2 ≤ 255) (h_x3 : 1 ≤ Int32.toInt x3 ∧ Int32.toInt x3 ≤ 63) (h_x4 : -2147483648 ≤ Int32.toInt x4 ∧ Int32.toInt x4 ≤ 99) (h_x5 : 0 ≤ Int32.toInt x5 ∧ Int32.toInt x5 ≤ 2147483647) (h_x6 : 0 ≤ Int32.toInt x6 ∧ Int32.toInt x6 ≤ 7) (hn21 : 8 - Int32.toInt x6 ≤ n21) : ws_X3_waySeconds_67 post K21 tr_standings tr_foot tr_settings x1 x2 x3 x4 x5 x6 := by
  have l0 : Int32.toInt (1 : Int32) = 1 := (by decide)
  intro v1 ev1
  have f2 : Int32.toInt (x6 + 1) = Int32.toInt x6 + Int32.toInt (1 : Int32) := ta_add _ _ (by omega)
  rw [← ev1] at f2
  have f3 := tp_r x4
  have f4 := tp_r x5
  exact hK21 x1 x2 x3 x4 x5 v1 (by omega) (by omega) (by omega) (by omega) (by omega) (by omega) (by omega)
set_option maxHeartbeats 8000000 in
set_option maxRecDepth 200000 in
theorem ts_X3_waySeconds_117 {post : Int32 → Prop} (tr_standings : Int32) (tr_foot : Nat → Int32) (tr_settings : Nat → Int32) (h_tr_standings : 0 ≤ Int32.toInt tr_standings ∧ Int32.toInt tr_standings ≤ 8) (hpost : ∀ (r : Int32) , post r) (x3 : Int32) (x6 : Int32) (h_x3 : 1 ≤ Int32.toInt x3 ∧ Int32.toInt x3 ≤ 63) : ws_X3_waySeconds_117 post tr_standings tr_foot tr_settings x3 x6 := by
  have l0 : Int32.toInt (3 : Int32) = 3 := (by decide)
  have l1 : Int32.toInt (9 : Int32) = 9 := (by decide)
  intro v5 ev5
  have f6 : Int32.toInt (9 * x3) = Int32.toInt x3 * 9 := ta_cmul _ _ (by decide) (by omega)
  rw [← ev5] at f6
  intro v7 ev7
  have hv7 := congrArg Int32.toInt ev7
  exact hpost _ 
set_option maxHeartbeats 8000000 in
set_option maxRecDepth 200000 in
theorem ts_X3_waySeconds_21 {post : Int32 → Prop} {next : Int32 → Int32 → Int32 → Int32 → Int32 → Int32 → Prop} {n21 : Int} (tr_standings : Int32) (tr_foot : Nat → Int32) (tr_settings : Nat → Int32) (h_tr_standings : 0 ≤ Int32.toInt tr_standings ∧ Int32.toInt tr_standings ≤ 8) (hpost : ∀ (r : Int32) , post r) (hKn : ∀ (x1 : Int32) (x2 : Int32) (x3 : Int32) (x4 : Int32) (x5 : Int32) (x6 : Int32), (-1 ≤ Int32.toInt x1 ∧ Int32.toInt x1 ≤ 7) → (0 ≤ Int32.toInt x2 ∧ Int32.toInt x2 ≤ 255) → (1 ≤ Int32.toInt x3 ∧ Int32.toInt x3 ≤ 63) → (-2147483648 ≤ Int32.toInt x4 ∧ Int32.toInt x4 ≤ 99) → (0 ≤ Int32.toInt x5 ∧ Int32.toInt x5 ≤ 2147483647) → (0 ≤ Int32.toInt x6 ∧ Int32.toInt x6 ≤ 8) → (8 - Int32.toInt x6 < n21) → next x1 x2 x3 x4 x5 x6) (x1 : Int32) (x2 : Int32) (x3 : Int32) (x4 : Int32) (x5 : Int32) (x6 : Int32) (h_x1 : -1 ≤ Int32.toInt x1 ∧ Int32.toInt x1 ≤ 7) (h_x2 : 0 ≤ Int32.toInt x2 ∧ Int32.toInt x2 ≤ 255) (h_x3 : 1 ≤ Int32.toInt x3 ∧ Int32.toInt x3 ≤ 63) (h_x4 : -2147483648 ≤ Int32.toInt x4 ∧ Int32.toInt x4 ≤ 99) (h_x5 : 0 ≤ Int32.toInt x5 ∧ Int32.toInt x5 ≤ 2147483647) (h_x6 : 0 ≤ Int32.toInt x6 ∧ Int32.toInt x6 ≤ 8) (hn21 : 8 - Int32.toInt x6 ≤ n21) : ws_X3_waySeconds_21 post next tr_standings tr_foot tr_settings x1 x2 x3 x4 x5 x6 := by
  have l0 : Int32.toInt ((-1) : Int32) = -1 := (by decide)
  have l1 : Int32.toInt (0 : Int32) = 0 := (by decide)
  have l2 : Int32.toInt (1 : Int32) = 1 := (by decide)
  refine And.intro (fun c9 => ?_) (fun c9 => ?_)
  · skip
    have c9 := (fa_le _ _).mp c9
    intro v10 ev10
    have hv10 := congrArg Int32.toInt ev10
    refine And.intro (fun c12 => ?_) (fun c12 => ?_)
    · skip
      have c12 := (fa_eq _ _).mp c12
      have f13 := tp_r v10
      exact ts_X3_waySeconds_117 tr_standings tr_foot tr_settings h_tr_standings hpost x3 v10 (by omega)
    · skip
      have c12 := mt (fa_eq _ _).mpr c12
      refine And.intro (t_in (by omega)) ?_
      intro v14 ev14
      have hv14 := congrArg Int32.toInt ev14
      intro v16 ev16
      have hv16 := congrArg Int32.toInt ev16
      intro v18 ev18
      have hv18 := congrArg Int32.toInt ev18
      refine And.intro (t_in (by omega)) ?_
      intro v20 ev20
      have hv20 := congrArg Int32.toInt ev20
      intro v21 ev21
      have hv21 := congrArg Int32.toInt ev21
      intro v23 ev23
      have hv23 := congrArg Int32.toInt ev23
      intro v25 ev25
      have f27 := tp_r v18
      have f28 := tp_r v23
      have f26 := ti_min v18 v23
      have hv25 := congrArg Int32.toInt ev25
      intro v29 ev29
      have hv29 := congrArg Int32.toInt ev29
      have f31 := tp_r v29
      exact ts_X3_waySeconds_117 tr_standings tr_foot tr_settings h_tr_standings hpost x3 v29 (by omega)
  · skip
    have c9 := mt (fa_le _ _).mpr c9
    intro v32 ev32
    have f33 := ti_shr x2 x6 (by omega)
    have hv32 := congrArg Int32.toInt ev32
    have f35 := ti_andr v32 1 (by omega)
    have f36 := ti_andl v32 1 (by omega)
    refine And.intro (fun c34 => ?_) (fun c34 => ?_)
    · skip
      have c34 := (fa_eq _ _).mp c34
      have f37 := tp_r x4
      have f38 := tp_r x5
      exact ts_X3_waySeconds_67 tr_standings tr_foot tr_settings h_tr_standings hpost hKn x1 x2 x3 x4 x5 x6 (by omega) (by omega) (by omega) (by omega) (by omega) (by omega) (by omega)
    · skip
      have c34 := mt (fa_eq _ _).mpr c34
      refine And.intro (t_in (by omega)) ?_
      intro v39 ev39
      have hv39 := congrArg Int32.toInt ev39
      intro v41 ev41
      have f42 := tp_r (if v39 < x4 then v39 else x4)
      have f44 := tp_r x4
      have f45 := tp_r v39
      have f43 := ti_min x4 v39
      have hv41 := congrArg Int32.toInt ev41
      refine And.intro (t_in (by omega)) ?_
      intro v46 ev46
      have hv46 := congrArg Int32.toInt ev46
      intro v47 ev47
      have f48 := tp_r (if x5 < v46 then v46 else x5)
      have f50 := tp_r x5
      have f51 := tp_r v46
      have f49 := ti_max x5 v46
      have hv47 := congrArg Int32.toInt ev47
      have f52 := tp_r v41
      have f53 := tp_r v47
      exact ts_X3_waySeconds_67 tr_standings tr_foot tr_settings h_tr_standings hpost hKn x1 x2 x3 v41 v47 x6 (by omega) (by omega) (by omega) (by omega) (by omega) (by omega) (by omega)
set_option maxHeartbeats 8000000 in
set_option maxRecDepth 200000 in
theorem tb_X3_waySeconds_21 {post : Int32 → Prop} (tr_standings : Int32) (tr_foot : Nat → Int32) (tr_settings : Nat → Int32) (h_tr_standings : 0 ≤ Int32.toInt tr_standings ∧ Int32.toInt tr_standings ≤ 8) (hpost : ∀ (r : Int32) , post r) : ∀ (n : Nat) (x1 : Int32) (x2 : Int32) (x3 : Int32) (x4 : Int32) (x5 : Int32) (x6 : Int32), (-1 ≤ Int32.toInt x1 ∧ Int32.toInt x1 ≤ 7) → (0 ≤ Int32.toInt x2 ∧ Int32.toInt x2 ≤ 255) → (1 ≤ Int32.toInt x3 ∧ Int32.toInt x3 ≤ 63) → (-2147483648 ≤ Int32.toInt x4 ∧ Int32.toInt x4 ≤ 99) → (0 ≤ Int32.toInt x5 ∧ Int32.toInt x5 ≤ 2147483647) → (0 ≤ Int32.toInt x6 ∧ Int32.toInt x6 ≤ 8) → (8 - Int32.toInt x6 < (n : Int)) → wb_X3_waySeconds_21 post tr_standings tr_foot tr_settings n x1 x2 x3 x4 x5 x6 := by
  intro n
  induction n with
  | zero =>
    intro x1 x2 x3 x4 x5 x6 h_x1 h_x2 h_x3 h_x4 h_x5 h_x6 hm
    exfalso; omega
  | succ n ih =>
    intro x1 x2 x3 x4 x5 x6 h_x1 h_x2 h_x3 h_x4 h_x5 h_x6 hm
    exact ts_X3_waySeconds_21 tr_standings tr_foot tr_settings h_tr_standings hpost ih x1 x2 x3 x4 x5 x6 h_x1 h_x2 h_x3 h_x4 h_x5 h_x6 (by omega)
set_option maxHeartbeats 8000000 in
set_option maxRecDepth 200000 in
theorem t_X3_waySeconds {post : Int32 → Prop} {p0 : Int32} {p1 : Int32} {tr_standings : Int32} {tr_foot : Nat → Int32} {tr_settings : Nat → Int32} (h_p0 : -1 ≤ Int32.toInt p0 ∧ Int32.toInt p0 ≤ 7) (h_p1 : 0 ≤ Int32.toInt p1 ∧ Int32.toInt p1 ≤ 255) (h_tr_standings : 0 ≤ Int32.toInt tr_standings ∧ Int32.toInt tr_standings ≤ 8) (hpost : ∀ (r : Int32) , post r) : wp_X3_waySeconds post p0 p1 tr_standings tr_foot tr_settings := by
  have l0 : Int32.toInt (0 : Int32) = 0 := (by decide)
  have l1 : Int32.toInt (1431655765 : Int32) = 1431655765 := (by decide)
  have l2 : Int32.toInt (252645135 : Int32) = 252645135 := (by decide)
  have l3 : Int32.toInt (63 : Int32) = 63 := (by decide)
  have l4 : Int32.toInt (858993459 : Int32) = 858993459 := (by decide)
  have l5 : Int32.toInt (99 : Int32) = 99 := (by decide)
  intro v54 ev54
  intro v55 ev55
  have f57 := ti_andr v54 1431655765 (by omega)
  have f56 : Int32.toInt (p1 - (v54 &&& 1431655765)) = Int32.toInt p1 - Int32.toInt (v54 &&& 1431655765) := ta_sub _ _ (by omega)
  rw [← ev55] at f56
  intro v58 ev58
  have f59 := ti_andr v55 858993459 (by omega)
  have hv58 := congrArg Int32.toInt ev58
  intro v60 ev60
  intro v61 ev61
  have f63 := ti_andr v60 858993459 (by omega)
  have f62 : Int32.toInt (v58 + (v60 &&& 858993459)) = Int32.toInt v58 + Int32.toInt (v60 &&& 858993459) := ta_add _ _ (by omega)
  rw [← ev61] at f62
  intro v64 ev64
  have hv64 := congrArg Int32.toInt ev64
  intro v66 ev66
  have f67 := ti_andr v64 252645135 (by omega)
  have hv66 := congrArg Int32.toInt ev66
  intro v68 ev68
  have hv68 := congrArg Int32.toInt ev68
  intro v70 ev70
  have hv70 := congrArg Int32.toInt ev70
  have f73 := ti_andr v70 63 (by omega)
  refine And.intro (fun c72 => ?_) (fun c72 => ?_)
  · skip
    have c72 := mt (fa_eq _ _).mpr c72
    exact ⟨10, tb_X3_waySeconds_21 tr_standings tr_foot tr_settings h_tr_standings hpost _ p0 p1 (v70 &&& 63) 99 0 0 (by omega) (by omega) (by omega) (by omega) (by omega) (by omega) (by omega)⟩
  · skip
    have c72 := (fa_eq _ _).mp c72
    exact hpost _ 
set_option maxHeartbeats 8000000 in
set_option maxRecDepth 200000 in
theorem ts_X3_firstOfWay_50 {post : Int32 → Prop} {K3 : Int32 → Int32 → Int32 → Int32 → Prop} {n3 : Int} (tr_standings : Int32) (tr_foot : Nat → Int32) (tr_settings : Nat → Int32) (h_tr_standings : 0 ≤ Int32.toInt tr_standings ∧ Int32.toInt tr_standings ≤ 8) (hpost : ∀ (r : Int32) , (-1 ≤ Int32.toInt r ∧ Int32.toInt r ≤ 7) → post r) (hK3 : ∀ (x1 : Int32) (x2 : Int32) (x3 : Int32) (x4 : Int32), (-1 ≤ Int32.toInt x1 ∧ Int32.toInt x1 ≤ 7) → (1 ≤ Int32.toInt x2 ∧ Int32.toInt x2 ≤ 255) → (0 ≤ Int32.toInt x4 ∧ Int32.toInt x4 ≤ 8) → (8 - Int32.toInt x4 < n3) → K3 x1 x2 x3 x4) (x1 : Int32) (x2 : Int32) (x3 : Int32) (x4 : Int32) (h_x1 : -1 ≤ Int32.toInt x1 ∧ Int32.toInt x1 ≤ 7) (h_x2 : 1 ≤ Int32.toInt x2 ∧ Int32.toInt x2 ≤ 255) (h_x4 : 0 ≤ Int32.toInt x4 ∧ Int32.toInt x4 ≤ 7) (hn3 : 8 - Int32.toInt x4 ≤ n3) : ws_X3_firstOfWay_50 post K3 tr_standings tr_foot tr_settings x1 x2 x3 x4 := by
  have l0 : Int32.toInt (1 : Int32) = 1 := (by decide)
  intro v1 ev1
  have f2 : Int32.toInt (x4 + 1) = Int32.toInt x4 + Int32.toInt (1 : Int32) := ta_add _ _ (by omega)
  rw [← ev1] at f2
  have f3 := tp_r x3
  exact hK3 x1 x2 x3 v1 (by omega) (by omega) (by omega) (by omega)
set_option maxHeartbeats 8000000 in
set_option maxRecDepth 200000 in
theorem ts_X3_firstOfWay_3 {post : Int32 → Prop} {next : Int32 → Int32 → Int32 → Int32 → Prop} {n3 : Int} (tr_standings : Int32) (tr_foot : Nat → Int32) (tr_settings : Nat → Int32) (h_tr_standings : 0 ≤ Int32.toInt tr_standings ∧ Int32.toInt tr_standings ≤ 8) (hpost : ∀ (r : Int32) , (-1 ≤ Int32.toInt r ∧ Int32.toInt r ≤ 7) → post r) (hKn : ∀ (x1 : Int32) (x2 : Int32) (x3 : Int32) (x4 : Int32), (-1 ≤ Int32.toInt x1 ∧ Int32.toInt x1 ≤ 7) → (1 ≤ Int32.toInt x2 ∧ Int32.toInt x2 ≤ 255) → (0 ≤ Int32.toInt x4 ∧ Int32.toInt x4 ≤ 8) → (8 - Int32.toInt x4 < n3) → next x1 x2 x3 x4) (x1 : Int32) (x2 : Int32) (x3 : Int32) (x4 : Int32) (h_x1 : -1 ≤ Int32.toInt x1 ∧ Int32.toInt x1 ≤ 7) (h_x2 : 1 ≤ Int32.toInt x2 ∧ Int32.toInt x2 ≤ 255) (h_x4 : 0 ≤ Int32.toInt x4 ∧ Int32.toInt x4 ≤ 8) (hn3 : 8 - Int32.toInt x4 ≤ n3) : ws_X3_firstOfWay_3 post next tr_standings tr_foot tr_settings x1 x2 x3 x4 := by
  have l0 : Int32.toInt ((-1) : Int32) = -1 := (by decide)
  have l1 : Int32.toInt (0 : Int32) = 0 := (by decide)
  have l2 : Int32.toInt (1 : Int32) = 1 := (by decide)
  have l3 : Int32.toInt (3 : Int32) = 3 := (by decide)
  refine And.intro (fun c4 => ?_) (fun c4 => ?_)
  · skip
    have c4 := (fa_le _ _).mp c4
    exact hpost _ (by omega)
  · skip
    have c4 := mt (fa_le _ _).mpr c4
    intro v5 ev5
    have f6 := ti_shr x2 x4 (by omega)
    have hv5 := congrArg Int32.toInt ev5
    have f8 := ti_andr v5 1 (by omega)
    have f9 := ti_andl v5 1 (by omega)
    refine And.intro (fun c7 => ?_) (fun c7 => ?_)
    · skip
      have c7 := (fa_eq _ _).mp c7
      have f10 := tp_r x3
      exact ts_X3_firstOfWay_50 tr_standings tr_foot tr_settings h_tr_standings hpost hKn x1 x2 x3 x4 (by omega) (by omega) (by omega) (by omega)
    · skip
      have c7 := mt (fa_eq _ _).mpr c7
      refine And.intro (fun c11 => ?_) (fun c11 => ?_)
      · skip
        have c11 := mt (fa_eq _ _).mpr c11
        intro v12 ev12
        have hv12 := congrArg Int32.toInt ev12
        refine And.intro (t_in (by omega)) ?_
        intro v14 ev14
        have hv14 := congrArg Int32.toInt ev14
        refine And.intro (t_in (by omega)) ?_
        intro v16 ev16
        have hv16 := congrArg Int32.toInt ev16
        intro v18 ev18
        have hv18 := congrArg Int32.toInt ev18
        intro v20 ev20
        have f21 := ti_shl1 7 128 x4 (by decide) (by omega)
        have hv20 := congrArg Int32.toInt ev20
        intro v22 ev22
        have f24 := ti_andl x2 (v20 ^^^ (-1)) (by omega)
        have hv22 := congrArg Int32.toInt ev22
        refine t_X3_waySeconds (by omega) (by omega) (by omega) (fun r25 => ?_)
        intro v26 ev26
        have hv26 := congrArg Int32.toInt ev26
        have f29 := tp_r v26
        have f30 := tp_r x3
        refine And.intro (fun c28 => ?_) (fun c28 => ?_)
        · skip
          have c28 := mt (fa_eq _ _).mpr c28
          exact ts_X3_firstOfWay_50 tr_standings tr_foot tr_settings h_tr_standings hpost hKn x1 x2 x3 x4 (by omega) (by omega) (by omega) (by omega)
        · skip
          have c28 := (fa_eq _ _).mp c28
          exact hpost _ (by omega)
      · skip
        have c11 := (fa_eq _ _).mp c11
        intro v31 ev31
        have f32 := ti_shl1 7 128 x4 (by decide) (by omega)
        have hv31 := congrArg Int32.toInt ev31
        intro v33 ev33
        have f35 := ti_andl x2 (v31 ^^^ (-1)) (by omega)
        have hv33 := congrArg Int32.toInt ev33
        refine t_X3_waySeconds (by omega) (by omega) (by omega) (fun r36 => ?_)
        intro v37 ev37
        have hv37 := congrArg Int32.toInt ev37
        have f40 := tp_r v37
        have f41 := tp_r x3
        refine And.intro (fun c39 => ?_) (fun c39 => ?_)
        · skip
          have c39 := mt (fa_eq _ _).mpr c39
          exact ts_X3_firstOfWay_50 tr_standings tr_foot tr_settings h_tr_standings hpost hKn x1 x2 x3 x4 (by omega) (by omega) (by omega) (by omega)
        · skip
          have c39 := (fa_eq _ _).mp c39
          exact hpost _ (by omega)
set_option maxHeartbeats 8000000 in
set_option maxRecDepth 200000 in
theorem tb_X3_firstOfWay_3 {post : Int32 → Prop} (tr_standings : Int32) (tr_foot : Nat → Int32) (tr_settings : Nat → Int32) (h_tr_standings : 0 ≤ Int32.toInt tr_standings ∧ Int32.toInt tr_standings ≤ 8) (hpost : ∀ (r : Int32) , (-1 ≤ Int32.toInt r ∧ Int32.toInt r ≤ 7) → post r) : ∀ (n : Nat) (x1 : Int32) (x2 : Int32) (x3 : Int32) (x4 : Int32), (-1 ≤ Int32.toInt x1 ∧ Int32.toInt x1 ≤ 7) → (1 ≤ Int32.toInt x2 ∧ Int32.toInt x2 ≤ 255) → (0 ≤ Int32.toInt x4 ∧ Int32.toInt x4 ≤ 8) → (8 - Int32.toInt x4 < (n : Int)) → wb_X3_firstOfWay_3 post tr_standings tr_foot tr_settings n x1 x2 x3 x4 := by
  intro n
  induction n with
  | zero =>
    intro x1 x2 x3 x4 h_x1 h_x2 h_x4 hm
    exfalso; omega
  | succ n ih =>
    intro x1 x2 x3 x4 h_x1 h_x2 h_x4 hm
    exact ts_X3_firstOfWay_3 tr_standings tr_foot tr_settings h_tr_standings hpost ih x1 x2 x3 x4 h_x1 h_x2 h_x4 (by omega)
set_option maxHeartbeats 8000000 in
set_option maxRecDepth 200000 in
theorem t_X3_firstOfWay {post : Int32 → Prop} {p0 : Int32} {p1 : Int32} {p2 : Int32} {tr_standings : Int32} {tr_foot : Nat → Int32} {tr_settings : Nat → Int32} (h_p0 : -1 ≤ Int32.toInt p0 ∧ Int32.toInt p0 ≤ 7) (h_p1 : 1 ≤ Int32.toInt p1 ∧ Int32.toInt p1 ≤ 255) (h_tr_standings : 0 ≤ Int32.toInt tr_standings ∧ Int32.toInt tr_standings ≤ 8) (hpost : ∀ (r : Int32) , (-1 ≤ Int32.toInt r ∧ Int32.toInt r ≤ 7) → post r) : wp_X3_firstOfWay post p0 p1 p2 tr_standings tr_foot tr_settings := by
  have l0 : Int32.toInt (0 : Int32) = 0 := (by decide)
  have f42 := tp_r p2
  exact ⟨10, tb_X3_firstOfWay_3 tr_standings tr_foot tr_settings h_tr_standings hpost _ p0 p1 p2 0 (by omega) (by omega) (by omega) (by omega)⟩
set_option maxHeartbeats 8000000 in
set_option maxRecDepth 200000 in
theorem ts_X9_route_55 {post : Int32 → Int32 → (Nat → Int32) → Prop} {next : Int32 → Int32 → Int32 → Int32 → Int32 → Int32 → (Nat → Int32) → Prop} {n55 : Int} (tr_standings : Int32) (tr_foot : Nat → Int32) (tr_settings : Nat → Int32) (no_ladder : Int32) (h_tr_standings : 0 ≤ Int32.toInt tr_standings ∧ Int32.toInt tr_standings ≤ 8) (h_no_ladder : -1 ≤ Int32.toInt no_ladder ∧ Int32.toInt no_ladder ≤ 7) (hpost : ∀ (r : Int32) (ro_size' : Int32) (ro_numbers' : Nat → Int32), (0 ≤ Int32.toInt ro_size' ∧ Int32.toInt ro_size' ≤ 16) → post r ro_size' ro_numbers') (hKn : ∀ (x2 : Int32) (x3 : Int32) (x4 : Int32) (x5 : Int32) (x6 : Int32) (ro_size : Int32) (ro_numbers : Nat → Int32), (0 ≤ Int32.toInt x2 ∧ Int32.toInt x2 ≤ 255) → (-1 ≤ Int32.toInt x3 ∧ Int32.toInt x3 ≤ 7) → (0 ≤ Int32.toInt x6 ∧ Int32.toInt x6 ≤ 8) → (0 ≤ Int32.toInt ro_size ∧ Int32.toInt ro_size ≤ 16) → (8 - Int32.toInt x6 < n55) → next x2 x3 x4 x5 x6 ro_size ro_numbers) (x2 : Int32) (x3 : Int32) (x4 : Int32) (x5 : Int32) (x6 : Int32) (ro_size : Int32) (ro_numbers : Nat → Int32) (h_x2 : 0 ≤ Int32.toInt x2 ∧ Int32.toInt x2 ≤ 255) (h_x3 : -1 ≤ Int32.toInt x3 ∧ Int32.toInt x3 ≤ 7) (h_x6 : 0 ≤ Int32.toInt x6 ∧ Int32.toInt x6 ≤ 8) (h_ro_size : 0 ≤ Int32.toInt ro_size ∧ Int32.toInt ro_size ≤ 16) (hn55 : 8 - Int32.toInt x6 ≤ n55) : ws_X9_route_55 post next tr_standings tr_foot tr_settings no_ladder x2 x3 x4 x5 x6 ro_size ro_numbers := by
  have l0 : Int32.toInt ((-1) : Int32) = -1 := (by decide)
  have l1 : Int32.toInt (0 : Int32) = 0 := (by decide)
  have l2 : Int32.toInt (1 : Int32) = 1 := (by decide)
  have l3 : Int32.toInt (16 : Int32) = 16 := (by decide)
  have l4 : Int32.toInt (3 : Int32) = 3 := (by decide)
  have l5 : Int32.toInt (8 : Int32) = 8 := (by decide)
  refine And.intro (fun c1 => ?_) (fun c1 => ?_)
  · skip
    have c1 := (fa_le _ _).mp c1
    exact hpost _ _ _ (by omega)
  · skip
    have c1 := mt (fa_le _ _).mpr c1
    refine And.intro (fun c2 => ?_) (fun c2 => ?_)
    · skip
      have c2 := (fa_eq _ _).mp c2
      exact hpost _ _ _ (by omega)
    · skip
      have c2 := mt (fa_eq _ _).mpr c2
      refine t_X3_firstOfWay (by omega) (by omega) (by omega) (fun r3 h_r3 => ?_)
      refine And.intro (fun c4 => ?_) (fun c4 => ?_)
      · skip
        have c4 := mt (fa_eq _ _).mpr c4
        refine And.intro (fun c5 => ?_) (fun c5 => ?_)
        · skip
          have c5 := (fa_le _ _).mp c5
          refine And.intro (fun c6 => ?_) (fun c6 => ?_)
          · skip
            have c6 := mt (fa_eq _ _).mpr c6
            intro v7 ev7
            have hv7 := congrArg Int32.toInt ev7
            refine And.intro (t_in (by omega)) ?_
            intro v9 ev9
            have hv9 := congrArg Int32.toInt ev9
            refine And.intro (t_in (by omega)) ?_
            intro v11 ev11
            have hv11 := congrArg Int32.toInt ev11
            intro v13 ev13
            have hv13 := congrArg Int32.toInt ev13
            intro v15 ev15
            have hv15 := congrArg Int32.toInt ev15
            intro v17 ev17
            have f18 := ti_shl1 7 128 r3 (by decide) (by omega)
            have hv17 := congrArg Int32.toInt ev17
            intro v19 ev19
            have f21 := ti_andl x2 (v17 ^^^ (-1)) (by omega)
            have hv19 := congrArg Int32.toInt ev19
            intro v22 ev22
            have f23 : Int32.toInt (x6 + 1) = Int32.toInt x6 + Int32.toInt (1 : Int32) := ta_add _ _ (by omega)
            rw [← ev22] at f23
            have f24 := tp_r x4
            have f25 := tp_r v15
            exact hKn v19 r3 x4 v15 v22 ro_size ro_numbers (by omega) (by omega) (by omega) (by omega) (by omega)
          · skip
            have c6 := (fa_eq _ _).mp c6
            intro v26 ev26
            have hv26 := congrArg Int32.toInt ev26
            intro v28 ev28
            have f29 := ti_shl1 7 128 r3 (by decide) (by omega)
            have hv28 := congrArg Int32.toInt ev28
            intro v30 ev30
            have f32 := ti_andl x2 (v28 ^^^ (-1)) (by omega)
            have hv30 := congrArg Int32.toInt ev30
            intro v33 ev33
            have f34 : Int32.toInt (x6 + 1) = Int32.toInt x6 + Int32.toInt (1 : Int32) := ta_add _ _ (by omega)
            rw [← ev33] at f34
            have f35 := tp_r x4
            have f36 := tp_r v26
            exact hKn v30 r3 x4 v26 v33 ro_size ro_numbers (by omega) (by omega) (by omega) (by omega) (by omega)
        · skip
          have c5 := mt (fa_le _ _).mpr c5
          refine And.intro (t_in (by omega)) ?_
          intro v37 ev37
          have f38 : Int32.toInt (ro_size + 1) = Int32.toInt ro_size + Int32.toInt (1 : Int32) := ta_add _ _ (by omega)
          rw [← ev37] at f38
          refine And.intro (fun c39 => ?_) (fun c39 => ?_)
          · skip
            have c39 := mt (fa_eq _ _).mpr c39
            intro v40 ev40
            have hv40 := congrArg Int32.toInt ev40
            refine And.intro (t_in (by omega)) ?_
            intro v42 ev42
            have hv42 := congrArg Int32.toInt ev42
            refine And.intro (t_in (by omega)) ?_
            intro v44 ev44
            have hv44 := congrArg Int32.toInt ev44
            intro v46 ev46
            have hv46 := congrArg Int32.toInt ev46
            intro v48 ev48
            have hv48 := congrArg Int32.toInt ev48
            intro v50 ev50
            have f51 := ti_shl1 7 128 r3 (by decide) (by omega)
            have hv50 := congrArg Int32.toInt ev50
            intro v52 ev52
            have f54 := ti_andl x2 (v50 ^^^ (-1)) (by omega)
            have hv52 := congrArg Int32.toInt ev52
            intro v55 ev55
            have f56 : Int32.toInt (x6 + 1) = Int32.toInt x6 + Int32.toInt (1 : Int32) := ta_add _ _ (by omega)
            rw [← ev55] at f56
            have f57 := tp_r x4
            have f58 := tp_r v48
            exact hKn v52 r3 x4 v48 v55 v37 (upd ro_numbers ro_size.toNatClampNeg r3) (by omega) (by omega) (by omega) (by omega) (by omega)
          · skip
            have c39 := (fa_eq _ _).mp c39
            intro v59 ev59
            have hv59 := congrArg Int32.toInt ev59
            intro v61 ev61
            have f62 := ti_shl1 7 128 r3 (by decide) (by omega)
            have hv61 := congrArg Int32.toInt ev61
            intro v63 ev63
            have f65 := ti_andl x2 (v61 ^^^ (-1)) (by omega)
            have hv63 := congrArg Int32.toInt ev63
            intro v66 ev66
            have f67 : Int32.toInt (x6 + 1) = Int32.toInt x6 + Int32.toInt (1 : Int32) := ta_add _ _ (by omega)
            rw [← ev66] at f67
            have f68 := tp_r x4
            have f69 := tp_r v59
            exact hKn v63 r3 x4 v59 v66 v37 (upd ro_numbers ro_size.toNatClampNeg r3) (by omega) (by omega) (by omega) (by omega) (by omega)
      · skip
        have c4 := (fa_eq _ _).mp c4
        exact hpost _ _ _ (by omega)
set_option maxHeartbeats 8000000 in
set_option maxRecDepth 200000 in
theorem tb_X9_route_55 {post : Int32 → Int32 → (Nat → Int32) → Prop} (tr_standings : Int32) (tr_foot : Nat → Int32) (tr_settings : Nat → Int32) (no_ladder : Int32) (h_tr_standings : 0 ≤ Int32.toInt tr_standings ∧ Int32.toInt tr_standings ≤ 8) (h_no_ladder : -1 ≤ Int32.toInt no_ladder ∧ Int32.toInt no_ladder ≤ 7) (hpost : ∀ (r : Int32) (ro_size' : Int32) (ro_numbers' : Nat → Int32), (0 ≤ Int32.toInt ro_size' ∧ Int32.toInt ro_size' ≤ 16) → post r ro_size' ro_numbers') : ∀ (n : Nat) (x2 : Int32) (x3 : Int32) (x4 : Int32) (x5 : Int32) (x6 : Int32) (ro_size : Int32) (ro_numbers : Nat → Int32), (0 ≤ Int32.toInt x2 ∧ Int32.toInt x2 ≤ 255) → (-1 ≤ Int32.toInt x3 ∧ Int32.toInt x3 ≤ 7) → (0 ≤ Int32.toInt x6 ∧ Int32.toInt x6 ≤ 8) → (0 ≤ Int32.toInt ro_size ∧ Int32.toInt ro_size ≤ 16) → (8 - Int32.toInt x6 < (n : Int)) → wb_X9_route_55 post tr_standings tr_foot tr_settings no_ladder n x2 x3 x4 x5 x6 ro_size ro_numbers := by
  intro n
  induction n with
  | zero =>
    intro x2 x3 x4 x5 x6 ro_size ro_numbers h_x2 h_x3 h_x6 h_ro_size hm
    exfalso; omega
  | succ n ih =>
    intro x2 x3 x4 x5 x6 ro_size ro_numbers h_x2 h_x3 h_x6 h_ro_size hm
    exact ts_X9_route_55 tr_standings tr_foot tr_settings no_ladder h_tr_standings h_no_ladder hpost ih x2 x3 x4 x5 x6 ro_size ro_numbers h_x2 h_x3 h_x6 h_ro_size (by omega)
set_option maxHeartbeats 8000000 in
set_option maxRecDepth 200000 in
theorem t_X9_route {post : Int32 → Int32 → (Nat → Int32) → Prop} {p0 : Int32} {tr_standings : Int32} {tr_foot : Nat → Int32} {tr_settings : Nat → Int32} {no_ladder : Int32} {ro_size : Int32} {ro_numbers : Nat → Int32} (h_tr_standings : 0 ≤ Int32.toInt tr_standings ∧ Int32.toInt tr_standings ≤ 8) (h_no_ladder : -1 ≤ Int32.toInt no_ladder ∧ Int32.toInt no_ladder ≤ 7) (h_ro_size : 0 ≤ Int32.toInt ro_size ∧ Int32.toInt ro_size ≤ 16) (hpost : ∀ (r : Int32) (ro_size' : Int32) (ro_numbers' : Nat → Int32), (0 ≤ Int32.toInt ro_size' ∧ Int32.toInt ro_size' ≤ 16) → post r ro_size' ro_numbers') : wp_X9_route post p0 tr_standings tr_foot tr_settings no_ladder ro_size ro_numbers := by
  have l0 : Int32.toInt ((-1) : Int32) = -1 := (by decide)
  have l1 : Int32.toInt (0 : Int32) = 0 := (by decide)
  have l2 : Int32.toInt (1 : Int32) = 1 := (by decide)
  intro v70 ev70
  have f71 := ti_shl1 8 256 tr_standings (by decide) (by omega)
  have hv70 := congrArg Int32.toInt ev70
  refine And.intro (fun c72 => ?_) (fun c72 => ?_)
  · skip
    have c72 := mt (fa_eq _ _).mpr c72
    refine And.intro (fun h9 => absurd h9 (by decide)) (fun _ => ?_)
    exact hpost _ _ _ (by omega)
  · skip
    have c72Z := c72
    have c72 := (fa_eq _ _).mp c72
    have f74 : Int32.toInt (v70 - 1) = Int32.toInt v70 - Int32.toInt (1 : Int32) := ta_sub _ _ (by omega)
    have s75 := ti_subset p0 (v70 - 1) (c72Z) (by omega)
    refine And.intro (fun _ => ?_) (fun h9 => absurd h9 (by decide))
    refine And.intro (fun c76 => ?_) (fun c76 => ?_)
    · skip
      have c76 := mt (fa_eq _ _).mpr c76
      intro v77 ev77
      have f78 := ti_shl1 7 128 no_ladder (by decide) (by omega)
      have hv77 := congrArg Int32.toInt ev77
      have f81 := ti_andl p0 (v77 ^^^ (-1)) (by omega)
      refine t_X3_waySeconds (by omega) (by omega) (by omega) (fun r79 => ?_)
      have f82 := tp_r r79
      exact ⟨10, tb_X9_route_55 tr_standings tr_foot tr_settings no_ladder h_tr_standings h_no_ladder hpost _ (p0 &&& (v77 ^^^ (-1))) no_ladder r79 r79 0 0 ro_numbers (by omega) (by omega) (by omega) (by omega) (by omega)⟩
    · skip
      have c76 := (fa_eq _ _).mp c76
      refine t_X3_waySeconds (by omega) (by omega) (by omega) (fun r83 => ?_)
      have f84 := tp_r r83
      exact ⟨10, tb_X9_route_55 tr_standings tr_foot tr_settings no_ladder h_tr_standings h_no_ladder hpost _ p0 no_ladder r83 r83 0 0 ro_numbers (by omega) (by omega) (by omega) (by omega) (by omega)⟩
set_option maxHeartbeats 8000000 in
set_option maxRecDepth 200000 in
theorem ts_X5_timeAll_60 {post : (Nat → Int32) → (Nat → Int32) → (Nat → Int32) → Prop} {K2 : Int32 → (Nat → Int32) → (Nat → Int32) → (Nat → Int32) → Prop} {K15 : Int32 → Int32 → (Nat → Int32) → (Nat → Int32) → (Nat → Int32) → Prop} {n2 : Int} {n15 : Int} (pl_wanted : Int32) (pl_near : Nat → Int32) (tr_fruits : Int32) (tr_standings : Int32) (tr_x : Nat → Int32) (tr_height : Nat → Int32) (tr_worth : Nat → Int32) (tr_foot : Nat → Int32) (tr_fork : Nat → Int32) (no_bruised : Int32) (ru_length : Int32) (ru_program : Nat → Int32) (h_pl_wanted : 0 ≤ Int32.toInt pl_wanted ∧ Int32.toInt pl_wanted ≤ 65535) (h_pl_near : ∀ k : Nat, 0 ≤ Int32.toInt (pl_near k) ∧ Int32.toInt (pl_near k) ≤ 65535) (h_tr_fruits : 0 ≤ Int32.toInt tr_fruits ∧ Int32.toInt tr_fruits ≤ 16) (h_tr_standings : 0 ≤ Int32.toInt tr_standings ∧ Int32.toInt tr_standings ≤ 8) (h_ru_length : 0 ≤ Int32.toInt ru_length ∧ Int32.toInt ru_length ≤ 40) (hpost : ∀ (pl_seconds' : Nat → Int32) (ru_given' : Nat → Int32) (ru_stack' : Nat → Int32), (∀ k : Nat, 0 ≤ Int32.toInt (pl_seconds' k) ∧ Int32.toInt (pl_seconds' k) ≤ 99) → post pl_seconds' ru_given' ru_stack') (hK2 : ∀ (x1 : Int32) (pl_seconds : Nat → Int32) (ru_given : Nat → Int32) (ru_stack : Nat → Int32), (0 ≤ Int32.toInt x1 ∧ Int32.toInt x1 ≤ 16) → (∀ k : Nat, 0 ≤ Int32.toInt (pl_seconds k) ∧ Int32.toInt (pl_seconds k) ≤ 99) → (16 - Int32.toInt x1 < n2) → K2 x1 pl_seconds ru_given ru_stack) (hK15 : ∀ (x1 : Int32) (x2 : Int32) (pl_seconds : Nat → Int32) (ru_given : Nat → Int32) (ru_stack : Nat → Int32), (0 ≤ Int32.toInt x1 ∧ Int32.toInt x1 ≤ 15) → (0 ≤ Int32.toInt x2 ∧ Int32.toInt x2 ≤ 8) → (∀ k : Nat, 0 ≤ Int32.toInt (pl_seconds k) ∧ Int32.toInt (pl_seconds k) ≤ 99) → (16 - Int32.toInt x1 ≤ n2) → (8 - Int32.toInt x2 < n15) → K15 x1 x2 pl_seconds ru_given ru_stack) (x1 : Int32) (x2 : Int32) (pl_seconds : Nat → Int32) (ru_given : Nat → Int32) (ru_stack : Nat → Int32) (h_x1 : 0 ≤ Int32.toInt x1 ∧ Int32.toInt x1 ≤ 15) (h_x2 : 0 ≤ Int32.toInt x2 ∧ Int32.toInt x2 ≤ 7) (h_pl_seconds : ∀ k : Nat, 0 ≤ Int32.toInt (pl_seconds k) ∧ Int32.toInt (pl_seconds k) ≤ 99) (hn2 : 16 - Int32.toInt x1 ≤ n2) (hn15 : 8 - Int32.toInt x2 ≤ n15) : ws_X5_timeAll_60 post K2 K15 pl_wanted pl_near tr_fruits tr_standings tr_x tr_height tr_worth tr_foot tr_fork no_bruised ru_length ru_program x1 x2 pl_seconds ru_given ru_stack := by
  have l0 : Int32.toInt (1 : Int32) = 1 := (by decide)
  intro v1 ev1
  have f2 : Int32.toInt (x2 + 1) = Int32.toInt x2 + Int32.toInt (1 : Int32) := ta_add _ _ (by omega)
  rw [← ev1] at f2
  exact hK15 x1 v1 pl_seconds ru_given ru_stack (by omega) (by omega) (fun k => by have q9 := h_pl_seconds k; omega) (by omega) (by omega)
set_option maxHeartbeats 8000000 in
set_option maxRecDepth 200000 in
theorem ts_X5_timeAll_15 {post : (Nat → Int32) → (Nat → Int32) → (Nat → Int32) → Prop} {K2 : Int32 → (Nat → Int32) → (Nat → Int32) → (Nat → Int32) → Prop} {next : Int32 → Int32 → (Nat → Int32) → (Nat → Int32) → (Nat → Int32) → Prop} {n15 : Int} {n2 : Int} (pl_wanted : Int32) (pl_near : Nat → Int32) (tr_fruits : Int32) (tr_standings : Int32) (tr_x : Nat → Int32) (tr_height : Nat → Int32) (tr_worth : Nat → Int32) (tr_foot : Nat → Int32) (tr_fork : Nat → Int32) (no_bruised : Int32) (ru_length : Int32) (ru_program : Nat → Int32) (h_pl_wanted : 0 ≤ Int32.toInt pl_wanted ∧ Int32.toInt pl_wanted ≤ 65535) (h_pl_near : ∀ k : Nat, 0 ≤ Int32.toInt (pl_near k) ∧ Int32.toInt (pl_near k) ≤ 65535) (h_tr_fruits : 0 ≤ Int32.toInt tr_fruits ∧ Int32.toInt tr_fruits ≤ 16) (h_tr_standings : 0 ≤ Int32.toInt tr_standings ∧ Int32.toInt tr_standings ≤ 8) (h_ru_length : 0 ≤ Int32.toInt ru_length ∧ Int32.toInt ru_length ≤ 40) (hpost : ∀ (pl_seconds' : Nat → Int32) (ru_given' : Nat → Int32) (ru_stack' : Nat → Int32), (∀ k : Nat, 0 ≤ Int32.toInt (pl_seconds' k) ∧ Int32.toInt (pl_seconds' k) ≤ 99) → post pl_seconds' ru_given' ru_stack') (hK2 : ∀ (x1 : Int32) (pl_seconds : Nat → Int32) (ru_given : Nat → Int32) (ru_stack : Nat → Int32), (0 ≤ Int32.toInt x1 ∧ Int32.toInt x1 ≤ 16) → (∀ k : Nat, 0 ≤ Int32.toInt (pl_seconds k) ∧ Int32.toInt (pl_seconds k) ≤ 99) → (16 - Int32.toInt x1 < n2) → K2 x1 pl_seconds ru_given ru_stack) (hKn : ∀ (x1 : Int32) (x2 : Int32) (pl_seconds : Nat → Int32) (ru_given : Nat → Int32) (ru_stack : Nat → Int32), (0 ≤ Int32.toInt x1 ∧ Int32.toInt x1 ≤ 15) → (0 ≤ Int32.toInt x2 ∧ Int32.toInt x2 ≤ 8) → (∀ k : Nat, 0 ≤ Int32.toInt (pl_seconds k) ∧ Int32.toInt (pl_seconds k) ≤ 99) → (16 - Int32.toInt x1 ≤ n2) → (8 - Int32.toInt x2 < n15) → next x1 x2 pl_seconds ru_given ru_stack) (x1 : Int32) (x2 : Int32) (pl_seconds : Nat → Int32) (ru_given : Nat → Int32) (ru_stack : Nat → Int32) (h_x1 : 0 ≤ Int32.toInt x1 ∧ Int32.toInt x1 ≤ 15) (h_x2 : 0 ≤ Int32.toInt x2 ∧ Int32.toInt x2 ≤ 8) (h_pl_seconds : ∀ k : Nat, 0 ≤ Int32.toInt (pl_seconds k) ∧ Int32.toInt (pl_seconds k) ≤ 99) (hn2 : 16 - Int32.toInt x1 ≤ n2) (hn15 : 8 - Int32.toInt x2 ≤ n15) : ws_X5_timeAll_15 post K2 next pl_wanted pl_near tr_fruits tr_standings tr_x tr_height tr_worth tr_foot tr_fork no_bruised ru_length ru_program x1 x2 pl_seconds ru_given ru_stack := by
  have l0 : Int32.toInt (0 : Int32) = 0 := (by decide)
  have l1 : Int32.toInt (1 : Int32) = 1 := (by decide)
  have l2 : Int32.toInt (8 : Int32) = 8 := (by decide)
  refine And.intro (fun c3 => ?_) (fun c3 => ?_)
  · skip
    have c3 := (fa_le _ _).mp c3
    intro v4 ev4
    have f5 : Int32.toInt (x1 + 1) = Int32.toInt x1 + Int32.toInt (1 : Int32) := ta_add _ _ (by omega)
    rw [← ev4] at f5
    exact hK2 v4 pl_seconds ru_given ru_stack (by omega) (fun k => by have q9 := h_pl_seconds k; omega) (by omega)
  · skip
    have c3 := mt (fa_le _ _).mpr c3
    refine And.intro (t_in (by omega)) ?_
    intro v6 ev6
    have f9 := h_pl_near x2.toNatClampNeg
    have f8 := ti_andr pl_wanted (pl_near x2.toNatClampNeg) (by omega)
    have f10 := ti_andl pl_wanted (pl_near x2.toNatClampNeg) (by omega)
    have f7 := ti_shr (pl_wanted &&& (pl_near x2.toNatClampNeg)) x1 (by omega)
    have hv6 := congrArg Int32.toInt ev6
    have f12 := ti_andr v6 1 (by omega)
    have f13 := ti_andl v6 1 (by omega)
    refine And.intro (fun c11 => ?_) (fun c11 => ?_)
    · skip
      have c11 := (fa_eq _ _).mp c11
      exact ts_X5_timeAll_60 pl_wanted pl_near tr_fruits tr_standings tr_x tr_height tr_worth tr_foot tr_fork no_bruised ru_length ru_program h_pl_wanted h_pl_near h_tr_fruits h_tr_standings h_ru_length hpost hK2 hKn x1 x2 pl_seconds ru_given ru_stack (by omega) (by omega) (fun k => by have q9 := h_pl_seconds k; omega) (by omega) (by omega)
    · skip
      have c11 := mt (fa_eq _ _).mpr c11
      intro v14 ev14
      have f15 : Int32.toInt (x1 * 8) = Int32.toInt x1 * 8 := ta_mulc _ _ (by decide) (by omega)
      rw [← ev14] at f15
      intro v16 ev16
      have f17 : Int32.toInt (v14 + x2) = Int32.toInt v14 + Int32.toInt x2 := ta_add _ _ (by omega)
      rw [← ev16] at f17
      refine t_X0_pickSeconds (by omega) (by omega) (by omega) (by omega) (by omega) (fun r20 ru_given_18 ru_stack_19 h_r20 => ?_)
      refine And.intro (t_in (by omega)) ?_
      have a21 : ∀ k : Nat, 0 ≤ Int32.toInt ((upd pl_seconds v16.toNatClampNeg r20) k) ∧ Int32.toInt ((upd pl_seconds v16.toNatClampNeg r20) k) ≤ 99 := t_upd (fun k => by have q9 := h_pl_seconds k; omega) (by omega)
      exact ts_X5_timeAll_60 pl_wanted pl_near tr_fruits tr_standings tr_x tr_height tr_worth tr_foot tr_fork no_bruised ru_length ru_program h_pl_wanted h_pl_near h_tr_fruits h_tr_standings h_ru_length hpost hK2 hKn x1 x2 (upd pl_seconds v16.toNatClampNeg r20) ru_given_18 ru_stack_19 (by omega) (by omega) (fun k => by have q9 := a21 k; omega) (by omega) (by omega)
set_option maxHeartbeats 8000000 in
set_option maxRecDepth 200000 in
theorem tb_X5_timeAll_15 {post : (Nat → Int32) → (Nat → Int32) → (Nat → Int32) → Prop} {K2 : Int32 → (Nat → Int32) → (Nat → Int32) → (Nat → Int32) → Prop} {n2 : Int} (pl_wanted : Int32) (pl_near : Nat → Int32) (tr_fruits : Int32) (tr_standings : Int32) (tr_x : Nat → Int32) (tr_height : Nat → Int32) (tr_worth : Nat → Int32) (tr_foot : Nat → Int32) (tr_fork : Nat → Int32) (no_bruised : Int32) (ru_length : Int32) (ru_program : Nat → Int32) (h_pl_wanted : 0 ≤ Int32.toInt pl_wanted ∧ Int32.toInt pl_wanted ≤ 65535) (h_pl_near : ∀ k : Nat, 0 ≤ Int32.toInt (pl_near k) ∧ Int32.toInt (pl_near k) ≤ 65535) (h_tr_fruits : 0 ≤ Int32.toInt tr_fruits ∧ Int32.toInt tr_fruits ≤ 16) (h_tr_standings : 0 ≤ Int32.toInt tr_standings ∧ Int32.toInt tr_standings ≤ 8) (h_ru_length : 0 ≤ Int32.toInt ru_length ∧ Int32.toInt ru_length ≤ 40) (hpost : ∀ (pl_seconds' : Nat → Int32) (ru_given' : Nat → Int32) (ru_stack' : Nat → Int32), (∀ k : Nat, 0 ≤ Int32.toInt (pl_seconds' k) ∧ Int32.toInt (pl_seconds' k) ≤ 99) → post pl_seconds' ru_given' ru_stack') (hK2 : ∀ (x1 : Int32) (pl_seconds : Nat → Int32) (ru_given : Nat → Int32) (ru_stack : Nat → Int32), (0 ≤ Int32.toInt x1 ∧ Int32.toInt x1 ≤ 16) → (∀ k : Nat, 0 ≤ Int32.toInt (pl_seconds k) ∧ Int32.toInt (pl_seconds k) ≤ 99) → (16 - Int32.toInt x1 < n2) → K2 x1 pl_seconds ru_given ru_stack) : ∀ (n : Nat) (x1 : Int32) (x2 : Int32) (pl_seconds : Nat → Int32) (ru_given : Nat → Int32) (ru_stack : Nat → Int32), (0 ≤ Int32.toInt x1 ∧ Int32.toInt x1 ≤ 15) → (0 ≤ Int32.toInt x2 ∧ Int32.toInt x2 ≤ 8) → (∀ k : Nat, 0 ≤ Int32.toInt (pl_seconds k) ∧ Int32.toInt (pl_seconds k) ≤ 99) → (16 - Int32.toInt x1 ≤ n2) → (8 - Int32.toInt x2 < (n : Int)) → wb_X5_timeAll_15 post K2 pl_wanted pl_near tr_fruits tr_standings tr_x tr_height tr_worth tr_foot tr_fork no_bruised ru_length ru_program n x1 x2 pl_seconds ru_given ru_stack := by
  intro n
  induction n with
  | zero =>
    intro x1 x2 pl_seconds ru_given ru_stack h_x1 h_x2 h_pl_seconds hn2 hm
    exfalso; omega
  | succ n ih =>
    intro x1 x2 pl_seconds ru_given ru_stack h_x1 h_x2 h_pl_seconds hn2 hm
    exact ts_X5_timeAll_15 pl_wanted pl_near tr_fruits tr_standings tr_x tr_height tr_worth tr_foot tr_fork no_bruised ru_length ru_program h_pl_wanted h_pl_near h_tr_fruits h_tr_standings h_ru_length hpost hK2 ih x1 x2 pl_seconds ru_given ru_stack h_x1 h_x2 h_pl_seconds hn2 (by omega)
set_option maxHeartbeats 8000000 in
set_option maxRecDepth 200000 in
theorem ts_X5_timeAll_2 {post : (Nat → Int32) → (Nat → Int32) → (Nat → Int32) → Prop} {next : Int32 → (Nat → Int32) → (Nat → Int32) → (Nat → Int32) → Prop} {n2 : Int} (pl_wanted : Int32) (pl_near : Nat → Int32) (tr_fruits : Int32) (tr_standings : Int32) (tr_x : Nat → Int32) (tr_height : Nat → Int32) (tr_worth : Nat → Int32) (tr_foot : Nat → Int32) (tr_fork : Nat → Int32) (no_bruised : Int32) (ru_length : Int32) (ru_program : Nat → Int32) (h_pl_wanted : 0 ≤ Int32.toInt pl_wanted ∧ Int32.toInt pl_wanted ≤ 65535) (h_pl_near : ∀ k : Nat, 0 ≤ Int32.toInt (pl_near k) ∧ Int32.toInt (pl_near k) ≤ 65535) (h_tr_fruits : 0 ≤ Int32.toInt tr_fruits ∧ Int32.toInt tr_fruits ≤ 16) (h_tr_standings : 0 ≤ Int32.toInt tr_standings ∧ Int32.toInt tr_standings ≤ 8) (h_ru_length : 0 ≤ Int32.toInt ru_length ∧ Int32.toInt ru_length ≤ 40) (hpost : ∀ (pl_seconds' : Nat → Int32) (ru_given' : Nat → Int32) (ru_stack' : Nat → Int32), (∀ k : Nat, 0 ≤ Int32.toInt (pl_seconds' k) ∧ Int32.toInt (pl_seconds' k) ≤ 99) → post pl_seconds' ru_given' ru_stack') (hKn : ∀ (x1 : Int32) (pl_seconds : Nat → Int32) (ru_given : Nat → Int32) (ru_stack : Nat → Int32), (0 ≤ Int32.toInt x1 ∧ Int32.toInt x1 ≤ 16) → (∀ k : Nat, 0 ≤ Int32.toInt (pl_seconds k) ∧ Int32.toInt (pl_seconds k) ≤ 99) → (16 - Int32.toInt x1 < n2) → next x1 pl_seconds ru_given ru_stack) (x1 : Int32) (pl_seconds : Nat → Int32) (ru_given : Nat → Int32) (ru_stack : Nat → Int32) (h_x1 : 0 ≤ Int32.toInt x1 ∧ Int32.toInt x1 ≤ 16) (h_pl_seconds : ∀ k : Nat, 0 ≤ Int32.toInt (pl_seconds k) ∧ Int32.toInt (pl_seconds k) ≤ 99) (hn2 : 16 - Int32.toInt x1 ≤ n2) : ws_X5_timeAll_2 post next pl_wanted pl_near tr_fruits tr_standings tr_x tr_height tr_worth tr_foot tr_fork no_bruised ru_length ru_program x1 pl_seconds ru_given ru_stack := by
  have l0 : Int32.toInt (0 : Int32) = 0 := (by decide)
  refine And.intro (fun c22 => ?_) (fun c22 => ?_)
  · skip
    have c22 := (fa_le _ _).mp c22
    exact hpost _ _ _ (fun k => by have q9 := h_pl_seconds k; omega)
  · skip
    have c22 := mt (fa_le _ _).mpr c22
    exact ⟨10, tb_X5_timeAll_15 pl_wanted pl_near tr_fruits tr_standings tr_x tr_height tr_worth tr_foot tr_fork no_bruised ru_length ru_program h_pl_wanted h_pl_near h_tr_fruits h_tr_standings h_ru_length hpost hKn _ x1 0 pl_seconds ru_given ru_stack (by omega) (by omega) (fun k => by have q9 := h_pl_seconds k; omega) (by omega) (by omega)⟩
set_option maxHeartbeats 8000000 in
set_option maxRecDepth 200000 in
theorem tb_X5_timeAll_2 {post : (Nat → Int32) → (Nat → Int32) → (Nat → Int32) → Prop} (pl_wanted : Int32) (pl_near : Nat → Int32) (tr_fruits : Int32) (tr_standings : Int32) (tr_x : Nat → Int32) (tr_height : Nat → Int32) (tr_worth : Nat → Int32) (tr_foot : Nat → Int32) (tr_fork : Nat → Int32) (no_bruised : Int32) (ru_length : Int32) (ru_program : Nat → Int32) (h_pl_wanted : 0 ≤ Int32.toInt pl_wanted ∧ Int32.toInt pl_wanted ≤ 65535) (h_pl_near : ∀ k : Nat, 0 ≤ Int32.toInt (pl_near k) ∧ Int32.toInt (pl_near k) ≤ 65535) (h_tr_fruits : 0 ≤ Int32.toInt tr_fruits ∧ Int32.toInt tr_fruits ≤ 16) (h_tr_standings : 0 ≤ Int32.toInt tr_standings ∧ Int32.toInt tr_standings ≤ 8) (h_ru_length : 0 ≤ Int32.toInt ru_length ∧ Int32.toInt ru_length ≤ 40) (hpost : ∀ (pl_seconds' : Nat → Int32) (ru_given' : Nat → Int32) (ru_stack' : Nat → Int32), (∀ k : Nat, 0 ≤ Int32.toInt (pl_seconds' k) ∧ Int32.toInt (pl_seconds' k) ≤ 99) → post pl_seconds' ru_given' ru_stack') : ∀ (n : Nat) (x1 : Int32) (pl_seconds : Nat → Int32) (ru_given : Nat → Int32) (ru_stack : Nat → Int32), (0 ≤ Int32.toInt x1 ∧ Int32.toInt x1 ≤ 16) → (∀ k : Nat, 0 ≤ Int32.toInt (pl_seconds k) ∧ Int32.toInt (pl_seconds k) ≤ 99) → (16 - Int32.toInt x1 < (n : Int)) → wb_X5_timeAll_2 post pl_wanted pl_near tr_fruits tr_standings tr_x tr_height tr_worth tr_foot tr_fork no_bruised ru_length ru_program n x1 pl_seconds ru_given ru_stack := by
  intro n
  induction n with
  | zero =>
    intro x1 pl_seconds ru_given ru_stack h_x1 h_pl_seconds hm
    exfalso; omega
  | succ n ih =>
    intro x1 pl_seconds ru_given ru_stack h_x1 h_pl_seconds hm
    exact ts_X5_timeAll_2 pl_wanted pl_near tr_fruits tr_standings tr_x tr_height tr_worth tr_foot tr_fork no_bruised ru_length ru_program h_pl_wanted h_pl_near h_tr_fruits h_tr_standings h_ru_length hpost ih x1 pl_seconds ru_given ru_stack h_x1 h_pl_seconds (by omega)
set_option maxHeartbeats 8000000 in
set_option maxRecDepth 200000 in
theorem t_X5_timeAll {post : (Nat → Int32) → (Nat → Int32) → (Nat → Int32) → Prop} {pl_wanted : Int32} {pl_near : Nat → Int32} {pl_seconds : Nat → Int32} {tr_fruits : Int32} {tr_standings : Int32} {tr_x : Nat → Int32} {tr_height : Nat → Int32} {tr_worth : Nat → Int32} {tr_foot : Nat → Int32} {tr_fork : Nat → Int32} {no_bruised : Int32} {ru_length : Int32} {ru_given : Nat → Int32} {ru_stack : Nat → Int32} {ru_program : Nat → Int32} (h_pl_wanted : 0 ≤ Int32.toInt pl_wanted ∧ Int32.toInt pl_wanted ≤ 65535) (h_pl_near : ∀ k : Nat, 0 ≤ Int32.toInt (pl_near k) ∧ Int32.toInt (pl_near k) ≤ 65535) (h_pl_seconds : ∀ k : Nat, 0 ≤ Int32.toInt (pl_seconds k) ∧ Int32.toInt (pl_seconds k) ≤ 99) (h_tr_fruits : 0 ≤ Int32.toInt tr_fruits ∧ Int32.toInt tr_fruits ≤ 16) (h_tr_standings : 0 ≤ Int32.toInt tr_standings ∧ Int32.toInt tr_standings ≤ 8) (h_ru_length : 0 ≤ Int32.toInt ru_length ∧ Int32.toInt ru_length ≤ 40) (hpost : ∀ (pl_seconds' : Nat → Int32) (ru_given' : Nat → Int32) (ru_stack' : Nat → Int32), (∀ k : Nat, 0 ≤ Int32.toInt (pl_seconds' k) ∧ Int32.toInt (pl_seconds' k) ≤ 99) → post pl_seconds' ru_given' ru_stack') : wp_X5_timeAll post pl_wanted pl_near pl_seconds tr_fruits tr_standings tr_x tr_height tr_worth tr_foot tr_fork no_bruised ru_length ru_given ru_stack ru_program := by
  have l0 : Int32.toInt (0 : Int32) = 0 := (by decide)
  exact ⟨18, tb_X5_timeAll_2 pl_wanted pl_near tr_fruits tr_standings tr_x tr_height tr_worth tr_foot tr_fork no_bruised ru_length ru_program h_pl_wanted h_pl_near h_tr_fruits h_tr_standings h_ru_length hpost _ 0 pl_seconds ru_given ru_stack (by omega) (fun k => by have q9 := h_pl_seconds k; omega) (by omega)⟩
set_option maxHeartbeats 8000000 in
set_option maxRecDepth 200000 in
theorem ts_X5_quickest_76 {post : Int32 → Prop} {K8 : Int32 → Int32 → Int32 → Int32 → Int32 → Prop} {n8 : Int} (pl_near : Nat → Int32) (pl_seconds : Nat → Int32) (tr_standings : Int32) (h_pl_near : ∀ k : Nat, 0 ≤ Int32.toInt (pl_near k) ∧ Int32.toInt (pl_near k) ≤ 65535) (h_pl_seconds : ∀ k : Nat, 0 ≤ Int32.toInt (pl_seconds k) ∧ Int32.toInt (pl_seconds k) ≤ 99) (h_tr_standings : 0 ≤ Int32.toInt tr_standings ∧ Int32.toInt tr_standings ≤ 8) (hpost : ∀ (r : Int32) , (-1 ≤ Int32.toInt r ∧ Int32.toInt r ≤ 7) → post r) (hK8 : ∀ (x1 : Int32) (x2 : Int32) (x3 : Int32) (x4 : Int32) (x5 : Int32), (0 ≤ Int32.toInt x1 ∧ Int32.toInt x1 ≤ 15) → (0 ≤ Int32.toInt x2 ∧ Int32.toInt x2 ≤ 255) → (-1 ≤ Int32.toInt x3 ∧ Int32.toInt x3 ≤ 7) → (0 ≤ Int32.toInt x4 ∧ Int32.toInt x4 ≤ 99) → (0 ≤ Int32.toInt x5 ∧ Int32.toInt x5 ≤ 8) → (8 - Int32.toInt x5 < n8) → K8 x1 x2 x3 x4 x5) (x1 : Int32) (x2 : Int32) (x3 : Int32) (x4 : Int32) (x5 : Int32) (h_x1 : 0 ≤ Int32.toInt x1 ∧ Int32.toInt x1 ≤ 15) (h_x2 : 0 ≤ Int32.toInt x2 ∧ Int32.toInt x2 ≤ 255) (h_x3 : -1 ≤ Int32.toInt x3 ∧ Int32.toInt x3 ≤ 7) (h_x4 : 0 ≤ Int32.toInt x4 ∧ Int32.toInt x4 ≤ 99) (h_x5 : 0 ≤ Int32.toInt x5 ∧ Int32.toInt x5 ≤ 7) (hn8 : 8 - Int32.toInt x5 ≤ n8) : ws_X5_quickest_76 post K8 pl_near pl_seconds tr_standings x1 x2 x3 x4 x5 := by
  have l0 : Int32.toInt (1 : Int32) = 1 := (by decide)
  intro v1 ev1
  have f2 : Int32.toInt (x5 + 1) = Int32.toInt x5 + Int32.toInt (1 : Int32) := ta_add _ _ (by omega)
  rw [← ev1] at f2
  exact hK8 x1 x2 x3 x4 v1 (by omega) (by omega) (by omega) (by omega) (by omega) (by omega)
set_option maxHeartbeats 8000000 in
set_option maxRecDepth 200000 in
theorem ts_X5_quickest_69 {post : Int32 → Prop} {K8 : Int32 → Int32 → Int32 → Int32 → Int32 → Prop} {n8 : Int} (pl_near : Nat → Int32) (pl_seconds : Nat → Int32) (tr_standings : Int32) (h_pl_near : ∀ k : Nat, 0 ≤ Int32.toInt (pl_near k) ∧ Int32.toInt (pl_near k) ≤ 65535) (h_pl_seconds : ∀ k : Nat, 0 ≤ Int32.toInt (pl_seconds k) ∧ Int32.toInt (pl_seconds k) ≤ 99) (h_tr_standings : 0 ≤ Int32.toInt tr_standings ∧ Int32.toInt tr_standings ≤ 8) (hpost : ∀ (r : Int32) , (-1 ≤ Int32.toInt r ∧ Int32.toInt r ≤ 7) → post r) (hK8 : ∀ (x1 : Int32) (x2 : Int32) (x3 : Int32) (x4 : Int32) (x5 : Int32), (0 ≤ Int32.toInt x1 ∧ Int32.toInt x1 ≤ 15) → (0 ≤ Int32.toInt x2 ∧ Int32.toInt x2 ≤ 255) → (-1 ≤ Int32.toInt x3 ∧ Int32.toInt x3 ≤ 7) → (0 ≤ Int32.toInt x4 ∧ Int32.toInt x4 ≤ 99) → (0 ≤ Int32.toInt x5 ∧ Int32.toInt x5 ≤ 8) → (8 - Int32.toInt x5 < n8) → K8 x1 x2 x3 x4 x5) (x1 : Int32) (x2 : Int32) (x5 : Int32) (x6 : Int32) (h_x1 : 0 ≤ Int32.toInt x1 ∧ Int32.toInt x1 ≤ 15) (h_x2 : 0 ≤ Int32.toInt x2 ∧ Int32.toInt x2 ≤ 255) (h_x5 : 0 ≤ Int32.toInt x5 ∧ Int32.toInt x5 ≤ 7) (h_x6 : 0 ≤ Int32.toInt x6 ∧ Int32.toInt x6 ≤ 99) (hn8 : 8 - Int32.toInt x5 ≤ n8) : ws_X5_quickest_69 post K8 pl_near pl_seconds tr_standings x1 x2 x5 x6 := by
  exact ts_X5_quickest_76 pl_near pl_seconds tr_standings h_pl_near h_pl_seconds h_tr_standings hpost hK8 x1 x2 x5 x6 x5 (by omega) (by omega) (by omega) (by omega) (by omega) (by omega)
set_option maxHeartbeats 8000000 in
set_option maxRecDepth 200000 in
theorem ts_X5_quickest_8 {post : Int32 → Prop} {next : Int32 → Int32 → Int32 → Int32 → Int32 → Prop} {n8 : Int} (pl_near : Nat → Int32) (pl_seconds : Nat → Int32) (tr_standings : Int32) (h_pl_near : ∀ k : Nat, 0 ≤ Int32.toInt (pl_near k) ∧ Int32.toInt (pl_near k) ≤ 65535) (h_pl_seconds : ∀ k : Nat, 0 ≤ Int32.toInt (pl_seconds k) ∧ Int32.toInt (pl_seconds k) ≤ 99) (h_tr_standings : 0 ≤ Int32.toInt tr_standings ∧ Int32.toInt tr_standings ≤ 8) (hpost : ∀ (r : Int32) , (-1 ≤ Int32.toInt r ∧ Int32.toInt r ≤ 7) → post r) (hKn : ∀ (x1 : Int32) (x2 : Int32) (x3 : Int32) (x4 : Int32) (x5 : Int32), (0 ≤ Int32.toInt x1 ∧ Int32.toInt x1 ≤ 15) → (0 ≤ Int32.toInt x2 ∧ Int32.toInt x2 ≤ 255) → (-1 ≤ Int32.toInt x3 ∧ Int32.toInt x3 ≤ 7) → (0 ≤ Int32.toInt x4 ∧ Int32.toInt x4 ≤ 99) → (0 ≤ Int32.toInt x5 ∧ Int32.toInt x5 ≤ 8) → (8 - Int32.toInt x5 < n8) → next x1 x2 x3 x4 x5) (x1 : Int32) (x2 : Int32) (x3 : Int32) (x4 : Int32) (x5 : Int32) (h_x1 : 0 ≤ Int32.toInt x1 ∧ Int32.toInt x1 ≤ 15) (h_x2 : 0 ≤ Int32.toInt x2 ∧ Int32.toInt x2 ≤ 255) (h_x3 : -1 ≤ Int32.toInt x3 ∧ Int32.toInt x3 ≤ 7) (h_x4 : 0 ≤ Int32.toInt x4 ∧ Int32.toInt x4 ≤ 99) (h_x5 : 0 ≤ Int32.toInt x5 ∧ Int32.toInt x5 ≤ 8) (hn8 : 8 - Int32.toInt x5 ≤ n8) : ws_X5_quickest_8 post next pl_near pl_seconds tr_standings x1 x2 x3 x4 x5 := by
  have l0 : Int32.toInt ((-1) : Int32) = -1 := (by decide)
  have l1 : Int32.toInt (0 : Int32) = 0 := (by decide)
  have l2 : Int32.toInt (1 : Int32) = 1 := (by decide)
  have l3 : Int32.toInt (8 : Int32) = 8 := (by decide)
  refine And.intro (fun c3 => ?_) (fun c3 => ?_)
  · skip
    have c3 := (fa_le _ _).mp c3
    exact hpost _ (by omega)
  · skip
    have c3 := mt (fa_le _ _).mpr c3
    intro v4 ev4
    have f5 := ti_shr x2 x5 (by omega)
    have hv4 := congrArg Int32.toInt ev4
    have f7 := ti_andr v4 1 (by omega)
    have f8 := ti_andl v4 1 (by omega)
    refine And.intro (fun c6 => ?_) (fun c6 => ?_)
    · skip
      have c6 := (fa_eq _ _).mp c6
      exact ts_X5_quickest_76 pl_near pl_seconds tr_standings h_pl_near h_pl_seconds h_tr_standings hpost hKn x1 x2 x3 x4 x5 (by omega) (by omega) (by omega) (by omega) (by omega) (by omega)
    · skip
      have c6 := mt (fa_eq _ _).mpr c6
      refine And.intro (t_in (by omega)) ?_
      intro v9 ev9
      have f10 := h_pl_near x5.toNatClampNeg
      have hv9 := congrArg Int32.toInt ev9
      intro v11 ev11
      have f12 := ti_shr v9 x1 (by omega)
      have hv11 := congrArg Int32.toInt ev11
      have f14 := ti_andr v11 1 (by omega)
      have f15 := ti_andl v11 1 (by omega)
      refine And.intro (fun c13 => ?_) (fun c13 => ?_)
      · skip
        have c13 := (fa_eq _ _).mp c13
        exact ts_X5_quickest_76 pl_near pl_seconds tr_standings h_pl_near h_pl_seconds h_tr_standings hpost hKn x1 x2 x3 x4 x5 (by omega) (by omega) (by omega) (by omega) (by omega) (by omega)
      · skip
        have c13 := mt (fa_eq _ _).mpr c13
        intro v16 ev16
        have f17 : Int32.toInt (x1 * 8) = Int32.toInt x1 * 8 := ta_mulc _ _ (by decide) (by omega)
        rw [← ev16] at f17
        intro v18 ev18
        have f19 : Int32.toInt (v16 + x5) = Int32.toInt v16 + Int32.toInt x5 := ta_add _ _ (by omega)
        rw [← ev18] at f19
        refine And.intro (t_in (by omega)) ?_
        intro v20 ev20
        have f21 := h_pl_seconds v18.toNatClampNeg
        have hv20 := congrArg Int32.toInt ev20
        refine And.intro (fun c22 => ?_) (fun c22 => ?_)
        · skip
          have c22 := (fa_eq _ _).mp c22
          exact ts_X5_quickest_69 pl_near pl_seconds tr_standings h_pl_near h_pl_seconds h_tr_standings hpost hKn x1 x2 x5 v20 (by omega) (by omega) (by omega) (by omega) (by omega)
        · skip
          have c22 := mt (fa_eq _ _).mpr c22
          refine And.intro (fun c23 => ?_) (fun c23 => ?_)
          · skip
            have c23 := (fa_le _ _).mp c23
            exact ts_X5_quickest_76 pl_near pl_seconds tr_standings h_pl_near h_pl_seconds h_tr_standings hpost hKn x1 x2 x3 x4 x5 (by omega) (by omega) (by omega) (by omega) (by omega) (by omega)
          · skip
            have c23 := mt (fa_le _ _).mpr c23
            exact ts_X5_quickest_69 pl_near pl_seconds tr_standings h_pl_near h_pl_seconds h_tr_standings hpost hKn x1 x2 x5 v20 (by omega) (by omega) (by omega) (by omega) (by omega)
set_option maxHeartbeats 8000000 in
set_option maxRecDepth 200000 in
theorem tb_X5_quickest_8 {post : Int32 → Prop} (pl_near : Nat → Int32) (pl_seconds : Nat → Int32) (tr_standings : Int32) (h_pl_near : ∀ k : Nat, 0 ≤ Int32.toInt (pl_near k) ∧ Int32.toInt (pl_near k) ≤ 65535) (h_pl_seconds : ∀ k : Nat, 0 ≤ Int32.toInt (pl_seconds k) ∧ Int32.toInt (pl_seconds k) ≤ 99) (h_tr_standings : 0 ≤ Int32.toInt tr_standings ∧ Int32.toInt tr_standings ≤ 8) (hpost : ∀ (r : Int32) , (-1 ≤ Int32.toInt r ∧ Int32.toInt r ≤ 7) → post r) : ∀ (n : Nat) (x1 : Int32) (x2 : Int32) (x3 : Int32) (x4 : Int32) (x5 : Int32), (0 ≤ Int32.toInt x1 ∧ Int32.toInt x1 ≤ 15) → (0 ≤ Int32.toInt x2 ∧ Int32.toInt x2 ≤ 255) → (-1 ≤ Int32.toInt x3 ∧ Int32.toInt x3 ≤ 7) → (0 ≤ Int32.toInt x4 ∧ Int32.toInt x4 ≤ 99) → (0 ≤ Int32.toInt x5 ∧ Int32.toInt x5 ≤ 8) → (8 - Int32.toInt x5 < (n : Int)) → wb_X5_quickest_8 post pl_near pl_seconds tr_standings n x1 x2 x3 x4 x5 := by
  intro n
  induction n with
  | zero =>
    intro x1 x2 x3 x4 x5 h_x1 h_x2 h_x3 h_x4 h_x5 hm
    exfalso; omega
  | succ n ih =>
    intro x1 x2 x3 x4 x5 h_x1 h_x2 h_x3 h_x4 h_x5 hm
    exact ts_X5_quickest_8 pl_near pl_seconds tr_standings h_pl_near h_pl_seconds h_tr_standings hpost ih x1 x2 x3 x4 x5 h_x1 h_x2 h_x3 h_x4 h_x5 (by omega)
set_option maxHeartbeats 8000000 in
set_option maxRecDepth 200000 in
theorem t_X5_quickest {post : Int32 → Prop} {p0 : Int32} {p1 : Int32} {pl_near : Nat → Int32} {pl_seconds : Nat → Int32} {tr_standings : Int32} (h_p0 : 0 ≤ Int32.toInt p0 ∧ Int32.toInt p0 ≤ 15) (h_p1 : 0 ≤ Int32.toInt p1 ∧ Int32.toInt p1 ≤ 255) (h_pl_near : ∀ k : Nat, 0 ≤ Int32.toInt (pl_near k) ∧ Int32.toInt (pl_near k) ≤ 65535) (h_pl_seconds : ∀ k : Nat, 0 ≤ Int32.toInt (pl_seconds k) ∧ Int32.toInt (pl_seconds k) ≤ 99) (h_tr_standings : 0 ≤ Int32.toInt tr_standings ∧ Int32.toInt tr_standings ≤ 8) (hpost : ∀ (r : Int32) , (-1 ≤ Int32.toInt r ∧ Int32.toInt r ≤ 7) → post r) : wp_X5_quickest post p0 p1 pl_near pl_seconds tr_standings := by
  have l0 : Int32.toInt ((-1) : Int32) = -1 := (by decide)
  have l1 : Int32.toInt (0 : Int32) = 0 := (by decide)
  exact ⟨10, tb_X5_quickest_8 pl_near pl_seconds tr_standings h_pl_near h_pl_seconds h_tr_standings hpost _ p0 p1 (-1) 0 0 (by omega) (by omega) (by omega) (by omega) (by omega) (by omega)⟩
set_option maxHeartbeats 8000000 in
set_option maxRecDepth 200000 in
theorem ts_X5_workSeconds_96 {post : Int32 → Int32 → Int32 → Int32 → (Nat → Int32) → Prop} {K28 : Int32 → Int32 → Int32 → Int32 → Int32 → (Nat → Int32) → Prop} {n28 : Int} (pl_wanted : Int32) (pl_near : Nat → Int32) (pl_seconds : Nat → Int32) (tr_fruits : Int32) (tr_standings : Int32) (tr_foot : Nat → Int32) (tr_fork : Nat → Int32) (tr_settings : Nat → Int32) (no_ladder : Int32) (h_pl_wanted : 0 ≤ Int32.toInt pl_wanted ∧ Int32.toInt pl_wanted ≤ 65535) (h_pl_near : ∀ k : Nat, 0 ≤ Int32.toInt (pl_near k) ∧ Int32.toInt (pl_near k) ≤ 65535) (h_pl_seconds : ∀ k : Nat, 0 ≤ Int32.toInt (pl_seconds k) ∧ Int32.toInt (pl_seconds k) ≤ 99) (h_tr_fruits : 0 ≤ Int32.toInt tr_fruits ∧ Int32.toInt tr_fruits ≤ 16) (h_tr_standings : 0 ≤ Int32.toInt tr_standings ∧ Int32.toInt tr_standings ≤ 8) (h_no_ladder : -1 ≤ Int32.toInt no_ladder ∧ Int32.toInt no_ladder ≤ 7) (hpost : ∀ (r : Int32) (pl_moves' : Int32) (pl_picking' : Int32) (pl_downs' : Int32) (pl_many' : Nat → Int32), post r pl_moves' pl_picking' pl_downs' pl_many') (hK28 : ∀ (x1 : Int32) (x2 : Int32) (pl_moves : Int32) (pl_picking : Int32) (pl_downs : Int32) (pl_many : Nat → Int32), (0 ≤ Int32.toInt x1 ∧ Int32.toInt x1 ≤ 255) → (0 ≤ Int32.toInt x2 ∧ Int32.toInt x2 ≤ 16) → (16 - Int32.toInt x2 < n28) → K28 x1 x2 pl_moves pl_picking pl_downs pl_many) (x1 : Int32) (x2 : Int32) (pl_moves : Int32) (pl_picking : Int32) (pl_downs : Int32) (pl_many : Nat → Int32) (h_x1 : 0 ≤ Int32.toInt x1 ∧ Int32.toInt x1 ≤ 255) (h_x2 : 0 ≤ Int32.toInt x2 ∧ Int32.toInt x2 ≤ 15) (hn28 : 16 - Int32.toInt x2 ≤ n28) : ws_X5_workSeconds_96 post K28 pl_wanted pl_near pl_seconds tr_fruits tr_standings tr_foot tr_fork tr_settings no_ladder x1 x2 pl_moves pl_picking pl_downs pl_many := by
  have l0 : Int32.toInt (1 : Int32) = 1 := (by decide)
  intro v1 ev1
  have f2 : Int32.toInt (x2 + 1) = Int32.toInt x2 + Int32.toInt (1 : Int32) := ta_add _ _ (by omega)
  rw [← ev1] at f2
  have f3 := tp_r pl_moves
  have f4 := tp_r pl_picking
  have f5 := tp_r pl_downs
  exact hK28 x1 v1 pl_moves pl_picking pl_downs pl_many (by omega) (by omega) (by omega)
set_option maxHeartbeats 8000000 in
set_option maxRecDepth 200000 in
theorem ts_X5_workSeconds_60 {post : Int32 → Int32 → Int32 → Int32 → (Nat → Int32) → Prop} {K28 : Int32 → Int32 → Int32 → Int32 → Int32 → (Nat → Int32) → Prop} {n28 : Int} (pl_wanted : Int32) (pl_near : Nat → Int32) (pl_seconds : Nat → Int32) (tr_fruits : Int32) (tr_standings : Int32) (tr_foot : Nat → Int32) (tr_fork : Nat → Int32) (tr_settings : Nat → Int32) (no_ladder : Int32) (h_pl_wanted : 0 ≤ Int32.toInt pl_wanted ∧ Int32.toInt pl_wanted ≤ 65535) (h_pl_near : ∀ k : Nat, 0 ≤ Int32.toInt (pl_near k) ∧ Int32.toInt (pl_near k) ≤ 65535) (h_pl_seconds : ∀ k : Nat, 0 ≤ Int32.toInt (pl_seconds k) ∧ Int32.toInt (pl_seconds k) ≤ 99) (h_tr_fruits : 0 ≤ Int32.toInt tr_fruits ∧ Int32.toInt tr_fruits ≤ 16) (h_tr_standings : 0 ≤ Int32.toInt tr_standings ∧ Int32.toInt tr_standings ≤ 8) (h_no_ladder : -1 ≤ Int32.toInt no_ladder ∧ Int32.toInt no_ladder ≤ 7) (hpost : ∀ (r : Int32) (pl_moves' : Int32) (pl_picking' : Int32) (pl_downs' : Int32) (pl_many' : Nat → Int32), post r pl_moves' pl_picking' pl_downs' pl_many') (hK28 : ∀ (x1 : Int32) (x2 : Int32) (pl_moves : Int32) (pl_picking : Int32) (pl_downs : Int32) (pl_many : Nat → Int32), (0 ≤ Int32.toInt x1 ∧ Int32.toInt x1 ≤ 255) → (0 ≤ Int32.toInt x2 ∧ Int32.toInt x2 ≤ 16) → (16 - Int32.toInt x2 < n28) → K28 x1 x2 pl_moves pl_picking pl_downs pl_many) (x1 : Int32) (x2 : Int32) (k0 : Int32) (pl_moves : Int32) (pl_picking : Int32) (pl_downs : Int32) (pl_many : Nat → Int32) (h_x1 : 0 ≤ Int32.toInt x1 ∧ Int32.toInt x1 ≤ 255) (h_x2 : 0 ≤ Int32.toInt x2 ∧ Int32.toInt x2 ≤ 15) (h_k0 : -1 ≤ Int32.toInt k0 ∧ Int32.toInt k0 ≤ 7) (hn28 : 16 - Int32.toInt x2 ≤ n28) : ws_X5_workSeconds_60 post K28 pl_wanted pl_near pl_seconds tr_fruits tr_standings tr_foot tr_fork tr_settings no_ladder x1 x2 k0 pl_moves pl_picking pl_downs pl_many := by
  have l0 : Int32.toInt ((-1) : Int32) = -1 := (by decide)
  have l1 : Int32.toInt (8 : Int32) = 8 := (by decide)
  refine And.intro (fun c6 => ?_) (fun c6 => ?_)
  · skip
    have c6 := (fa_eq _ _).mp c6
    have f7 := tp_r pl_moves
    have f8 := tp_r pl_picking
    have f9 := tp_r pl_downs
    exact ts_X5_workSeconds_96 pl_wanted pl_near pl_seconds tr_fruits tr_standings tr_foot tr_fork tr_settings no_ladder h_pl_wanted h_pl_near h_pl_seconds h_tr_fruits h_tr_standings h_no_ladder hpost hK28 x1 x2 pl_moves pl_picking pl_downs pl_many (by omega) (by omega) (by omega)
  · skip
    have c6 := mt (fa_eq _ _).mpr c6
    intro v10 ev10
    have f11 : Int32.toInt (x2 * 8) = Int32.toInt x2 * 8 := ta_mulc _ _ (by decide) (by omega)
    rw [← ev10] at f11
    intro v12 ev12
    have f13 : Int32.toInt (v10 + k0) = Int32.toInt v10 + Int32.toInt k0 := ta_add _ _ (by omega)
    rw [← ev12] at f13
    refine And.intro (t_in (by omega)) ?_
    intro v14 ev14
    have hv14 := congrArg Int32.toInt ev14
    refine And.intro (t_in (by omega)) ?_
    intro v16 ev16
    have hv16 := congrArg Int32.toInt ev16
    intro v18 ev18
    have hv18 := congrArg Int32.toInt ev18
    refine And.intro (t_in (by omega)) ?_
    have f20 := tp_r pl_moves
    have f21 := tp_r v14
    have f22 := tp_r pl_downs
    exact ts_X5_workSeconds_96 pl_wanted pl_near pl_seconds tr_fruits tr_standings tr_foot tr_fork tr_settings no_ladder h_pl_wanted h_pl_near h_pl_seconds h_tr_fruits h_tr_standings h_no_ladder hpost hK28 x1 x2 pl_moves v14 pl_downs (upd pl_many k0.toNatClampNeg v18) (by omega) (by omega) (by omega)
set_option maxHeartbeats 8000000 in
set_option maxRecDepth 200000 in
theorem ts_X5_workSeconds_109 {post : Int32 → Int32 → Int32 → Int32 → (Nat → Int32) → Prop} {next : Int32 → Int32 → Int32 → Int32 → Int32 → (Nat → Int32) → Prop} {n109 : Int} (pl_wanted : Int32) (pl_near : Nat → Int32) (pl_seconds : Nat → Int32) (tr_fruits : Int32) (tr_standings : Int32) (tr_foot : Nat → Int32) (tr_fork : Nat → Int32) (tr_settings : Nat → Int32) (no_ladder : Int32) (h_pl_wanted : 0 ≤ Int32.toInt pl_wanted ∧ Int32.toInt pl_wanted ≤ 65535) (h_pl_near : ∀ k : Nat, 0 ≤ Int32.toInt (pl_near k) ∧ Int32.toInt (pl_near k) ≤ 65535) (h_pl_seconds : ∀ k : Nat, 0 ≤ Int32.toInt (pl_seconds k) ∧ Int32.toInt (pl_seconds k) ≤ 99) (h_tr_fruits : 0 ≤ Int32.toInt tr_fruits ∧ Int32.toInt tr_fruits ≤ 16) (h_tr_standings : 0 ≤ Int32.toInt tr_standings ∧ Int32.toInt tr_standings ≤ 8) (h_no_ladder : -1 ≤ Int32.toInt no_ladder ∧ Int32.toInt no_ladder ≤ 7) (hpost : ∀ (r : Int32) (pl_moves' : Int32) (pl_picking' : Int32) (pl_downs' : Int32) (pl_many' : Nat → Int32), post r pl_moves' pl_picking' pl_downs' pl_many') (hKn : ∀ (x1 : Int32) (x2 : Int32) (pl_moves : Int32) (pl_picking : Int32) (pl_downs : Int32) (pl_many : Nat → Int32), (0 ≤ Int32.toInt x1 ∧ Int32.toInt x1 ≤ 255) → (0 ≤ Int32.toInt x2 ∧ Int32.toInt x2 ≤ 8) → (8 - Int32.toInt x2 < n109) → next x1 x2 pl_moves pl_picking pl_downs pl_many) (x1 : Int32) (x2 : Int32) (pl_moves : Int32) (pl_picking : Int32) (pl_downs : Int32) (pl_many : Nat → Int32) (h_x1 : 0 ≤ Int32.toInt x1 ∧ Int32.toInt x1 ≤ 255) (h_x2 : 0 ≤ Int32.toInt x2 ∧ Int32.toInt x2 ≤ 8) (hn109 : 8 - Int32.toInt x2 ≤ n109) : ws_X5_workSeconds_109 post next pl_wanted pl_near pl_seconds tr_fruits tr_standings tr_foot tr_fork tr_settings no_ladder x1 x2 pl_moves pl_picking pl_downs pl_many := by
  have l0 : Int32.toInt ((-1) : Int32) = -1 := (by decide)
  have l1 : Int32.toInt (0 : Int32) = 0 := (by decide)
  have l2 : Int32.toInt (1 : Int32) = 1 := (by decide)
  have l3 : Int32.toInt (4 : Int32) = 4 := (by decide)
  refine And.intro (fun c23 => ?_) (fun c23 => ?_)
  · skip
    have c23 := (fa_le _ _).mp c23
    refine And.intro (fun c24 => ?_) (fun c24 => ?_)
    · skip
      have c24 := mt (fa_eq _ _).mpr c24
      intro v25 ev25
      have f26 := ti_shl1 7 128 no_ladder (by decide) (by omega)
      have hv25 := congrArg Int32.toInt ev25
      have f29 := ti_andl x1 (v25 ^^^ (-1)) (by omega)
      refine t_X3_waySeconds (by omega) (by omega) (by omega) (fun r27 => ?_)
      intro v30 ev30
      have hv30 := congrArg Int32.toInt ev30
      exact hpost _ _ _ _ _ 
    · skip
      have c24 := (fa_eq _ _).mp c24
      refine t_X3_waySeconds (by omega) (by omega) (by omega) (fun r32 => ?_)
      intro v33 ev33
      have hv33 := congrArg Int32.toInt ev33
      exact hpost _ _ _ _ _ 
  · skip
    have c23 := mt (fa_le _ _).mpr c23
    refine And.intro (t_in (by omega)) ?_
    intro v35 ev35
    have hv35 := congrArg Int32.toInt ev35
    intro v37 ev37
    have hv37 := congrArg Int32.toInt ev37
    intro v39 ev39
    have f40 := tp_r (if 1 < v37 then v37 else 1)
    have f42 := tp_r v37
    have f41 := ti_max (1 : Int32) v37
    have hv39 := congrArg Int32.toInt ev39
    intro v43 ev43
    have hv43 := congrArg Int32.toInt ev43
    intro v45 ev45
    have hv45 := congrArg Int32.toInt ev45
    have f47 := tp_r v39
    refine And.intro (mt (fa_eq _ _).mp (by omega)) ?_
    intro v48 ev48
    refine And.intro (t_in (by omega)) ?_
    intro v49 ev49
    have hv49 := congrArg Int32.toInt ev49
    intro v51 ev51
    have hv51 := congrArg Int32.toInt ev51
    intro v53 ev53
    have hv53 := congrArg Int32.toInt ev53
    intro v55 ev55
    have f56 : Int32.toInt (x2 + 1) = Int32.toInt x2 + Int32.toInt (1 : Int32) := ta_add _ _ (by omega)
    rw [← ev55] at f56
    have f57 := tp_r pl_moves
    have f58 := tp_r pl_picking
    have f59 := tp_r v53
    exact hKn x1 v55 pl_moves pl_picking v53 pl_many (by omega) (by omega) (by omega)
set_option maxHeartbeats 8000000 in
set_option maxRecDepth 200000 in
theorem tb_X5_workSeconds_109 {post : Int32 → Int32 → Int32 → Int32 → (Nat → Int32) → Prop} (pl_wanted : Int32) (pl_near : Nat → Int32) (pl_seconds : Nat → Int32) (tr_fruits : Int32) (tr_standings : Int32) (tr_foot : Nat → Int32) (tr_fork : Nat → Int32) (tr_settings : Nat → Int32) (no_ladder : Int32) (h_pl_wanted : 0 ≤ Int32.toInt pl_wanted ∧ Int32.toInt pl_wanted ≤ 65535) (h_pl_near : ∀ k : Nat, 0 ≤ Int32.toInt (pl_near k) ∧ Int32.toInt (pl_near k) ≤ 65535) (h_pl_seconds : ∀ k : Nat, 0 ≤ Int32.toInt (pl_seconds k) ∧ Int32.toInt (pl_seconds k) ≤ 99) (h_tr_fruits : 0 ≤ Int32.toInt tr_fruits ∧ Int32.toInt tr_fruits ≤ 16) (h_tr_standings : 0 ≤ Int32.toInt tr_standings ∧ Int32.toInt tr_standings ≤ 8) (h_no_ladder : -1 ≤ Int32.toInt no_ladder ∧ Int32.toInt no_ladder ≤ 7) (hpost : ∀ (r : Int32) (pl_moves' : Int32) (pl_picking' : Int32) (pl_downs' : Int32) (pl_many' : Nat → Int32), post r pl_moves' pl_picking' pl_downs' pl_many') : ∀ (n : Nat) (x1 : Int32) (x2 : Int32) (pl_moves : Int32) (pl_picking : Int32) (pl_downs : Int32) (pl_many : Nat → Int32), (0 ≤ Int32.toInt x1 ∧ Int32.toInt x1 ≤ 255) → (0 ≤ Int32.toInt x2 ∧ Int32.toInt x2 ≤ 8) → (8 - Int32.toInt x2 < (n : Int)) → wb_X5_workSeconds_109 post pl_wanted pl_near pl_seconds tr_fruits tr_standings tr_foot tr_fork tr_settings no_ladder n x1 x2 pl_moves pl_picking pl_downs pl_many := by
  intro n
  induction n with
  | zero =>
    intro x1 x2 pl_moves pl_picking pl_downs pl_many h_x1 h_x2 hm
    exfalso; omega
  | succ n ih =>
    intro x1 x2 pl_moves pl_picking pl_downs pl_many h_x1 h_x2 hm
    exact ts_X5_workSeconds_109 pl_wanted pl_near pl_seconds tr_fruits tr_standings tr_foot tr_fork tr_settings no_ladder h_pl_wanted h_pl_near h_pl_seconds h_tr_fruits h_tr_standings h_no_ladder hpost ih x1 x2 pl_moves pl_picking pl_downs pl_many h_x1 h_x2 (by omega)
set_option maxHeartbeats 8000000 in
set_option maxRecDepth 200000 in
theorem ts_X5_workSeconds_28 {post : Int32 → Int32 → Int32 → Int32 → (Nat → Int32) → Prop} {next : Int32 → Int32 → Int32 → Int32 → Int32 → (Nat → Int32) → Prop} {n28 : Int} (pl_wanted : Int32) (pl_near : Nat → Int32) (pl_seconds : Nat → Int32) (tr_fruits : Int32) (tr_standings : Int32) (tr_foot : Nat → Int32) (tr_fork : Nat → Int32) (tr_settings : Nat → Int32) (no_ladder : Int32) (h_pl_wanted : 0 ≤ Int32.toInt pl_wanted ∧ Int32.toInt pl_wanted ≤ 65535) (h_pl_near : ∀ k : Nat, 0 ≤ Int32.toInt (pl_near k) ∧ Int32.toInt (pl_near k) ≤ 65535) (h_pl_seconds : ∀ k : Nat, 0 ≤ Int32.toInt (pl_seconds k) ∧ Int32.toInt (pl_seconds k) ≤ 99) (h_tr_fruits : 0 ≤ Int32.toInt tr_fruits ∧ Int32.toInt tr_fruits ≤ 16) (h_tr_standings : 0 ≤ Int32.toInt tr_standings ∧ Int32.toInt tr_standings ≤ 8) (h_no_ladder : -1 ≤ Int32.toInt no_ladder ∧ Int32.toInt no_ladder ≤ 7) (hpost : ∀ (r : Int32) (pl_moves' : Int32) (pl_picking' : Int32) (pl_downs' : Int32) (pl_many' : Nat → Int32), post r pl_moves' pl_picking' pl_downs' pl_many') (hKn : ∀ (x1 : Int32) (x2 : Int32) (pl_moves : Int32) (pl_picking : Int32) (pl_downs : Int32) (pl_many : Nat → Int32), (0 ≤ Int32.toInt x1 ∧ Int32.toInt x1 ≤ 255) → (0 ≤ Int32.toInt x2 ∧ Int32.toInt x2 ≤ 16) → (16 - Int32.toInt x2 < n28) → next x1 x2 pl_moves pl_picking pl_downs pl_many) (x1 : Int32) (x2 : Int32) (pl_moves : Int32) (pl_picking : Int32) (pl_downs : Int32) (pl_many : Nat → Int32) (h_x1 : 0 ≤ Int32.toInt x1 ∧ Int32.toInt x1 ≤ 255) (h_x2 : 0 ≤ Int32.toInt x2 ∧ Int32.toInt x2 ≤ 16) (hn28 : 16 - Int32.toInt x2 ≤ n28) : ws_X5_workSeconds_28 post next pl_wanted pl_near pl_seconds tr_fruits tr_standings tr_foot tr_fork tr_settings no_ladder x1 x2 pl_moves pl_picking pl_downs pl_many := by
  have l0 : Int32.toInt ((-1) : Int32) = -1 := (by decide)
  have l1 : Int32.toInt (0 : Int32) = 0 := (by decide)
  have l2 : Int32.toInt (1 : Int32) = 1 := (by decide)
  refine And.intro (fun c60 => ?_) (fun c60 => ?_)
  · skip
    have c60 := (fa_le _ _).mp c60
    have f61 := tp_r pl_moves
    have f62 := tp_r pl_picking
    exact ⟨10, tb_X5_workSeconds_109 pl_wanted pl_near pl_seconds tr_fruits tr_standings tr_foot tr_fork tr_settings no_ladder h_pl_wanted h_pl_near h_pl_seconds h_tr_fruits h_tr_standings h_no_ladder hpost _ x1 0 pl_moves pl_picking 0 pl_many (by omega) (by omega) (by omega)⟩
  · skip
    have c60 := mt (fa_le _ _).mpr c60
    intro v63 ev63
    have f64 := ti_shr pl_wanted x2 (by omega)
    have hv63 := congrArg Int32.toInt ev63
    have f66 := ti_andr v63 1 (by omega)
    have f67 := ti_andl v63 1 (by omega)
    refine And.intro (fun c65 => ?_) (fun c65 => ?_)
    · skip
      have c65 := (fa_eq _ _).mp c65
      have f68 := tp_r pl_moves
      have f69 := tp_r pl_picking
      have f70 := tp_r pl_downs
      exact ts_X5_workSeconds_60 pl_wanted pl_near pl_seconds tr_fruits tr_standings tr_foot tr_fork tr_settings no_ladder h_pl_wanted h_pl_near h_pl_seconds h_tr_fruits h_tr_standings h_no_ladder hpost hKn x1 x2 (-1) pl_moves pl_picking pl_downs pl_many (by omega) (by omega) (by omega) (by omega)
    · skip
      have c65 := mt (fa_eq _ _).mpr c65
      refine t_X5_quickest (by omega) (by omega) (fun k => by have q9 := h_pl_near k; omega) (fun k => by have q9 := h_pl_seconds k; omega) (by omega) (fun r71 h_r71 => ?_)
      have f72 := tp_r pl_moves
      have f73 := tp_r pl_picking
      have f74 := tp_r pl_downs
      exact ts_X5_workSeconds_60 pl_wanted pl_near pl_seconds tr_fruits tr_standings tr_foot tr_fork tr_settings no_ladder h_pl_wanted h_pl_near h_pl_seconds h_tr_fruits h_tr_standings h_no_ladder hpost hKn x1 x2 r71 pl_moves pl_picking pl_downs pl_many (by omega) (by omega) (by omega) (by omega)
set_option maxHeartbeats 8000000 in
set_option maxRecDepth 200000 in
theorem tb_X5_workSeconds_28 {post : Int32 → Int32 → Int32 → Int32 → (Nat → Int32) → Prop} (pl_wanted : Int32) (pl_near : Nat → Int32) (pl_seconds : Nat → Int32) (tr_fruits : Int32) (tr_standings : Int32) (tr_foot : Nat → Int32) (tr_fork : Nat → Int32) (tr_settings : Nat → Int32) (no_ladder : Int32) (h_pl_wanted : 0 ≤ Int32.toInt pl_wanted ∧ Int32.toInt pl_wanted ≤ 65535) (h_pl_near : ∀ k : Nat, 0 ≤ Int32.toInt (pl_near k) ∧ Int32.toInt (pl_near k) ≤ 65535) (h_pl_seconds : ∀ k : Nat, 0 ≤ Int32.toInt (pl_seconds k) ∧ Int32.toInt (pl_seconds k) ≤ 99) (h_tr_fruits : 0 ≤ Int32.toInt tr_fruits ∧ Int32.toInt tr_fruits ≤ 16) (h_tr_standings : 0 ≤ Int32.toInt tr_standings ∧ Int32.toInt tr_standings ≤ 8) (h_no_ladder : -1 ≤ Int32.toInt no_ladder ∧ Int32.toInt no_ladder ≤ 7) (hpost : ∀ (r : Int32) (pl_moves' : Int32) (pl_picking' : Int32) (pl_downs' : Int32) (pl_many' : Nat → Int32), post r pl_moves' pl_picking' pl_downs' pl_many') : ∀ (n : Nat) (x1 : Int32) (x2 : Int32) (pl_moves : Int32) (pl_picking : Int32) (pl_downs : Int32) (pl_many : Nat → Int32), (0 ≤ Int32.toInt x1 ∧ Int32.toInt x1 ≤ 255) → (0 ≤ Int32.toInt x2 ∧ Int32.toInt x2 ≤ 16) → (16 - Int32.toInt x2 < (n : Int)) → wb_X5_workSeconds_28 post pl_wanted pl_near pl_seconds tr_fruits tr_standings tr_foot tr_fork tr_settings no_ladder n x1 x2 pl_moves pl_picking pl_downs pl_many := by
  intro n
  induction n with
  | zero =>
    intro x1 x2 pl_moves pl_picking pl_downs pl_many h_x1 h_x2 hm
    exfalso; omega
  | succ n ih =>
    intro x1 x2 pl_moves pl_picking pl_downs pl_many h_x1 h_x2 hm
    exact ts_X5_workSeconds_28 pl_wanted pl_near pl_seconds tr_fruits tr_standings tr_foot tr_fork tr_settings no_ladder h_pl_wanted h_pl_near h_pl_seconds h_tr_fruits h_tr_standings h_no_ladder hpost ih x1 x2 pl_moves pl_picking pl_downs pl_many h_x1 h_x2 (by omega)
set_option maxHeartbeats 8000000 in
set_option maxRecDepth 200000 in
theorem ts_X5_workSeconds_2 {post : Int32 → Int32 → Int32 → Int32 → (Nat → Int32) → Prop} {next : Int32 → Int32 → Int32 → Int32 → Int32 → (Nat → Int32) → Prop} {n2 : Int} (pl_wanted : Int32) (pl_near : Nat → Int32) (pl_seconds : Nat → Int32) (tr_fruits : Int32) (tr_standings : Int32) (tr_foot : Nat → Int32) (tr_fork : Nat → Int32) (tr_settings : Nat → Int32) (no_ladder : Int32) (h_pl_wanted : 0 ≤ Int32.toInt pl_wanted ∧ Int32.toInt pl_wanted ≤ 65535) (h_pl_near : ∀ k : Nat, 0 ≤ Int32.toInt (pl_near k) ∧ Int32.toInt (pl_near k) ≤ 65535) (h_pl_seconds : ∀ k : Nat, 0 ≤ Int32.toInt (pl_seconds k) ∧ Int32.toInt (pl_seconds k) ≤ 99) (h_tr_fruits : 0 ≤ Int32.toInt tr_fruits ∧ Int32.toInt tr_fruits ≤ 16) (h_tr_standings : 0 ≤ Int32.toInt tr_standings ∧ Int32.toInt tr_standings ≤ 8) (h_no_ladder : -1 ≤ Int32.toInt no_ladder ∧ Int32.toInt no_ladder ≤ 7) (hpost : ∀ (r : Int32) (pl_moves' : Int32) (pl_picking' : Int32) (pl_downs' : Int32) (pl_many' : Nat → Int32), post r pl_moves' pl_picking' pl_downs' pl_many') (hKn : ∀ (x1 : Int32) (x2 : Int32) (pl_moves : Int32) (pl_picking : Int32) (pl_downs : Int32) (pl_many : Nat → Int32), (0 ≤ Int32.toInt x1 ∧ Int32.toInt x1 ≤ 255) → (0 ≤ Int32.toInt x2 ∧ Int32.toInt x2 ≤ 8) → (8 - Int32.toInt x2 < n2) → next x1 x2 pl_moves pl_picking pl_downs pl_many) (x1 : Int32) (x2 : Int32) (pl_moves : Int32) (pl_picking : Int32) (pl_downs : Int32) (pl_many : Nat → Int32) (h_x1 : 0 ≤ Int32.toInt x1 ∧ Int32.toInt x1 ≤ 255) (h_x2 : 0 ≤ Int32.toInt x2 ∧ Int32.toInt x2 ≤ 8) (hn2 : 8 - Int32.toInt x2 ≤ n2) : ws_X5_workSeconds_2 post next pl_wanted pl_near pl_seconds tr_fruits tr_standings tr_foot tr_fork tr_settings no_ladder x1 x2 pl_moves pl_picking pl_downs pl_many := by
  have l0 : Int32.toInt (0 : Int32) = 0 := (by decide)
  have l1 : Int32.toInt (1 : Int32) = 1 := (by decide)
  have l2 : Int32.toInt (8 : Int32) = 8 := (by decide)
  refine And.intro (fun c75 => ?_) (fun c75 => ?_)
  · skip
    have c75 := (fa_le _ _).mp c75
    have f76 := tp_r pl_moves
    have f77 := tp_r pl_downs
    exact ⟨18, tb_X5_workSeconds_28 pl_wanted pl_near pl_seconds tr_fruits tr_standings tr_foot tr_fork tr_settings no_ladder h_pl_wanted h_pl_near h_pl_seconds h_tr_fruits h_tr_standings h_no_ladder hpost _ x1 0 pl_moves 0 pl_downs pl_many (by omega) (by omega) (by omega)⟩
  · skip
    have c75 := mt (fa_le _ _).mpr c75
    refine And.intro (t_in (by omega)) ?_
    intro v78 ev78
    have f79 : Int32.toInt (x2 + 1) = Int32.toInt x2 + Int32.toInt (1 : Int32) := ta_add _ _ (by omega)
    rw [← ev78] at f79
    have f80 := tp_r pl_moves
    have f81 := tp_r pl_picking
    have f82 := tp_r pl_downs
    exact hKn x1 v78 pl_moves pl_picking pl_downs (upd pl_many x2.toNatClampNeg 0) (by omega) (by omega) (by omega)
set_option maxHeartbeats 8000000 in
set_option maxRecDepth 200000 in
theorem tb_X5_workSeconds_2 {post : Int32 → Int32 → Int32 → Int32 → (Nat → Int32) → Prop} (pl_wanted : Int32) (pl_near : Nat → Int32) (pl_seconds : Nat → Int32) (tr_fruits : Int32) (tr_standings : Int32) (tr_foot : Nat → Int32) (tr_fork : Nat → Int32) (tr_settings : Nat → Int32) (no_ladder : Int32) (h_pl_wanted : 0 ≤ Int32.toInt pl_wanted ∧ Int32.toInt pl_wanted ≤ 65535) (h_pl_near : ∀ k : Nat, 0 ≤ Int32.toInt (pl_near k) ∧ Int32.toInt (pl_near k) ≤ 65535) (h_pl_seconds : ∀ k : Nat, 0 ≤ Int32.toInt (pl_seconds k) ∧ Int32.toInt (pl_seconds k) ≤ 99) (h_tr_fruits : 0 ≤ Int32.toInt tr_fruits ∧ Int32.toInt tr_fruits ≤ 16) (h_tr_standings : 0 ≤ Int32.toInt tr_standings ∧ Int32.toInt tr_standings ≤ 8) (h_no_ladder : -1 ≤ Int32.toInt no_ladder ∧ Int32.toInt no_ladder ≤ 7) (hpost : ∀ (r : Int32) (pl_moves' : Int32) (pl_picking' : Int32) (pl_downs' : Int32) (pl_many' : Nat → Int32), post r pl_moves' pl_picking' pl_downs' pl_many') : ∀ (n : Nat) (x1 : Int32) (x2 : Int32) (pl_moves : Int32) (pl_picking : Int32) (pl_downs : Int32) (pl_many : Nat → Int32), (0 ≤ Int32.toInt x1 ∧ Int32.toInt x1 ≤ 255) → (0 ≤ Int32.toInt x2 ∧ Int32.toInt x2 ≤ 8) → (8 - Int32.toInt x2 < (n : Int)) → wb_X5_workSeconds_2 post pl_wanted pl_near pl_seconds tr_fruits tr_standings tr_foot tr_fork tr_settings no_ladder n x1 x2 pl_moves pl_picking pl_downs pl_many := by
  intro n
  induction n with
  | zero =>
    intro x1 x2 pl_moves pl_picking pl_downs pl_many h_x1 h_x2 hm
    exfalso; omega
  | succ n ih =>
    intro x1 x2 pl_moves pl_picking pl_downs pl_many h_x1 h_x2 hm
    exact ts_X5_workSeconds_2 pl_wanted pl_near pl_seconds tr_fruits tr_standings tr_foot tr_fork tr_settings no_ladder h_pl_wanted h_pl_near h_pl_seconds h_tr_fruits h_tr_standings h_no_ladder hpost ih x1 x2 pl_moves pl_picking pl_downs pl_many h_x1 h_x2 (by omega)
set_option maxHeartbeats 8000000 in
set_option maxRecDepth 200000 in
theorem t_X5_workSeconds {post : Int32 → Int32 → Int32 → Int32 → (Nat → Int32) → Prop} {p0 : Int32} {pl_wanted : Int32} {pl_moves : Int32} {pl_picking : Int32} {pl_downs : Int32} {pl_near : Nat → Int32} {pl_seconds : Nat → Int32} {pl_many : Nat → Int32} {tr_fruits : Int32} {tr_standings : Int32} {tr_foot : Nat → Int32} {tr_fork : Nat → Int32} {tr_settings : Nat → Int32} {no_ladder : Int32} (h_p0 : 0 ≤ Int32.toInt p0 ∧ Int32.toInt p0 ≤ 255) (h_pl_wanted : 0 ≤ Int32.toInt pl_wanted ∧ Int32.toInt pl_wanted ≤ 65535) (h_pl_near : ∀ k : Nat, 0 ≤ Int32.toInt (pl_near k) ∧ Int32.toInt (pl_near k) ≤ 65535) (h_pl_seconds : ∀ k : Nat, 0 ≤ Int32.toInt (pl_seconds k) ∧ Int32.toInt (pl_seconds k) ≤ 99) (h_tr_fruits : 0 ≤ Int32.toInt tr_fruits ∧ Int32.toInt tr_fruits ≤ 16) (h_tr_standings : 0 ≤ Int32.toInt tr_standings ∧ Int32.toInt tr_standings ≤ 8) (h_no_ladder : -1 ≤ Int32.toInt no_ladder ∧ Int32.toInt no_ladder ≤ 7) (hpost : ∀ (r : Int32) (pl_moves' : Int32) (pl_picking' : Int32) (pl_downs' : Int32) (pl_many' : Nat → Int32), post r pl_moves' pl_picking' pl_downs' pl_many') : wp_X5_workSeconds post p0 pl_wanted pl_moves pl_picking pl_downs pl_near pl_seconds pl_many tr_fruits tr_standings tr_foot tr_fork tr_settings no_ladder := by
  have l0 : Int32.toInt (0 : Int32) = 0 := (by decide)
  have f83 := tp_r pl_moves
  have f84 := tp_r pl_picking
  have f85 := tp_r pl_downs
  exact ⟨10, tb_X5_workSeconds_2 pl_wanted pl_near pl_seconds tr_fruits tr_standings tr_foot tr_fork tr_settings no_ladder h_pl_wanted h_pl_near h_pl_seconds h_tr_fruits h_tr_standings h_no_ladder hpost _ p0 0 pl_moves pl_picking pl_downs pl_many (by omega) (by omega) (by omega)⟩
set_option maxHeartbeats 8000000 in
set_option maxRecDepth 200000 in
theorem t_X9_work {post : Int32 → Int32 → Int32 → Int32 → Int32 → (Nat → Int32) → (Nat → Int32) → (Nat → Int32) → (Nat → Int32) → (Nat → Int32) → Int32 → (Nat → Int32) → Prop} {p0 : Int32} {pl_wanted : Int32} {pl_moves : Int32} {pl_picking : Int32} {pl_downs : Int32} {pl_near : Nat → Int32} {pl_seconds : Nat → Int32} {pl_many : Nat → Int32} {tr_fruits : Int32} {tr_standings : Int32} {tr_x : Nat → Int32} {tr_height : Nat → Int32} {tr_worth : Nat → Int32} {tr_ripe : Nat → Int32} {tr_foot : Nat → Int32} {tr_fork : Nat → Int32} {tr_settings : Nat → Int32} {no_apron : Int32} {no_basket : Int32} {no_ground : Int32} {no_bruised : Int32} {no_ladder : Int32} {no_helper : Int32} {no_today : Int32} {ru_length : Int32} {ru_given : Nat → Int32} {ru_stack : Nat → Int32} {ru_program : Nat → Int32} {ro_size : Int32} {ro_numbers : Nat → Int32} (h_pl_wanted : 0 ≤ Int32.toInt pl_wanted ∧ Int32.toInt pl_wanted ≤ 65535) (h_pl_near : ∀ k : Nat, 0 ≤ Int32.toInt (pl_near k) ∧ Int32.toInt (pl_near k) ≤ 65535) (h_pl_seconds : ∀ k : Nat, 0 ≤ Int32.toInt (pl_seconds k) ∧ Int32.toInt (pl_seconds k) ≤ 99) (h_tr_fruits : 0 ≤ Int32.toInt tr_fruits ∧ Int32.toInt tr_fruits ≤ 16) (h_tr_standings : 0 ≤ Int32.toInt tr_standings ∧ Int32.toInt tr_standings ≤ 8) (h_no_ladder : -1 ≤ Int32.toInt no_ladder ∧ Int32.toInt no_ladder ≤ 7) (h_no_today : 0 ≤ Int32.toInt no_today ∧ Int32.toInt no_today ≤ 9) (h_ru_length : 0 ≤ Int32.toInt ru_length ∧ Int32.toInt ru_length ≤ 40) (h_ro_size : 0 ≤ Int32.toInt ro_size ∧ Int32.toInt ro_size ≤ 16) (hpost : ∀ (r : Int32) (pl_wanted' : Int32) (pl_moves' : Int32) (pl_picking' : Int32) (pl_downs' : Int32) (pl_near' : Nat → Int32) (pl_seconds' : Nat → Int32) (pl_many' : Nat → Int32) (ru_given' : Nat → Int32) (ru_stack' : Nat → Int32) (ro_size' : Int32) (ro_numbers' : Nat → Int32), (0 ≤ Int32.toInt pl_wanted' ∧ Int32.toInt pl_wanted' ≤ 65535) → (∀ k : Nat, 0 ≤ Int32.toInt (pl_near' k) ∧ Int32.toInt (pl_near' k) ≤ 65535) → (∀ k : Nat, 0 ≤ Int32.toInt (pl_seconds' k) ∧ Int32.toInt (pl_seconds' k) ≤ 99) → (0 ≤ Int32.toInt ro_size' ∧ Int32.toInt ro_size' ≤ 16) → post r pl_wanted' pl_moves' pl_picking' pl_downs' pl_near' pl_seconds' pl_many' ru_given' ru_stack' ro_size' ro_numbers') : wp_X9_work post p0 pl_wanted pl_moves pl_picking pl_downs pl_near pl_seconds pl_many tr_fruits tr_standings tr_x tr_height tr_worth tr_ripe tr_foot tr_fork tr_settings no_apron no_basket no_ground no_bruised no_ladder no_helper no_today ru_length ru_given ru_stack ru_program ro_size ro_numbers := by
  have l0 : Int32.toInt (0 : Int32) = 0 := (by decide)
  have l1 : Int32.toInt (1 : Int32) = 1 := (by decide)
  have l2 : Int32.toInt (16 : Int32) = 16 := (by decide)
  intro v1 ev1
  have f2 := ti_shl1 8 256 tr_standings (by decide) (by omega)
  have hv1 := congrArg Int32.toInt ev1
  refine And.intro (fun c3 => ?_) (fun c3 => ?_)
  · skip
    have c3 := mt (fa_eq _ _).mpr c3
    refine And.intro (fun h9 => absurd h9 (by decide)) (fun _ => ?_)
    exact hpost _ _ _ _ _ _ _ _ _ _ _ _ (by omega) (fun k => by have q9 := h_pl_near k; omega) (fun k => by have q9 := h_pl_seconds k; omega) (by omega)
  · skip
    have c3Z := c3
    have c3 := (fa_eq _ _).mp c3
    have f5 : Int32.toInt (v1 - 1) = Int32.toInt v1 - Int32.toInt (1 : Int32) := ta_sub _ _ (by omega)
    have s6 := ti_subset p0 (v1 - 1) (c3Z) (by omega)
    refine And.intro (fun _ => ?_) (fun h9 => absurd h9 (by decide))
    refine t_X5_lookAs (by omega) (by omega) (fun k => by have q9 := h_pl_near k; omega) (by omega) (by omega) (fun pl_wanted_7 pl_near_8 h_pl_wanted_7 h_pl_near_8 => ?_)
    refine t_X5_timeAll (by omega) (fun k => by have q9 := h_pl_near_8 k; omega) (fun k => by have q9 := h_pl_seconds k; omega) (by omega) (by omega) (by omega) (fun pl_seconds_9 ru_given_10 ru_stack_11 h_pl_seconds_9 => ?_)
    refine t_X5_workSeconds (by omega) (by omega) (fun k => by have q9 := h_pl_near_8 k; omega) (fun k => by have q9 := h_pl_seconds_9 k; omega) (by omega) (by omega) (by omega) (fun r16 pl_moves_12 pl_picking_13 pl_downs_14 pl_many_15 => ?_)
    refine And.intro (fun h9 => absurd h9 (by decide)) (fun _ => ?_)
    refine And.intro (t_in (by omega)) ?_
    intro v17 ev17
    have f18 : Int32.toInt (0 + 1) = Int32.toInt (0 : Int32) + Int32.toInt (1 : Int32) := ta_add _ _ (by omega)
    rw [← ev17] at f18
    refine And.intro (fun c19 => ?_) (fun c19 => ?_)
    · skip
      have c19 := (fa_le _ _).mp c19
      exfalso; omega
    · skip
      have c19 := mt (fa_le _ _).mpr c19
      refine And.intro (t_in (by omega)) ?_
      intro v20 ev20
      have f21 : Int32.toInt (v17 + 1) = Int32.toInt v17 + Int32.toInt (1 : Int32) := ta_add _ _ (by omega)
      rw [← ev20] at f21
      refine And.intro (fun c22 => ?_) (fun c22 => ?_)
      · skip
        have c22 := (fa_le _ _).mp c22
        exfalso; omega
      · skip
        have c22 := mt (fa_le _ _).mpr c22
        refine And.intro (t_in (by omega)) ?_
        intro v23 ev23
        have f24 : Int32.toInt (v20 + 1) = Int32.toInt v20 + Int32.toInt (1 : Int32) := ta_add _ _ (by omega)
        rw [← ev23] at f24
        exact hpost _ _ _ _ _ _ _ _ _ _ _ _ (by omega) (fun k => by have q9 := h_pl_near_8 k; omega) (fun k => by have q9 := h_pl_seconds_9 k; omega) (by omega)
set_option maxHeartbeats 8000000 in
set_option maxRecDepth 200000 in
theorem ts_X9_soonest_100 {post : Int32 → Int32 → Int32 → Int32 → Int32 → (Nat → Int32) → (Nat → Int32) → (Nat → Int32) → (Nat → Int32) → (Nat → Int32) → Int32 → (Nat → Int32) → Prop} {K33 : Int32 → Int32 → Int32 → Int32 → Int32 → Int32 → Int32 → (Nat → Int32) → (Nat → Int32) → (Nat → Int32) → (Nat → Int32) → (Nat → Int32) → Int32 → (Nat → Int32) → Prop} {n33 : Int} (tr_fruits : Int32) (tr_standings : Int32) (tr_x : Nat → Int32) (tr_height : Nat → Int32) (tr_worth : Nat → Int32) (tr_ripe : Nat → Int32) (tr_foot : Nat → Int32) (tr_fork : Nat → Int32) (tr_settings : Nat → Int32) (no_apron : Int32) (no_basket : Int32) (no_ground : Int32) (no_bruised : Int32) (no_ladder : Int32) (no_helper : Int32) (no_today : Int32) (ru_length : Int32) (ru_program : Nat → Int32) (h_tr_fruits : 0 ≤ Int32.toInt tr_fruits ∧ Int32.toInt tr_fruits ≤ 16) (h_tr_standings : 0 ≤ Int32.toInt tr_standings ∧ Int32.toInt tr_standings ≤ 8) (h_no_ladder : -1 ≤ Int32.toInt no_ladder ∧ Int32.toInt no_ladder ≤ 7) (h_no_today : 0 ≤ Int32.toInt no_today ∧ Int32.toInt no_today ≤ 9) (h_ru_length : 0 ≤ Int32.toInt ru_length ∧ Int32.toInt ru_length ≤ 40) (hpost : ∀ (r : Int32) (pl_wanted' : Int32) (pl_moves' : Int32) (pl_picking' : Int32) (pl_downs' : Int32) (pl_near' : Nat → Int32) (pl_seconds' : Nat → Int32) (pl_many' : Nat → Int32) (ru_given' : Nat → Int32) (ru_stack' : Nat → Int32) (ro_size' : Int32) (ro_numbers' : Nat → Int32), (0 ≤ Int32.toInt pl_wanted' ∧ Int32.toInt pl_wanted' ≤ 65535) → (∀ k : Nat, 0 ≤ Int32.toInt (pl_near' k) ∧ Int32.toInt (pl_near' k) ≤ 65535) → (∀ k : Nat, 0 ≤ Int32.toInt (pl_seconds' k) ∧ Int32.toInt (pl_seconds' k) ≤ 99) → (1 ≤ Int32.toInt ro_size' ∧ Int32.toInt ro_size' ≤ 1) → post r pl_wanted' pl_moves' pl_picking' pl_downs' pl_near' pl_seconds' pl_many' ru_given' ru_stack' ro_size' ro_numbers') (hK33 : ∀ (x1 : Int32) (x2 : Int32) (x3 : Int32) (pl_wanted : Int32) (pl_moves : Int32) (pl_picking : Int32) (pl_downs : Int32) (pl_near : Nat → Int32) (pl_seconds : Nat → Int32) (pl_many : Nat → Int32) (ru_given : Nat → Int32) (ru_stack : Nat → Int32) (ro_size : Int32) (ro_numbers : Nat → Int32), (0 ≤ Int32.toInt x1 ∧ Int32.toInt x1 ≤ 255) → (0 ≤ Int32.toInt x3 ∧ Int32.toInt x3 ≤ 256) → (0 ≤ Int32.toInt pl_wanted ∧ Int32.toInt pl_wanted ≤ 65535) → (∀ k : Nat, 0 ≤ Int32.toInt (pl_near k) ∧ Int32.toInt (pl_near k) ≤ 65535) → (∀ k : Nat, 0 ≤ Int32.toInt (pl_seconds k) ∧ Int32.toInt (pl_seconds k) ≤ 99) → (0 ≤ Int32.toInt ro_size ∧ Int32.toInt ro_size ≤ 16) → (256 - Int32.toInt x3 < n33) → K33 x1 x2 x3 pl_wanted pl_moves pl_picking pl_downs pl_near pl_seconds pl_many ru_given ru_stack ro_size ro_numbers) (x1 : Int32) (x2 : Int32) (x3 : Int32) (pl_wanted : Int32) (pl_moves : Int32) (pl_picking : Int32) (pl_downs : Int32) (pl_near : Nat → Int32) (pl_seconds : Nat → Int32) (pl_many : Nat → Int32) (ru_given : Nat → Int32) (ru_stack : Nat → Int32) (ro_size : Int32) (ro_numbers : Nat → Int32) (h_x1 : 0 ≤ Int32.toInt x1 ∧ Int32.toInt x1 ≤ 255) (h_x3 : 0 ≤ Int32.toInt x3 ∧ Int32.toInt x3 ≤ 255) (h_pl_wanted : 0 ≤ Int32.toInt pl_wanted ∧ Int32.toInt pl_wanted ≤ 65535) (h_pl_near : ∀ k : Nat, 0 ≤ Int32.toInt (pl_near k) ∧ Int32.toInt (pl_near k) ≤ 65535) (h_pl_seconds : ∀ k : Nat, 0 ≤ Int32.toInt (pl_seconds k) ∧ Int32.toInt (pl_seconds k) ≤ 99) (h_ro_size : 0 ≤ Int32.toInt ro_size ∧ Int32.toInt ro_size ≤ 16) (hn33 : 256 - Int32.toInt x3 ≤ n33) : ws_X9_soonest_100 post K33 tr_fruits tr_standings tr_x tr_height tr_worth tr_ripe tr_foot tr_fork tr_settings no_apron no_basket no_ground no_bruised no_ladder no_helper no_today ru_length ru_program x1 x2 x3 pl_wanted pl_moves pl_picking pl_downs pl_near pl_seconds pl_many ru_given ru_stack ro_size ro_numbers := by
  have l0 : Int32.toInt (1 : Int32) = 1 := (by decide)
  intro v1 ev1
  have f2 : Int32.toInt (x3 + 1) = Int32.toInt x3 + Int32.toInt (1 : Int32) := ta_add _ _ (by omega)
  rw [← ev1] at f2
  have f3 := tp_r x2
  have f4 := tp_r pl_moves
  have f5 := tp_r pl_picking
  have f6 := tp_r pl_downs
  exact hK33 x1 x2 v1 pl_wanted pl_moves pl_picking pl_downs pl_near pl_seconds pl_many ru_given ru_stack ro_size ro_numbers (by omega) (by omega) (by omega) (fun k => by have q9 := h_pl_near k; omega) (fun k => by have q9 := h_pl_seconds k; omega) (by omega) (by omega)
set_option maxHeartbeats 8000000 in
set_option maxRecDepth 200000 in
theorem ts_X9_soonest_95 {post : Int32 → Int32 → Int32 → Int32 → Int32 → (Nat → Int32) → (Nat → Int32) → (Nat → Int32) → (Nat → Int32) → (Nat → Int32) → Int32 → (Nat → Int32) → Prop} {K33 : Int32 → Int32 → Int32 → Int32 → Int32 → Int32 → Int32 → (Nat → Int32) → (Nat → Int32) → (Nat → Int32) → (Nat → Int32) → (Nat → Int32) → Int32 → (Nat → Int32) → Prop} {n33 : Int} (tr_fruits : Int32) (tr_standings : Int32) (tr_x : Nat → Int32) (tr_height : Nat → Int32) (tr_worth : Nat → Int32) (tr_ripe : Nat → Int32) (tr_foot : Nat → Int32) (tr_fork : Nat → Int32) (tr_settings : Nat → Int32) (no_apron : Int32) (no_basket : Int32) (no_ground : Int32) (no_bruised : Int32) (no_ladder : Int32) (no_helper : Int32) (no_today : Int32) (ru_length : Int32) (ru_program : Nat → Int32) (h_tr_fruits : 0 ≤ Int32.toInt tr_fruits ∧ Int32.toInt tr_fruits ≤ 16) (h_tr_standings : 0 ≤ Int32.toInt tr_standings ∧ Int32.toInt tr_standings ≤ 8) (h_no_ladder : -1 ≤ Int32.toInt no_ladder ∧ Int32.toInt no_ladder ≤ 7) (h_no_today : 0 ≤ Int32.toInt no_today ∧ Int32.toInt no_today ≤ 9) (h_ru_length : 0 ≤ Int32.toInt ru_length ∧ Int32.toInt ru_length ≤ 40) (hpost : ∀ (r : Int32) (pl_wanted' : Int32) (pl_moves' : Int32) (pl_picking' : Int32) (pl_downs' : Int32) (pl_near' : Nat → Int32) (pl_seconds' : Nat → Int32) (pl_many' : Nat → Int32) (ru_given' : Nat → Int32) (ru_stack' : Nat → Int32) (ro_size' : Int32) (ro_numbers' : Nat → Int32), (0 ≤ Int32.toInt pl_wanted' ∧ Int32.toInt pl_wanted' ≤ 65535) → (∀ k : Nat, 0 ≤ Int32.toInt (pl_near' k) ∧ Int32.toInt (pl_near' k) ≤ 65535) → (∀ k : Nat, 0 ≤ Int32.toInt (pl_seconds' k) ∧ Int32.toInt (pl_seconds' k) ≤ 99) → (1 ≤ Int32.toInt ro_size' ∧ Int32.toInt ro_size' ≤ 1) → post r pl_wanted' pl_moves' pl_picking' pl_downs' pl_near' pl_seconds' pl_many' ru_given' ru_stack' ro_size' ro_numbers') (hK33 : ∀ (x1 : Int32) (x2 : Int32) (x3 : Int32) (pl_wanted : Int32) (pl_moves : Int32) (pl_picking : Int32) (pl_downs : Int32) (pl_near : Nat → Int32) (pl_seconds : Nat → Int32) (pl_many : Nat → Int32) (ru_given : Nat → Int32) (ru_stack : Nat → Int32) (ro_size : Int32) (ro_numbers : Nat → Int32), (0 ≤ Int32.toInt x1 ∧ Int32.toInt x1 ≤ 255) → (0 ≤ Int32.toInt x3 ∧ Int32.toInt x3 ≤ 256) → (0 ≤ Int32.toInt pl_wanted ∧ Int32.toInt pl_wanted ≤ 65535) → (∀ k : Nat, 0 ≤ Int32.toInt (pl_near k) ∧ Int32.toInt (pl_near k) ≤ 65535) → (∀ k : Nat, 0 ≤ Int32.toInt (pl_seconds k) ∧ Int32.toInt (pl_seconds k) ≤ 99) → (0 ≤ Int32.toInt ro_size ∧ Int32.toInt ro_size ≤ 16) → (256 - Int32.toInt x3 < n33) → K33 x1 x2 x3 pl_wanted pl_moves pl_picking pl_downs pl_near pl_seconds pl_many ru_given ru_stack ro_size ro_numbers) (x3 : Int32) (x4 : Int32) (pl_wanted : Int32) (pl_moves : Int32) (pl_picking : Int32) (pl_downs : Int32) (pl_near : Nat → Int32) (pl_seconds : Nat → Int32) (pl_many : Nat → Int32) (ru_given : Nat → Int32) (ru_stack : Nat → Int32) (ro_size : Int32) (ro_numbers : Nat → Int32) (h_x3 : 0 ≤ Int32.toInt x3 ∧ Int32.toInt x3 ≤ 255) (h_pl_wanted : 0 ≤ Int32.toInt pl_wanted ∧ Int32.toInt pl_wanted ≤ 65535) (h_pl_near : ∀ k : Nat, 0 ≤ Int32.toInt (pl_near k) ∧ Int32.toInt (pl_near k) ≤ 65535) (h_pl_seconds : ∀ k : Nat, 0 ≤ Int32.toInt (pl_seconds k) ∧ Int32.toInt (pl_seconds k) ≤ 99) (h_ro_size : 0 ≤ Int32.toInt ro_size ∧ Int32.toInt ro_size ≤ 16) (hn33 : 256 - Int32.toInt x3 ≤ n33) : ws_X9_soonest_95 post K33 tr_fruits tr_standings tr_x tr_height tr_worth tr_ripe tr_foot tr_fork tr_settings no_apron no_basket no_ground no_bruised no_ladder no_helper no_today ru_length ru_program x3 x4 pl_wanted pl_moves pl_picking pl_downs pl_near pl_seconds pl_many ru_given ru_stack ro_size ro_numbers := by
  have f7 := tp_r x4
  have f8 := tp_r pl_moves
  have f9 := tp_r pl_picking
  have f10 := tp_r pl_downs
  exact ts_X9_soonest_100 tr_fruits tr_standings tr_x tr_height tr_worth tr_ripe tr_foot tr_fork tr_settings no_apron no_basket no_ground no_bruised no_ladder no_helper no_today ru_length ru_program h_tr_fruits h_tr_standings h_no_ladder h_no_today h_ru_length hpost hK33 x3 x4 x3 pl_wanted pl_moves pl_picking pl_downs pl_near pl_seconds pl_many ru_given ru_stack ro_size ro_numbers (by omega) (by omega) (by omega) (fun k => by have q9 := h_pl_near k; omega) (fun k => by have q9 := h_pl_seconds k; omega) (by omega) (by omega)
set_option maxHeartbeats 8000000 in
set_option maxRecDepth 200000 in
theorem ts_X9_soonest_33 {post : Int32 → Int32 → Int32 → Int32 → Int32 → (Nat → Int32) → (Nat → Int32) → (Nat → Int32) → (Nat → Int32) → (Nat → Int32) → Int32 → (Nat → Int32) → Prop} {next : Int32 → Int32 → Int32 → Int32 → Int32 → Int32 → Int32 → (Nat → Int32) → (Nat → Int32) → (Nat → Int32) → (Nat → Int32) → (Nat → Int32) → Int32 → (Nat → Int32) → Prop} {n33 : Int} (tr_fruits : Int32) (tr_standings : Int32) (tr_x : Nat → Int32) (tr_height : Nat → Int32) (tr_worth : Nat → Int32) (tr_ripe : Nat → Int32) (tr_foot : Nat → Int32) (tr_fork : Nat → Int32) (tr_settings : Nat → Int32) (no_apron : Int32) (no_basket : Int32) (no_ground : Int32) (no_bruised : Int32) (no_ladder : Int32) (no_helper : Int32) (no_today : Int32) (ru_length : Int32) (ru_program : Nat → Int32) (h_tr_fruits : 0 ≤ Int32.toInt tr_fruits ∧ Int32.toInt tr_fruits ≤ 16) (h_tr_standings : 0 ≤ Int32.toInt tr_standings ∧ Int32.toInt tr_standings ≤ 8) (h_no_ladder : -1 ≤ Int32.toInt no_ladder ∧ Int32.toInt no_ladder ≤ 7) (h_no_today : 0 ≤ Int32.toInt no_today ∧ Int32.toInt no_today ≤ 9) (h_ru_length : 0 ≤ Int32.toInt ru_length ∧ Int32.toInt ru_length ≤ 40) (hpost : ∀ (r : Int32) (pl_wanted' : Int32) (pl_moves' : Int32) (pl_picking' : Int32) (pl_downs' : Int32) (pl_near' : Nat → Int32) (pl_seconds' : Nat → Int32) (pl_many' : Nat → Int32) (ru_given' : Nat → Int32) (ru_stack' : Nat → Int32) (ro_size' : Int32) (ro_numbers' : Nat → Int32), (0 ≤ Int32.toInt pl_wanted' ∧ Int32.toInt pl_wanted' ≤ 65535) → (∀ k : Nat, 0 ≤ Int32.toInt (pl_near' k) ∧ Int32.toInt (pl_near' k) ≤ 65535) → (∀ k : Nat, 0 ≤ Int32.toInt (pl_seconds' k) ∧ Int32.toInt (pl_seconds' k) ≤ 99) → (1 ≤ Int32.toInt ro_size' ∧ Int32.toInt ro_size' ≤ 1) → post r pl_wanted' pl_moves' pl_picking' pl_downs' pl_near' pl_seconds' pl_many' ru_given' ru_stack' ro_size' ro_numbers') (hKn : ∀ (x1 : Int32) (x2 : Int32) (x3 : Int32) (pl_wanted : Int32) (pl_moves : Int32) (pl_picking : Int32) (pl_downs : Int32) (pl_near : Nat → Int32) (pl_seconds : Nat → Int32) (pl_many : Nat → Int32) (ru_given : Nat → Int32) (ru_stack : Nat → Int32) (ro_size : Int32) (ro_numbers : Nat → Int32), (0 ≤ Int32.toInt x1 ∧ Int32.toInt x1 ≤ 255) → (0 ≤ Int32.toInt x3 ∧ Int32.toInt x3 ≤ 256) → (0 ≤ Int32.toInt pl_wanted ∧ Int32.toInt pl_wanted ≤ 65535) → (∀ k : Nat, 0 ≤ Int32.toInt (pl_near k) ∧ Int32.toInt (pl_near k) ≤ 65535) → (∀ k : Nat, 0 ≤ Int32.toInt (pl_seconds k) ∧ Int32.toInt (pl_seconds k) ≤ 99) → (0 ≤ Int32.toInt ro_size ∧ Int32.toInt ro_size ≤ 16) → (256 - Int32.toInt x3 < n33) → next x1 x2 x3 pl_wanted pl_moves pl_picking pl_downs pl_near pl_seconds pl_many ru_given ru_stack ro_size ro_numbers) (x1 : Int32) (x2 : Int32) (x3 : Int32) (pl_wanted : Int32) (pl_moves : Int32) (pl_picking : Int32) (pl_downs : Int32) (pl_near : Nat → Int32) (pl_seconds : Nat → Int32) (pl_many : Nat → Int32) (ru_given : Nat → Int32) (ru_stack : Nat → Int32) (ro_size : Int32) (ro_numbers : Nat → Int32) (h_x1 : 0 ≤ Int32.toInt x1 ∧ Int32.toInt x1 ≤ 255) (h_x3 : 0 ≤ Int32.toInt x3 ∧ Int32.toInt x3 ≤ 256) (h_pl_wanted : 0 ≤ Int32.toInt pl_wanted ∧ Int32.toInt pl_wanted ≤ 65535) (h_pl_near : ∀ k : Nat, 0 ≤ Int32.toInt (pl_near k) ∧ Int32.toInt (pl_near k) ≤ 65535) (h_pl_seconds : ∀ k : Nat, 0 ≤ Int32.toInt (pl_seconds k) ∧ Int32.toInt (pl_seconds k) ≤ 99) (h_ro_size : 0 ≤ Int32.toInt ro_size ∧ Int32.toInt ro_size ≤ 16) (hn33 : 256 - Int32.toInt x3 ≤ n33) : ws_X9_soonest_33 post next tr_fruits tr_standings tr_x tr_height tr_worth tr_ripe tr_foot tr_fork tr_settings no_apron no_basket no_ground no_bruised no_ladder no_helper no_today ru_length ru_program x1 x2 x3 pl_wanted pl_moves pl_picking pl_downs pl_near pl_seconds pl_many ru_given ru_stack ro_size ro_numbers := by
  have l0 : Int32.toInt (0 : Int32) = 0 := (by decide)
  have l1 : Int32.toInt (1 : Int32) = 1 := (by decide)
  intro v11 ev11
  have f12 := ti_shl1 8 256 tr_standings (by decide) (by omega)
  have hv11 := congrArg Int32.toInt ev11
  have f14 : Int32.toInt (v11 - 1) = Int32.toInt v11 - Int32.toInt (1 : Int32) := ta_sub _ _ (by omega)
  refine And.intro (fun c13 => ?_) (fun c13 => ?_)
  · skip
    have c13 := (fa_le _ _).mp c13
    refine And.intro (fun h9 => absurd h9 (by decide)) (fun _ => ?_)
    refine And.intro (t_in (by omega)) ?_
    intro v15 ev15
    have f16 : Int32.toInt (0 + 1) = Int32.toInt (0 : Int32) + Int32.toInt (1 : Int32) := ta_add _ _ (by omega)
    rw [← ev15] at f16
    exact hpost _ _ _ _ _ _ _ _ _ _ _ _ (by omega) (fun k => by have q9 := h_pl_near k; omega) (fun k => by have q9 := h_pl_seconds k; omega) (by omega)
  · skip
    have c13 := mt (fa_le _ _).mpr c13
    refine t_X5_reachedBy (by omega) (fun k => by have q9 := h_pl_near k; omega) (by omega) (fun r17 h_r17 => ?_)
    have f20 := ti_andl pl_wanted (r17 ^^^ (-1)) (by omega)
    refine And.intro (fun c18 => ?_) (fun c18 => ?_)
    · skip
      have c18 := mt (fa_eq _ _).mpr c18
      have f21 := tp_r x2
      have f22 := tp_r pl_moves
      have f23 := tp_r pl_picking
      have f24 := tp_r pl_downs
      exact ts_X9_soonest_100 tr_fruits tr_standings tr_x tr_height tr_worth tr_ripe tr_foot tr_fork tr_settings no_apron no_basket no_ground no_bruised no_ladder no_helper no_today ru_length ru_program h_tr_fruits h_tr_standings h_no_ladder h_no_today h_ru_length hpost hKn x1 x2 x3 pl_wanted pl_moves pl_picking pl_downs pl_near pl_seconds pl_many ru_given ru_stack ro_size ro_numbers (by omega) (by omega) (by omega) (fun k => by have q9 := h_pl_near k; omega) (fun k => by have q9 := h_pl_seconds k; omega) (by omega) (by omega)
    · skip
      have c18Z := c18
      have c18 := (fa_eq _ _).mp c18
      have s25 := ti_subset pl_wanted r17 (c18Z) (by omega)
      refine t_X5_workSeconds (by omega) (by omega) (fun k => by have q9 := h_pl_near k; omega) (fun k => by have q9 := h_pl_seconds k; omega) (by omega) (by omega) (by omega) (fun r30 pl_moves_26 pl_picking_27 pl_downs_28 pl_many_29 => ?_)
      have f32 := tp_r r30
      have f33 := tp_r x2
      refine And.intro (fun c31 => ?_) (fun c31 => ?_)
      · skip
        have c31 := (fa_lt _ _).mp c31
        have f34 := tp_r pl_moves_26
        have f35 := tp_r pl_picking_27
        have f36 := tp_r pl_downs_28
        exact ts_X9_soonest_95 tr_fruits tr_standings tr_x tr_height tr_worth tr_ripe tr_foot tr_fork tr_settings no_apron no_basket no_ground no_bruised no_ladder no_helper no_today ru_length ru_program h_tr_fruits h_tr_standings h_no_ladder h_no_today h_ru_length hpost hKn x3 r30 pl_wanted pl_moves_26 pl_picking_27 pl_downs_28 pl_near pl_seconds pl_many_29 ru_given ru_stack ro_size ro_numbers (by omega) (by omega) (fun k => by have q9 := h_pl_near k; omega) (fun k => by have q9 := h_pl_seconds k; omega) (by omega) (by omega)
      · skip
        have c31 := mt (fa_lt _ _).mpr c31
        refine And.intro (fun c37 => ?_) (fun c37 => ?_)
        · skip
          have c37 := mt (fa_eq _ _).mpr c37
          have f38 := tp_r pl_moves_26
          have f39 := tp_r pl_picking_27
          have f40 := tp_r pl_downs_28
          exact ts_X9_soonest_100 tr_fruits tr_standings tr_x tr_height tr_worth tr_ripe tr_foot tr_fork tr_settings no_apron no_basket no_ground no_bruised no_ladder no_helper no_today ru_length ru_program h_tr_fruits h_tr_standings h_no_ladder h_no_today h_ru_length hpost hKn x1 x2 x3 pl_wanted pl_moves_26 pl_picking_27 pl_downs_28 pl_near pl_seconds pl_many_29 ru_given ru_stack ro_size ro_numbers (by omega) (by omega) (by omega) (fun k => by have q9 := h_pl_near k; omega) (fun k => by have q9 := h_pl_seconds k; omega) (by omega) (by omega)
        · skip
          have c37 := (fa_eq _ _).mp c37
          refine t_X9_isFewer (by omega) (by omega) (fun r41 h_r41 => ?_)
          refine And.intro (fun c42 => ?_) (fun c42 => ?_)
          · skip
            have c42 := (fa_eq _ _).mp c42
            have f43 := tp_r pl_moves_26
            have f44 := tp_r pl_picking_27
            have f45 := tp_r pl_downs_28
            exact ts_X9_soonest_100 tr_fruits tr_standings tr_x tr_height tr_worth tr_ripe tr_foot tr_fork tr_settings no_apron no_basket no_ground no_bruised no_ladder no_helper no_today ru_length ru_program h_tr_fruits h_tr_standings h_no_ladder h_no_today h_ru_length hpost hKn x1 x2 x3 pl_wanted pl_moves_26 pl_picking_27 pl_downs_28 pl_near pl_seconds pl_many_29 ru_given ru_stack ro_size ro_numbers (by omega) (by omega) (by omega) (fun k => by have q9 := h_pl_near k; omega) (fun k => by have q9 := h_pl_seconds k; omega) (by omega) (by omega)
          · skip
            have c42 := mt (fa_eq _ _).mpr c42
            have f46 := tp_r pl_moves_26
            have f47 := tp_r pl_picking_27
            have f48 := tp_r pl_downs_28
            exact ts_X9_soonest_95 tr_fruits tr_standings tr_x tr_height tr_worth tr_ripe tr_foot tr_fork tr_settings no_apron no_basket no_ground no_bruised no_ladder no_helper no_today ru_length ru_program h_tr_fruits h_tr_standings h_no_ladder h_no_today h_ru_length hpost hKn x3 r30 pl_wanted pl_moves_26 pl_picking_27 pl_downs_28 pl_near pl_seconds pl_many_29 ru_given ru_stack ro_size ro_numbers (by omega) (by omega) (fun k => by have q9 := h_pl_near k; omega) (fun k => by have q9 := h_pl_seconds k; omega) (by omega) (by omega)
set_option maxHeartbeats 8000000 in
set_option maxRecDepth 200000 in
theorem tb_X9_soonest_33 {post : Int32 → Int32 → Int32 → Int32 → Int32 → (Nat → Int32) → (Nat → Int32) → (Nat → Int32) → (Nat → Int32) → (Nat → Int32) → Int32 → (Nat → Int32) → Prop} (tr_fruits : Int32) (tr_standings : Int32) (tr_x : Nat → Int32) (tr_height : Nat → Int32) (tr_worth : Nat → Int32) (tr_ripe : Nat → Int32) (tr_foot : Nat → Int32) (tr_fork : Nat → Int32) (tr_settings : Nat → Int32) (no_apron : Int32) (no_basket : Int32) (no_ground : Int32) (no_bruised : Int32) (no_ladder : Int32) (no_helper : Int32) (no_today : Int32) (ru_length : Int32) (ru_program : Nat → Int32) (h_tr_fruits : 0 ≤ Int32.toInt tr_fruits ∧ Int32.toInt tr_fruits ≤ 16) (h_tr_standings : 0 ≤ Int32.toInt tr_standings ∧ Int32.toInt tr_standings ≤ 8) (h_no_ladder : -1 ≤ Int32.toInt no_ladder ∧ Int32.toInt no_ladder ≤ 7) (h_no_today : 0 ≤ Int32.toInt no_today ∧ Int32.toInt no_today ≤ 9) (h_ru_length : 0 ≤ Int32.toInt ru_length ∧ Int32.toInt ru_length ≤ 40) (hpost : ∀ (r : Int32) (pl_wanted' : Int32) (pl_moves' : Int32) (pl_picking' : Int32) (pl_downs' : Int32) (pl_near' : Nat → Int32) (pl_seconds' : Nat → Int32) (pl_many' : Nat → Int32) (ru_given' : Nat → Int32) (ru_stack' : Nat → Int32) (ro_size' : Int32) (ro_numbers' : Nat → Int32), (0 ≤ Int32.toInt pl_wanted' ∧ Int32.toInt pl_wanted' ≤ 65535) → (∀ k : Nat, 0 ≤ Int32.toInt (pl_near' k) ∧ Int32.toInt (pl_near' k) ≤ 65535) → (∀ k : Nat, 0 ≤ Int32.toInt (pl_seconds' k) ∧ Int32.toInt (pl_seconds' k) ≤ 99) → (1 ≤ Int32.toInt ro_size' ∧ Int32.toInt ro_size' ≤ 1) → post r pl_wanted' pl_moves' pl_picking' pl_downs' pl_near' pl_seconds' pl_many' ru_given' ru_stack' ro_size' ro_numbers') : ∀ (n : Nat) (x1 : Int32) (x2 : Int32) (x3 : Int32) (pl_wanted : Int32) (pl_moves : Int32) (pl_picking : Int32) (pl_downs : Int32) (pl_near : Nat → Int32) (pl_seconds : Nat → Int32) (pl_many : Nat → Int32) (ru_given : Nat → Int32) (ru_stack : Nat → Int32) (ro_size : Int32) (ro_numbers : Nat → Int32), (0 ≤ Int32.toInt x1 ∧ Int32.toInt x1 ≤ 255) → (0 ≤ Int32.toInt x3 ∧ Int32.toInt x3 ≤ 256) → (0 ≤ Int32.toInt pl_wanted ∧ Int32.toInt pl_wanted ≤ 65535) → (∀ k : Nat, 0 ≤ Int32.toInt (pl_near k) ∧ Int32.toInt (pl_near k) ≤ 65535) → (∀ k : Nat, 0 ≤ Int32.toInt (pl_seconds k) ∧ Int32.toInt (pl_seconds k) ≤ 99) → (0 ≤ Int32.toInt ro_size ∧ Int32.toInt ro_size ≤ 16) → (256 - Int32.toInt x3 < (n : Int)) → wb_X9_soonest_33 post tr_fruits tr_standings tr_x tr_height tr_worth tr_ripe tr_foot tr_fork tr_settings no_apron no_basket no_ground no_bruised no_ladder no_helper no_today ru_length ru_program n x1 x2 x3 pl_wanted pl_moves pl_picking pl_downs pl_near pl_seconds pl_many ru_given ru_stack ro_size ro_numbers := by
  intro n
  induction n with
  | zero =>
    intro x1 x2 x3 pl_wanted pl_moves pl_picking pl_downs pl_near pl_seconds pl_many ru_given ru_stack ro_size ro_numbers h_x1 h_x3 h_pl_wanted h_pl_near h_pl_seconds h_ro_size hm
    exfalso; omega
  | succ n ih =>
    intro x1 x2 x3 pl_wanted pl_moves pl_picking pl_downs pl_near pl_seconds pl_many ru_given ru_stack ro_size ro_numbers h_x1 h_x3 h_pl_wanted h_pl_near h_pl_seconds h_ro_size hm
    exact ts_X9_soonest_33 tr_fruits tr_standings tr_x tr_height tr_worth tr_ripe tr_foot tr_fork tr_settings no_apron no_basket no_ground no_bruised no_ladder no_helper no_today ru_length ru_program h_tr_fruits h_tr_standings h_no_ladder h_no_today h_ru_length hpost ih x1 x2 x3 pl_wanted pl_moves pl_picking pl_downs pl_near pl_seconds pl_many ru_given ru_stack ro_size ro_numbers h_x1 h_x3 h_pl_wanted h_pl_near h_pl_seconds h_ro_size (by omega)
set_option maxHeartbeats 8000000 in
set_option maxRecDepth 200000 in
theorem t_X9_soonest {post : Int32 → Int32 → Int32 → Int32 → Int32 → (Nat → Int32) → (Nat → Int32) → (Nat → Int32) → (Nat → Int32) → (Nat → Int32) → Int32 → (Nat → Int32) → Prop} {pl_wanted : Int32} {pl_moves : Int32} {pl_picking : Int32} {pl_downs : Int32} {pl_near : Nat → Int32} {pl_seconds : Nat → Int32} {pl_many : Nat → Int32} {tr_fruits : Int32} {tr_standings : Int32} {tr_x : Nat → Int32} {tr_height : Nat → Int32} {tr_worth : Nat → Int32} {tr_ripe : Nat → Int32} {tr_foot : Nat → Int32} {tr_fork : Nat → Int32} {tr_settings : Nat → Int32} {no_apron : Int32} {no_basket : Int32} {no_ground : Int32} {no_bruised : Int32} {no_ladder : Int32} {no_helper : Int32} {no_today : Int32} {ru_length : Int32} {ru_given : Nat → Int32} {ru_stack : Nat → Int32} {ru_program : Nat → Int32} {ro_size : Int32} {ro_numbers : Nat → Int32} (h_pl_wanted : 0 ≤ Int32.toInt pl_wanted ∧ Int32.toInt pl_wanted ≤ 65535) (h_pl_near : ∀ k : Nat, 0 ≤ Int32.toInt (pl_near k) ∧ Int32.toInt (pl_near k) ≤ 65535) (h_pl_seconds : ∀ k : Nat, 0 ≤ Int32.toInt (pl_seconds k) ∧ Int32.toInt (pl_seconds k) ≤ 99) (h_tr_fruits : 0 ≤ Int32.toInt tr_fruits ∧ Int32.toInt tr_fruits ≤ 16) (h_tr_standings : 0 ≤ Int32.toInt tr_standings ∧ Int32.toInt tr_standings ≤ 8) (h_no_ladder : -1 ≤ Int32.toInt no_ladder ∧ Int32.toInt no_ladder ≤ 7) (h_no_today : 0 ≤ Int32.toInt no_today ∧ Int32.toInt no_today ≤ 9) (h_ru_length : 0 ≤ Int32.toInt ru_length ∧ Int32.toInt ru_length ≤ 40) (h_ro_size : 0 ≤ Int32.toInt ro_size ∧ Int32.toInt ro_size ≤ 16) (hpost : ∀ (r : Int32) (pl_wanted' : Int32) (pl_moves' : Int32) (pl_picking' : Int32) (pl_downs' : Int32) (pl_near' : Nat → Int32) (pl_seconds' : Nat → Int32) (pl_many' : Nat → Int32) (ru_given' : Nat → Int32) (ru_stack' : Nat → Int32) (ro_size' : Int32) (ro_numbers' : Nat → Int32), (0 ≤ Int32.toInt pl_wanted' ∧ Int32.toInt pl_wanted' ≤ 65535) → (∀ k : Nat, 0 ≤ Int32.toInt (pl_near' k) ∧ Int32.toInt (pl_near' k) ≤ 65535) → (∀ k : Nat, 0 ≤ Int32.toInt (pl_seconds' k) ∧ Int32.toInt (pl_seconds' k) ≤ 99) → (1 ≤ Int32.toInt ro_size' ∧ Int32.toInt ro_size' ≤ 1) → post r pl_wanted' pl_moves' pl_picking' pl_downs' pl_near' pl_seconds' pl_many' ru_given' ru_stack' ro_size' ro_numbers') : wp_X9_soonest post pl_wanted pl_moves pl_picking pl_downs pl_near pl_seconds pl_many tr_fruits tr_standings tr_x tr_height tr_worth tr_ripe tr_foot tr_fork tr_settings no_apron no_basket no_ground no_bruised no_ladder no_helper no_today ru_length ru_given ru_stack ru_program ro_size ro_numbers := by
  have l0 : Int32.toInt (0 : Int32) = 0 := (by decide)
  have l1 : Int32.toInt (1 : Int32) = 1 := (by decide)
  refine t_X5_lookAs (by omega) (by omega) (fun k => by have q9 := h_pl_near k; omega) (by omega) (by omega) (fun pl_wanted_49 pl_near_50 h_pl_wanted_49 h_pl_near_50 => ?_)
  refine t_X5_timeAll (by omega) (fun k => by have q9 := h_pl_near_50 k; omega) (fun k => by have q9 := h_pl_seconds k; omega) (by omega) (by omega) (by omega) (fun pl_seconds_51 ru_given_52 ru_stack_53 h_pl_seconds_51 => ?_)
  intro v54 ev54
  have f55 := ti_shl1 8 256 tr_standings (by decide) (by omega)
  have hv54 := congrArg Int32.toInt ev54
  have f61 : Int32.toInt (v54 - 1) = Int32.toInt v54 - Int32.toInt (1 : Int32) := ta_sub _ _ (by omega)
  refine t_X5_workSeconds (by omega) (by omega) (fun k => by have q9 := h_pl_near_50 k; omega) (fun k => by have q9 := h_pl_seconds_51 k; omega) (by omega) (by omega) (by omega) (fun r60 pl_moves_56 pl_picking_57 pl_downs_58 pl_many_59 => ?_)
  have f62 := tp_r r60
  have f63 := tp_r pl_moves_56
  have f64 := tp_r pl_picking_57
  have f65 := tp_r pl_downs_58
  exact ⟨258, tb_X9_soonest_33 tr_fruits tr_standings tr_x tr_height tr_worth tr_ripe tr_foot tr_fork tr_settings no_apron no_basket no_ground no_bruised no_ladder no_helper no_today ru_length ru_program h_tr_fruits h_tr_standings h_no_ladder h_no_today h_ru_length hpost _ (v54 - 1) r60 0 pl_wanted_49 pl_moves_56 pl_picking_57 pl_downs_58 pl_near_50 pl_seconds_51 pl_many_59 ru_given_52 ru_stack_53 ro_size ro_numbers (by omega) (by omega) (by omega) (fun k => by have q9 := h_pl_near_50 k; omega) (fun k => by have q9 := h_pl_seconds_51 k; omega) (by omega) (by omega)⟩
