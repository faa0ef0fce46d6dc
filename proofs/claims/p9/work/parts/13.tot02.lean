set_option maxHeartbeats 8000000 in
set_option maxRecDepth 200000 in
theorem ts_X3_worthOf_54 {post : Int32 → Prop} {K5 : Int32 → Int32 → Int32 → Int32 → Prop} {n5 : Int} (tr_fruits : Int32) (tr_worth : Nat → Int32) (h_tr_fruits : 0 ≤ Int32.toInt tr_fruits ∧ Int32.toInt tr_fruits ≤ 16) (hpost : ∀ (r : Int32) , post r) (hK5 : ∀ (x1 : Int32) (x2 : Int32) (x3 : Int32) (x4 : Int32), (0 ≤ Int32.toInt x4 ∧ Int32.toInt x4 ≤ 16) → (16 - Int32.toInt x4 < n5) → K5 x1 x2 x3 x4) (x1 : Int32) (x2 : Int32) (x3 : Int32) (x4 : Int32) (h_x4 : 0 ≤ Int32.toInt x4 ∧ Int32.toInt x4 ≤ 15) (hn5 : 16 - Int32.toInt x4 ≤ n5) : ws_X3_worthOf_54 post K5 tr_fruits tr_worth x1 x2 x3 x4 := by
  have l0 : Int32.toInt (1 : Int32) = 1 := (by decide)
  intro v1 ev1
  have f2 : Int32.toInt (x4 + 1) = Int32.toInt x4 + Int32.toInt (1 : Int32) := ta_add _ _ (by omega)
  rw [← ev1] at f2
  have f3 := tp_r x1
  have f4 := tp_r x2
  have f5 := tp_r x3
  exact hK5 x1 x2 x3 v1 (by omega) (by omega)
set_option maxHeartbeats 8000000 in
set_option maxRecDepth 200000 in
theorem ts_X3_worthOf_52 {post : Int32 → Prop} {K5 : Int32 → Int32 → Int32 → Int32 → Prop} {n5 : Int} (tr_fruits : Int32) (tr_worth : Nat → Int32) (h_tr_fruits : 0 ≤ Int32.toInt tr_fruits ∧ Int32.toInt tr_fruits ≤ 16) (hpost : ∀ (r : Int32) , post r) (hK5 : ∀ (x1 : Int32) (x2 : Int32) (x3 : Int32) (x4 : Int32), (0 ≤ Int32.toInt x4 ∧ Int32.toInt x4 ≤ 16) → (16 - Int32.toInt x4 < n5) → K5 x1 x2 x3 x4) (x1 : Int32) (x2 : Int32) (x4 : Int32) (k0 : Int32) (k1 : Int32) (h_x4 : 0 ≤ Int32.toInt x4 ∧ Int32.toInt x4 ≤ 15) (hn5 : 16 - Int32.toInt x4 ≤ n5) : ws_X3_worthOf_52 post K5 tr_fruits tr_worth x1 x2 x4 k0 k1 := by
  intro v6 ev6
  have hv6 := congrArg Int32.toInt ev6
  have f8 := tp_r x1
  have f9 := tp_r x2
  have f10 := tp_r v6
  exact ts_X3_worthOf_54 tr_fruits tr_worth h_tr_fruits hpost hK5 x1 x2 v6 x4 (by omega) (by omega)
set_option maxHeartbeats 8000000 in
set_option maxRecDepth 200000 in
theorem ts_X3_worthOf_5 {post : Int32 → Prop} {next : Int32 → Int32 → Int32 → Int32 → Prop} {n5 : Int} (tr_fruits : Int32) (tr_worth : Nat → Int32) (h_tr_fruits : 0 ≤ Int32.toInt tr_fruits ∧ Int32.toInt tr_fruits ≤ 16) (hpost : ∀ (r : Int32) , post r) (hKn : ∀ (x1 : Int32) (x2 : Int32) (x3 : Int32) (x4 : Int32), (0 ≤ Int32.toInt x4 ∧ Int32.toInt x4 ≤ 16) → (16 - Int32.toInt x4 < n5) → next x1 x2 x3 x4) (x1 : Int32) (x2 : Int32) (x3 : Int32) (x4 : Int32) (h_x4 : 0 ≤ Int32.toInt x4 ∧ Int32.toInt x4 ≤ 16) (hn5 : 16 - Int32.toInt x4 ≤ n5) : ws_X3_worthOf_5 post next tr_fruits tr_worth x1 x2 x3 x4 := by
  have l0 : Int32.toInt (0 : Int32) = 0 := (by decide)
  have l1 : Int32.toInt (1 : Int32) = 1 := (by decide)
  refine And.intro (fun c11 => ?_) (fun c11 => ?_)
  · skip
    have c11 := (fa_le _ _).mp c11
    exact hpost _ 
  · skip
    have c11 := mt (fa_le _ _).mpr c11
    intro v12 ev12
    have f14 := ti_andr v12 1 (by omega)
    refine And.intro (fun c13 => ?_) (fun c13 => ?_)
    · skip
      have c13 := (fa_eq _ _).mp c13
      have f15 := tp_r x1
      have f16 := tp_r x2
      have f17 := tp_r x3
      exact ts_X3_worthOf_54 tr_fruits tr_worth h_tr_fruits hpost hKn x1 x2 x3 x4 (by omega) (by omega)
    · skip
      have c13 := mt (fa_eq _ _).mpr c13
      intro v18 ev18
      have f20 := ti_andr v18 1 (by omega)
      refine And.intro (fun c19 => ?_) (fun c19 => ?_)
      · skip
        have c19 := (fa_eq _ _).mp c19
        refine And.intro (t_in (by omega)) ?_
        intro v21 ev21
        have hv21 := congrArg Int32.toInt ev21
        have f23 := tp_r x1
        have f24 := tp_r x2
        have f25 := tp_r x3
        have f26 := tp_r v21
        exact ts_X3_worthOf_52 tr_fruits tr_worth h_tr_fruits hpost hKn x1 x2 x4 x3 v21 (by omega) (by omega)
      · skip
        have c19 := mt (fa_eq _ _).mpr c19
        refine And.intro (t_in (by omega)) ?_
        intro v27 ev27
        have hv27 := congrArg Int32.toInt ev27
        intro v29 ev29
        have f30 := tp_r x1
        have f31 := tp_r x2
        have f32 := tp_r x3
        have f33 := tp_r v29
        exact ts_X3_worthOf_52 tr_fruits tr_worth h_tr_fruits hpost hKn x1 x2 x4 x3 v29 (by omega) (by omega)
set_option maxHeartbeats 8000000 in
set_option maxRecDepth 200000 in
theorem tb_X3_worthOf_5 {post : Int32 → Prop} (tr_fruits : Int32) (tr_worth : Nat → Int32) (h_tr_fruits : 0 ≤ Int32.toInt tr_fruits ∧ Int32.toInt tr_fruits ≤ 16) (hpost : ∀ (r : Int32) , post r) : ∀ (n : Nat) (x1 : Int32) (x2 : Int32) (x3 : Int32) (x4 : Int32), (0 ≤ Int32.toInt x4 ∧ Int32.toInt x4 ≤ 16) → (16 - Int32.toInt x4 < (n : Int)) → wb_X3_worthOf_5 post tr_fruits tr_worth n x1 x2 x3 x4 := by
  intro n
  induction n with
  | zero =>
    intro x1 x2 x3 x4 h_x4 hm
    exfalso; omega
  | succ n ih =>
    intro x1 x2 x3 x4 h_x4 hm
    exact ts_X3_worthOf_5 tr_fruits tr_worth h_tr_fruits hpost ih x1 x2 x3 x4 h_x4 (by omega)
set_option maxHeartbeats 8000000 in
set_option maxRecDepth 200000 in
theorem t_X3_worthOf {post : Int32 → Prop} {p0 : Int32} {p1 : Int32} {tr_fruits : Int32} {tr_worth : Nat → Int32} (h_tr_fruits : 0 ≤ Int32.toInt tr_fruits ∧ Int32.toInt tr_fruits ≤ 16) (hpost : ∀ (r : Int32) , post r) : wp_X3_worthOf post p0 p1 tr_fruits tr_worth := by
  have l0 : Int32.toInt (0 : Int32) = 0 := (by decide)
  have f34 := tp_r p0
  have f35 := tp_r p1
  exact ⟨18, tb_X3_worthOf_5 tr_fruits tr_worth h_tr_fruits hpost _ p0 p1 0 0 (by omega) (by omega)⟩
set_option maxHeartbeats 8000000 in
set_option maxRecDepth 200000 in
theorem ts_X7_reckon_136 {post : Int32 → (Nat → Int32) → Prop} (ru_length : Int32) (ru_given : Nat → Int32) (ru_program : Nat → Int32) (h_ru_length : 1 ≤ Int32.toInt ru_length ∧ Int32.toInt ru_length ≤ 40) (hpost : ∀ (r : Int32) (ru_stack' : Nat → Int32), post r ru_stack') (x1 : Int32) (ru_stack : Nat → Int32) (h_x1 : 0 ≤ Int32.toInt x1 ∧ Int32.toInt x1 ≤ 40) : ws_X7_reckon_136 post ru_length ru_given ru_program x1 ru_stack := by
  have l0 : Int32.toInt (0 : Int32) = 0 := (by decide)
  have l1 : Int32.toInt (1 : Int32) = 1 := (by decide)
  refine And.intro (fun c1 => ?_) (fun c1 => ?_)
  · skip
    have c1 := (fa_le _ _).mp c1
    exact hpost _ _ 
  · skip
    have c1 := mt (fa_le _ _).mpr c1
    intro v2 ev2
    have f3 : Int32.toInt (x1 - 1) = Int32.toInt x1 - Int32.toInt (1 : Int32) := ta_sub _ _ (by omega)
    rw [← ev2] at f3
    refine And.intro (t_in (by omega)) ?_
    intro v4 ev4
    have hv4 := congrArg Int32.toInt ev4
    exact hpost _ _ 
set_option maxHeartbeats 8000000 in
set_option maxRecDepth 200000 in
theorem ts_X7_reckon_130 {post : Int32 → (Nat → Int32) → Prop} {K4 : Int32 → Int32 → (Nat → Int32) → Prop} {n4 : Int} (ru_length : Int32) (ru_given : Nat → Int32) (ru_program : Nat → Int32) (h_ru_length : 1 ≤ Int32.toInt ru_length ∧ Int32.toInt ru_length ≤ 40) (hpost : ∀ (r : Int32) (ru_stack' : Nat → Int32), post r ru_stack') (hK4 : ∀ (x1 : Int32) (x2 : Int32) (ru_stack : Nat → Int32), (0 ≤ Int32.toInt x1 ∧ Int32.toInt x1 ≤ 40) → (0 ≤ Int32.toInt x2 ∧ Int32.toInt x2 ≤ 48) → (48 - Int32.toInt x2 < n4) → K4 x1 x2 ru_stack) (x1 : Int32) (x2 : Int32) (ru_stack : Nat → Int32) (h_x1 : 0 ≤ Int32.toInt x1 ∧ Int32.toInt x1 ≤ 40) (h_x2 : 0 ≤ Int32.toInt x2 ∧ Int32.toInt x2 ≤ 40) (hn4 : 48 - Int32.toInt x2 ≤ n4) : ws_X7_reckon_130 post K4 ru_length ru_given ru_program x1 x2 ru_stack := by
  have l0 : Int32.toInt (1 : Int32) = 1 := (by decide)
  intro v6 ev6
  have f7 : Int32.toInt (x2 + 1) = Int32.toInt x2 + Int32.toInt (1 : Int32) := ta_add _ _ (by omega)
  rw [← ev6] at f7
  exact hK4 x1 v6 ru_stack (by omega) (by omega) (by omega)
set_option maxHeartbeats 8000000 in
set_option maxRecDepth 200000 in
theorem ts_X7_reckon_4 {post : Int32 → (Nat → Int32) → Prop} {next : Int32 → Int32 → (Nat → Int32) → Prop} {n4 : Int} (ru_length : Int32) (ru_given : Nat → Int32) (ru_program : Nat → Int32) (h_ru_length : 1 ≤ Int32.toInt ru_length ∧ Int32.toInt ru_length ≤ 40) (hpost : ∀ (r : Int32) (ru_stack' : Nat → Int32), post r ru_stack') (hKn : ∀ (x1 : Int32) (x2 : Int32) (ru_stack : Nat → Int32), (0 ≤ Int32.toInt x1 ∧ Int32.toInt x1 ≤ 40) → (0 ≤ Int32.toInt x2 ∧ Int32.toInt x2 ≤ 48) → (48 - Int32.toInt x2 < n4) → next x1 x2 ru_stack) (x1 : Int32) (x2 : Int32) (ru_stack : Nat → Int32) (h_x1 : 0 ≤ Int32.toInt x1 ∧ Int32.toInt x1 ≤ 40) (h_x2 : 0 ≤ Int32.toInt x2 ∧ Int32.toInt x2 ≤ 48) (hn4 : 48 - Int32.toInt x2 ≤ n4) : ws_X7_reckon_4 post next ru_length ru_given ru_program x1 x2 ru_stack := by
  have l0 : Int32.toInt ((-1) : Int32) = -1 := (by decide)
  have l1 : Int32.toInt (0 : Int32) = 0 := (by decide)
  have l2 : Int32.toInt (1 : Int32) = 1 := (by decide)
  have l3 : Int32.toInt (2000 : Int32) = 2000 := (by decide)
  have l4 : Int32.toInt (2256 : Int32) = 2256 := (by decide)
  have l5 : Int32.toInt (40 : Int32) = 40 := (by decide)
  have l6 : Int32.toInt (42 : Int32) = 42 := (by decide)
  have l7 : Int32.toInt (43 : Int32) = 43 := (by decide)
  have l8 : Int32.toInt (45 : Int32) = 45 := (by decide)
  have l9 : Int32.toInt (60 : Int32) = 60 := (by decide)
  have l10 : Int32.toInt (61 : Int32) = 61 := (by decide)
  have l11 : Int32.toInt (62 : Int32) = 62 := (by decide)
  have l12 : Int32.toInt (7 : Int32) = 7 := (by decide)
  refine And.intro (fun c8 => ?_) (fun c8 => ?_)
  · skip
    have c8 := (fa_le _ _).mp c8
    exact ts_X7_reckon_136 ru_length ru_given ru_program h_ru_length hpost x1 ru_stack (by omega)
  · skip
    have c8 := mt (fa_le _ _).mpr c8
    refine And.intro (fun c9 => ?_) (fun c9 => ?_)
    · skip
      have c9 := (fa_le _ _).mp c9
      exfalso; omega
    · skip
      have c9 := mt (fa_le _ _).mpr c9
      refine And.intro (t_in (by omega)) ?_
      intro v10 ev10
      have hv10 := congrArg Int32.toInt ev10
      have f13 := tp_r v10
      refine And.intro (fun c12 => ?_) (fun c12 => ?_)
      · skip
        have c12 := (fa_le _ _).mp c12
        refine And.intro (fun c14 => ?_) (fun c14 => ?_)
        · skip
          have c14 := mt (fa_eq _ _).mpr c14
          refine And.intro (fun c15 => ?_) (fun c15 => ?_)
          · skip
            have c15 := (fa_le _ _).mp c15
            exact ts_X7_reckon_130 ru_length ru_given ru_program h_ru_length hpost hKn x1 x2 ru_stack (by omega) (by omega) (by omega)
          · skip
            have c15 := mt (fa_le _ _).mpr c15
            intro v16 ev16
            have f17 : Int32.toInt (x1 + (-1)) = Int32.toInt x1 + Int32.toInt ((-1) : Int32) := ta_add _ _ (by omega)
            rw [← ev16] at f17
            intro v18 ev18
            have f19 : Int32.toInt (v16 - 1) = Int32.toInt v16 - Int32.toInt (1 : Int32) := ta_sub _ _ (by omega)
            rw [← ev18] at f19
            intro v20 ev20
            have f21 : Int32.toInt (v10 - 2000) = Int32.toInt v10 - Int32.toInt (2000 : Int32) := ta_sub _ _ (by omega)
            rw [← ev20] at f21
            intro v22 ev22
            have hv22 := congrArg Int32.toInt (ev22.trans ev18.symm)
            refine And.intro (t_in (by omega)) ?_
            intro v23 ev23
            have hv23 := congrArg Int32.toInt ev23
            refine And.intro (t_in (by omega)) ?_
            intro v25 ev25
            have hv25 := congrArg Int32.toInt ev25
            refine And.intro (fun c27 => ?_) ?_
            · skip
              have c27 := (fa_eq _ _).mp c27
              refine And.intro (t_in (by omega)) ?_
              exact ts_X7_reckon_130 ru_length ru_given ru_program h_ru_length hpost hKn v16 x2 (upd ru_stack v18.toNatClampNeg (v23 * v25)) (by omega) (by omega) (by omega)
            refine And.intro (fun c28 => ?_) ?_
            · skip
              have c28 := (fa_eq _ _).mp c28
              refine And.intro (t_in (by omega)) ?_
              exact ts_X7_reckon_130 ru_length ru_given ru_program h_ru_length hpost hKn v16 x2 (upd ru_stack v18.toNatClampNeg (v23 + v25)) (by omega) (by omega) (by omega)
            refine And.intro (fun c29 => ?_) ?_
            · skip
              have c29 := (fa_eq _ _).mp c29
              refine And.intro (t_in (by omega)) ?_
              exact ts_X7_reckon_130 ru_length ru_given ru_program h_ru_length hpost hKn v16 x2 (upd ru_stack v18.toNatClampNeg (v23 - v25)) (by omega) (by omega) (by omega)
            refine And.intro (fun c30 => ?_) ?_
            · skip
              have c30 := (fa_eq _ _).mp c30
              have f32 := tp_r v23
              have f33 := tp_r v25
              refine And.intro (fun c31 => ?_) (fun c31 => ?_)
              · skip
                have c31 := (fa_le _ _).mp c31
                refine And.intro (t_in (by omega)) ?_
                exact ts_X7_reckon_130 ru_length ru_given ru_program h_ru_length hpost hKn v16 x2 (upd ru_stack v18.toNatClampNeg 0) (by omega) (by omega) (by omega)
              · skip
                have c31 := mt (fa_le _ _).mpr c31
                refine And.intro (t_in (by omega)) ?_
                exact ts_X7_reckon_130 ru_length ru_given ru_program h_ru_length hpost hKn v16 x2 (upd ru_stack v18.toNatClampNeg 1) (by omega) (by omega) (by omega)
            refine And.intro (fun c34 => ?_) ?_
            · skip
              have c34 := (fa_eq _ _).mp c34
              have f36 := tp_r v23
              have f37 := tp_r v25
              refine And.intro (fun c35 => ?_) (fun c35 => ?_)
              · skip
                have c35 := mt (fa_eq _ _).mpr c35
                refine And.intro (t_in (by omega)) ?_
                exact ts_X7_reckon_130 ru_length ru_given ru_program h_ru_length hpost hKn v16 x2 (upd ru_stack v18.toNatClampNeg 0) (by omega) (by omega) (by omega)
              · skip
                have c35 := (fa_eq _ _).mp c35
                refine And.intro (t_in (by omega)) ?_
                exact ts_X7_reckon_130 ru_length ru_given ru_program h_ru_length hpost hKn v16 x2 (upd ru_stack v18.toNatClampNeg 1) (by omega) (by omega) (by omega)
            refine And.intro (fun c38 => ?_) ?_
            · skip
              have c38 := (fa_eq _ _).mp c38
              have f40 := tp_r v23
              have f41 := tp_r v25
              refine And.intro (fun c39 => ?_) (fun c39 => ?_)
              · skip
                have c39 := (fa_le _ _).mp c39
                refine And.intro (t_in (by omega)) ?_
                exact ts_X7_reckon_130 ru_length ru_given ru_program h_ru_length hpost hKn v16 x2 (upd ru_stack v18.toNatClampNeg 0) (by omega) (by omega) (by omega)
              · skip
                have c39 := mt (fa_le _ _).mpr c39
                refine And.intro (t_in (by omega)) ?_
                exact ts_X7_reckon_130 ru_length ru_given ru_program h_ru_length hpost hKn v16 x2 (upd ru_stack v18.toNatClampNeg 1) (by omega) (by omega) (by omega)
            intro c42 c43 c44 c45 c46 c47
            have c42 := mt (fa_eq _ _).mpr c42
            have c43 := mt (fa_eq _ _).mpr c43
            have c44 := mt (fa_eq _ _).mpr c44
            have c45 := mt (fa_eq _ _).mpr c45
            have c46 := mt (fa_eq _ _).mpr c46
            have c47 := mt (fa_eq _ _).mpr c47
            have f49 := tp_r v25
            refine And.intro (fun c48 => ?_) (fun c48 => ?_)
            · skip
              have c48 := mt (fa_eq _ _).mpr c48
              refine And.intro (mt (fa_eq _ _).mp (by omega)) ?_
              refine And.intro (t_in (by omega)) ?_
              exact ts_X7_reckon_130 ru_length ru_given ru_program h_ru_length hpost hKn v16 x2 (upd ru_stack v18.toNatClampNeg (v23 / v25)) (by omega) (by omega) (by omega)
            · skip
              have c48 := (fa_eq _ _).mp c48
              refine And.intro (t_in (by omega)) ?_
              exact ts_X7_reckon_130 ru_length ru_given ru_program h_ru_length hpost hKn v16 x2 (upd ru_stack v18.toNatClampNeg 0) (by omega) (by omega) (by omega)
        · skip
          have c14 := (fa_eq _ _).mp c14
          refine And.intro (fun c50 => ?_) (fun c50 => ?_)
          · skip
            have c50 := (fa_le _ _).mp c50
            exact ts_X7_reckon_130 ru_length ru_given ru_program h_ru_length hpost hKn x1 x2 ru_stack (by omega) (by omega) (by omega)
          · skip
            have c50 := mt (fa_le _ _).mpr c50
            intro v51 ev51
            have f52 : Int32.toInt (x1 - 1) = Int32.toInt x1 - Int32.toInt (1 : Int32) := ta_sub _ _ (by omega)
            rw [← ev51] at f52
            intro v53 ev53
            have hv53 := congrArg Int32.toInt (ev53.trans ev51.symm)
            refine And.intro (t_in (by omega)) ?_
            intro v54 ev54
            refine And.intro (t_in (by omega)) ?_
            exact ts_X7_reckon_130 ru_length ru_given ru_program h_ru_length hpost hKn x1 x2 (upd ru_stack v51.toNatClampNeg v54) (by omega) (by omega) (by omega)
      · skip
        have c12 := mt (fa_le _ _).mpr c12
        refine And.intro (fun c55 => ?_) (fun c55 => ?_)
        · skip
          have c55 := (fa_le _ _).mp c55
          exact ts_X7_reckon_130 ru_length ru_given ru_program h_ru_length hpost hKn x1 x2 ru_stack (by omega) (by omega) (by omega)
        · skip
          have c55 := mt (fa_le _ _).mpr c55
          intro v56 ev56
          have hv56 := congrArg Int32.toInt ev56
          have f59 := tp_r v56
          refine And.intro (fun c58 => ?_) (fun c58 => ?_)
          · skip
            have c58 := (fa_lt _ _).mp c58
            refine And.intro (t_in (by omega)) ?_
            intro v60 ev60
            have f61 : Int32.toInt (x1 + 1) = Int32.toInt x1 + Int32.toInt (1 : Int32) := ta_add _ _ (by omega)
            rw [← ev60] at f61
            exact ts_X7_reckon_130 ru_length ru_given ru_program h_ru_length hpost hKn v60 x2 (upd ru_stack x1.toNatClampNeg v10) (by omega) (by omega) (by omega)
          · skip
            have c58 := mt (fa_lt _ _).mpr c58
            refine And.intro (fun c62 => ?_) (fun c62 => ?_)
            · skip
              have c62 := (fa_le _ _).mp c62
              refine And.intro (t_in (by omega)) ?_
              intro v63 ev63
              have f64 : Int32.toInt (x1 + 1) = Int32.toInt x1 + Int32.toInt (1 : Int32) := ta_add _ _ (by omega)
              rw [← ev63] at f64
              exact ts_X7_reckon_130 ru_length ru_given ru_program h_ru_length hpost hKn v63 x2 (upd ru_stack x1.toNatClampNeg v10) (by omega) (by omega) (by omega)
            · skip
              have c62 := mt (fa_le _ _).mpr c62
              refine And.intro (t_in (by omega)) ?_
              intro v65 ev65
              have hv65 := congrArg Int32.toInt ev65
              refine And.intro (t_in (by omega)) ?_
              intro v67 ev67
              have f68 : Int32.toInt (x1 + 1) = Int32.toInt x1 + Int32.toInt (1 : Int32) := ta_add _ _ (by omega)
              rw [← ev67] at f68
              exact ts_X7_reckon_130 ru_length ru_given ru_program h_ru_length hpost hKn v67 x2 (upd ru_stack x1.toNatClampNeg v65) (by omega) (by omega) (by omega)
set_option maxHeartbeats 8000000 in
set_option maxRecDepth 200000 in
theorem tb_X7_reckon_4 {post : Int32 → (Nat → Int32) → Prop} (ru_length : Int32) (ru_given : Nat → Int32) (ru_program : Nat → Int32) (h_ru_length : 1 ≤ Int32.toInt ru_length ∧ Int32.toInt ru_length ≤ 40) (hpost : ∀ (r : Int32) (ru_stack' : Nat → Int32), post r ru_stack') : ∀ (n : Nat) (x1 : Int32) (x2 : Int32) (ru_stack : Nat → Int32), (0 ≤ Int32.toInt x1 ∧ Int32.toInt x1 ≤ 40) → (0 ≤ Int32.toInt x2 ∧ Int32.toInt x2 ≤ 48) → (48 - Int32.toInt x2 < (n : Int)) → wb_X7_reckon_4 post ru_length ru_given ru_program n x1 x2 ru_stack := by
  intro n
  induction n with
  | zero =>
    intro x1 x2 ru_stack h_x1 h_x2 hm
    exfalso; omega
  | succ n ih =>
    intro x1 x2 ru_stack h_x1 h_x2 hm
    exact ts_X7_reckon_4 ru_length ru_given ru_program h_ru_length hpost ih x1 x2 ru_stack h_x1 h_x2 (by omega)
set_option maxHeartbeats 8000000 in
set_option maxRecDepth 200000 in
theorem t_X7_reckon {post : Int32 → (Nat → Int32) → Prop} {ru_length : Int32} {ru_given : Nat → Int32} {ru_stack : Nat → Int32} {ru_program : Nat → Int32} (h_ru_length : 1 ≤ Int32.toInt ru_length ∧ Int32.toInt ru_length ≤ 40) (hpost : ∀ (r : Int32) (ru_stack' : Nat → Int32), post r ru_stack') : wp_X7_reckon post ru_length ru_given ru_stack ru_program := by
  have l0 : Int32.toInt (0 : Int32) = 0 := (by decide)
  exact ⟨50, tb_X7_reckon_4 ru_length ru_given ru_program h_ru_length hpost _ 0 0 ru_stack (by omega) (by omega) (by omega)⟩
set_option maxHeartbeats 8000000 in
set_option maxRecDepth 200000 in
theorem ts_X0_pickSeconds_123 {post : Int32 → (Nat → Int32) → (Nat → Int32) → Prop} (tr_fruits : Int32) (tr_x : Nat → Int32) (tr_height : Nat → Int32) (tr_worth : Nat → Int32) (tr_foot : Nat → Int32) (tr_fork : Nat → Int32) (no_bruised : Int32) (ru_length : Int32) (ru_program : Nat → Int32) (h_tr_fruits : 0 ≤ Int32.toInt tr_fruits ∧ Int32.toInt tr_fruits ≤ 16) (h_ru_length : 0 ≤ Int32.toInt ru_length ∧ Int32.toInt ru_length ≤ 40) (hpost : ∀ (r : Int32) (ru_given' : Nat → Int32) (ru_stack' : Nat → Int32), (1 ≤ Int32.toInt r ∧ Int32.toInt r ≤ 99) → post r ru_given' ru_stack') (k0 : Int32) (ru_given : Nat → Int32) (ru_stack : Nat → Int32) : ws_X0_pickSeconds_123 post tr_fruits tr_x tr_height tr_worth tr_foot tr_fork no_bruised ru_length ru_program k0 ru_given ru_stack := by
  have l0 : Int32.toInt (1 : Int32) = 1 := (by decide)
  have l1 : Int32.toInt (99 : Int32) = 99 := (by decide)
  intro v1 ev1
  have f2 := tp_r (if k0 < 99 then k0 else 99)
  have f4 := tp_r k0
  have f3 := ti_min (99 : Int32) k0
  have hv1 := congrArg Int32.toInt ev1
  intro v5 ev5
  have f7 := tp_r v1
  have f6 := ti_max (1 : Int32) v1
  have hv5 := congrArg Int32.toInt ev5
  exact hpost _ _ _ (by omega)
set_option maxHeartbeats 8000000 in
set_option maxRecDepth 200000 in
theorem ts_X0_pickSeconds_92 {post : Int32 → (Nat → Int32) → (Nat → Int32) → Prop} (tr_fruits : Int32) (tr_x : Nat → Int32) (tr_height : Nat → Int32) (tr_worth : Nat → Int32) (tr_foot : Nat → Int32) (tr_fork : Nat → Int32) (no_bruised : Int32) (ru_length : Int32) (ru_program : Nat → Int32) (h_tr_fruits : 0 ≤ Int32.toInt tr_fruits ∧ Int32.toInt tr_fruits ≤ 16) (h_ru_length : 0 ≤ Int32.toInt ru_length ∧ Int32.toInt ru_length ≤ 40) (hpost : ∀ (r : Int32) (ru_given' : Nat → Int32) (ru_stack' : Nat → Int32), (1 ≤ Int32.toInt r ∧ Int32.toInt r ≤ 99) → post r ru_given' ru_stack') (x6 : Int32) (x7 : Int32) (ru_given : Nat → Int32) (ru_stack : Nat → Int32) : ws_X0_pickSeconds_92 post tr_fruits tr_x tr_height tr_worth tr_foot tr_fork no_bruised ru_length ru_program x6 x7 ru_given ru_stack := by
  have l0 : Int32.toInt (0 : Int32) = 0 := (by decide)
  refine And.intro (fun c8 => ?_) (fun c8 => ?_)
  · skip
    have c8 := mt (fa_eq _ _).mpr c8
    refine t_X7_reckon (by omega) (fun r10 ru_stack_9 => ?_)
    have f11 := tp_r r10
    exact ts_X0_pickSeconds_123 tr_fruits tr_x tr_height tr_worth tr_foot tr_fork no_bruised ru_length ru_program h_tr_fruits h_ru_length hpost r10 ru_given ru_stack_9 
  · skip
    have c8 := (fa_eq _ _).mp c8
    intro v12 ev12
    have hv12 := congrArg Int32.toInt ev12
    intro v14 ev14
    have hv14 := congrArg Int32.toInt ev14
    have f16 := tp_r v14
    exact ts_X0_pickSeconds_123 tr_fruits tr_x tr_height tr_worth tr_foot tr_fork no_bruised ru_length ru_program h_tr_fruits h_ru_length hpost v14 ru_given ru_stack 
set_option maxHeartbeats 8000000 in
set_option maxRecDepth 200000 in
theorem t_X0_pickSeconds {post : Int32 → (Nat → Int32) → (Nat → Int32) → Prop} {p0 : Int32} {p1 : Int32} {p2 : Int32} {p3 : Int32} {tr_fruits : Int32} {tr_x : Nat → Int32} {tr_height : Nat → Int32} {tr_worth : Nat → Int32} {tr_foot : Nat → Int32} {tr_fork : Nat → Int32} {no_bruised : Int32} {ru_length : Int32} {ru_given : Nat → Int32} {ru_stack : Nat → Int32} {ru_program : Nat → Int32} (h_p0 : 0 ≤ Int32.toInt p0 ∧ Int32.toInt p0 ≤ 15) (h_p1 : 0 ≤ Int32.toInt p1 ∧ Int32.toInt p1 ≤ 7) (h_p3 : 0 ≤ Int32.toInt p3 ∧ Int32.toInt p3 ≤ 63) (h_tr_fruits : 0 ≤ Int32.toInt tr_fruits ∧ Int32.toInt tr_fruits ≤ 16) (h_ru_length : 0 ≤ Int32.toInt ru_length ∧ Int32.toInt ru_length ≤ 40) (hpost : ∀ (r : Int32) (ru_given' : Nat → Int32) (ru_stack' : Nat → Int32), (1 ≤ Int32.toInt r ∧ Int32.toInt r ≤ 99) → post r ru_given' ru_stack') : wp_X0_pickSeconds post p0 p1 p2 p3 tr_fruits tr_x tr_height tr_worth tr_foot tr_fork no_bruised ru_length ru_given ru_stack ru_program := by
  have l0 : Int32.toInt (0 : Int32) = 0 := (by decide)
  have l1 : Int32.toInt (1 : Int32) = 1 := (by decide)
  have l2 : Int32.toInt (2 : Int32) = 2 := (by decide)
  have l3 : Int32.toInt (3 : Int32) = 3 := (by decide)
  have l4 : Int32.toInt (4 : Int32) = 4 := (by decide)
  have l5 : Int32.toInt (5 : Int32) = 5 := (by decide)
  have l6 : Int32.toInt (6 : Int32) = 6 := (by decide)
  refine And.intro (t_in (by omega)) ?_
  intro v17 ev17
  have hv17 := congrArg Int32.toInt ev17
  refine And.intro (t_in (by omega)) ?_
  have f20 := tp_r v17
  refine And.intro (fun c19 => ?_) (fun c19 => ?_)
  · skip
    have c19 := (fa_le _ _).mp c19
    refine And.intro (t_in (by omega)) ?_
    intro v22 ev22
    have hv22 := congrArg Int32.toInt ev22
    refine And.intro (t_in (by omega)) ?_
    refine And.intro (t_in (by omega)) ?_
    intro v23 ev23
    have hv23 := congrArg Int32.toInt ev23
    refine And.intro (t_in (by omega)) ?_
    have f26 := tp_r v23
    refine And.intro (fun c25 => ?_) (fun c25 => ?_)
    · skip
      have c25 := (fa_le _ _).mp c25
      refine And.intro (t_in (by omega)) ?_
      intro v28 ev28
      have hv28 := congrArg Int32.toInt ev28
      intro v29 ev29
      have f30 := ti_shl1 15 32768 p0 (by decide) (by omega)
      have hv29 := congrArg Int32.toInt ev29
      refine t_X3_worthOf (by omega) (fun r31 => ?_)
      exact ts_X0_pickSeconds_92 tr_fruits tr_x tr_height tr_worth tr_foot tr_fork no_bruised ru_length ru_program h_tr_fruits h_ru_length hpost (v22 - (tr_x p0.toNatClampNeg)) 0 (upd (upd (upd (upd (upd (upd (upd ru_given (0 : Int32).toNatClampNeg (v22 - (tr_x p0.toNatClampNeg))) (1 : Int32).toNatClampNeg 0) (2 : Int32).toNatClampNeg v28) (3 : Int32).toNatClampNeg r31) (4 : Int32).toNatClampNeg p1) (5 : Int32).toNatClampNeg p3) (6 : Int32).toNatClampNeg p2) ru_stack 
    · skip
      have c25 := mt (fa_le _ _).mpr c25
      refine And.intro (t_in (by omega)) ?_
      intro v33 ev33
      have hv33 := congrArg Int32.toInt ev33
      refine And.intro (t_in (by omega)) ?_
      intro v34 ev34
      have hv34 := congrArg Int32.toInt ev34
      refine And.intro (t_in (by omega)) ?_
      intro v36 ev36
      have hv36 := congrArg Int32.toInt ev36
      intro v37 ev37
      have f38 := ti_shl1 15 32768 p0 (by decide) (by omega)
      have hv37 := congrArg Int32.toInt ev37
      refine t_X3_worthOf (by omega) (fun r39 => ?_)
      have f41 := tp_r v34
      exact ts_X0_pickSeconds_92 tr_fruits tr_x tr_height tr_worth tr_foot tr_fork no_bruised ru_length ru_program h_tr_fruits h_ru_length hpost (v22 - (tr_x p0.toNatClampNeg)) v34 (upd (upd (upd (upd (upd (upd (upd ru_given (0 : Int32).toNatClampNeg (v22 - (tr_x p0.toNatClampNeg))) (1 : Int32).toNatClampNeg v34) (2 : Int32).toNatClampNeg v36) (3 : Int32).toNatClampNeg r39) (4 : Int32).toNatClampNeg p1) (5 : Int32).toNatClampNeg p3) (6 : Int32).toNatClampNeg p2) ru_stack 
  · skip
    have c19 := mt (fa_le _ _).mpr c19
    refine And.intro (t_in (by omega)) ?_
    intro v42 ev42
    have hv42 := congrArg Int32.toInt ev42
    refine And.intro (t_in (by omega)) ?_
    intro v43 ev43
    have hv43 := congrArg Int32.toInt ev43
    refine And.intro (t_in (by omega)) ?_
    intro v45 ev45
    have hv45 := congrArg Int32.toInt ev45
    refine And.intro (t_in (by omega)) ?_
    have f48 := tp_r v45
    refine And.intro (fun c47 => ?_) (fun c47 => ?_)
    · skip
      have c47 := (fa_le _ _).mp c47
      refine And.intro (t_in (by omega)) ?_
      intro v50 ev50
      have hv50 := congrArg Int32.toInt ev50
      intro v51 ev51
      have f52 := ti_shl1 15 32768 p0 (by decide) (by omega)
      have hv51 := congrArg Int32.toInt ev51
      refine t_X3_worthOf (by omega) (fun r53 => ?_)
      have f54 := tp_r v43
      exact ts_X0_pickSeconds_92 tr_fruits tr_x tr_height tr_worth tr_foot tr_fork no_bruised ru_length ru_program h_tr_fruits h_ru_length hpost v43 0 (upd (upd (upd (upd (upd (upd (upd ru_given (0 : Int32).toNatClampNeg v43) (1 : Int32).toNatClampNeg 0) (2 : Int32).toNatClampNeg v50) (3 : Int32).toNatClampNeg r53) (4 : Int32).toNatClampNeg p1) (5 : Int32).toNatClampNeg p3) (6 : Int32).toNatClampNeg p2) ru_stack 
    · skip
      have c47 := mt (fa_le _ _).mpr c47
      refine And.intro (t_in (by omega)) ?_
      intro v55 ev55
      have hv55 := congrArg Int32.toInt ev55
      refine And.intro (t_in (by omega)) ?_
      intro v56 ev56
      have hv56 := congrArg Int32.toInt ev56
      refine And.intro (t_in (by omega)) ?_
      intro v58 ev58
      have hv58 := congrArg Int32.toInt ev58
      intro v59 ev59
      have f60 := ti_shl1 15 32768 p0 (by decide) (by omega)
      have hv59 := congrArg Int32.toInt ev59
      refine t_X3_worthOf (by omega) (fun r61 => ?_)
      have f62 := tp_r v43
      have f63 := tp_r v56
      exact ts_X0_pickSeconds_92 tr_fruits tr_x tr_height tr_worth tr_foot tr_fork no_bruised ru_length ru_program h_tr_fruits h_ru_length hpost v43 v56 (upd (upd (upd (upd (upd (upd (upd ru_given (0 : Int32).toNatClampNeg v43) (1 : Int32).toNatClampNeg v56) (2 : Int32).toNatClampNeg v58) (3 : Int32).toNatClampNeg r61) (4 : Int32).toNatClampNeg p1) (5 : Int32).toNatClampNeg p3) (6 : Int32).toNatClampNeg p2) ru_stack 
set_option maxHeartbeats 8000000 in
set_option maxRecDepth 200000 in
theorem t_X0_pickFruit {post : Int32 → Int32 → Int32 → Int32 → (Nat → Int32) → (Nat → Int32) → Prop} {p0 : Int32} {p1 : Int32} {tr_fruits : Int32} {tr_x : Nat → Int32} {tr_height : Nat → Int32} {tr_worth : Nat → Int32} {tr_ripe : Nat → Int32} {tr_foot : Nat → Int32} {tr_fork : Nat → Int32} {tr_settings : Nat → Int32} {no_apron : Int32} {no_basket : Int32} {no_ground : Int32} {no_bruised : Int32} {no_ladder : Int32} {no_helper : Int32} {no_today : Int32} {no_clock : Int32} {ru_length : Int32} {ru_given : Nat → Int32} {ru_stack : Nat → Int32} {ru_program : Nat → Int32} (h_tr_fruits : 0 ≤ Int32.toInt tr_fruits ∧ Int32.toInt tr_fruits ≤ 16) (h_no_ladder : -1 ≤ Int32.toInt no_ladder ∧ Int32.toInt no_ladder ≤ 7) (h_no_today : 0 ≤ Int32.toInt no_today ∧ Int32.toInt no_today ≤ 9) (h_ru_length : 0 ≤ Int32.toInt ru_length ∧ Int32.toInt ru_length ≤ 40) (hpost : ∀ (r : Int32) (no_apron' : Int32) (no_bruised' : Int32) (no_clock' : Int32) (ru_given' : Nat → Int32) (ru_stack' : Nat → Int32), (-5 ≤ Int32.toInt r ∧ Int32.toInt r ≤ 99) → post r no_apron' no_bruised' no_clock' ru_given' ru_stack') : wp_X0_pickFruit post p0 p1 tr_fruits tr_x tr_height tr_worth tr_ripe tr_foot tr_fork tr_settings no_apron no_basket no_ground no_bruised no_ladder no_helper no_today no_clock ru_length ru_given ru_stack ru_program := by
  have l0 : Int32.toInt ((-1) : Int32) = -1 := (by decide)
  have l1 : Int32.toInt ((-2) : Int32) = -2 := (by decide)
  have l2 : Int32.toInt ((-3) : Int32) = -3 := (by decide)
  have l3 : Int32.toInt ((-4) : Int32) = -4 := (by decide)
  have l4 : Int32.toInt ((-5) : Int32) = -5 := (by decide)
  have l5 : Int32.toInt (0 : Int32) = 0 := (by decide)
  have l6 : Int32.toInt (1 : Int32) = 1 := (by decide)
  have l7 : Int32.toInt (2 : Int32) = 2 := (by decide)
  have l8 : Int32.toInt (252645135 : Int32) = 252645135 := (by decide)
  have l9 : Int32.toInt (4 : Int32) = 4 := (by decide)
  have l10 : Int32.toInt (63 : Int32) = 63 := (by decide)
  have l11 : Int32.toInt (858993459 : Int32) = 858993459 := (by decide)
  have l12 : Int32.toInt (9999 : Int32) = 9999 := (by decide)
  have f2 := tp_r p0
  refine And.intro (fun c1 => ?_) (fun c1 => ?_)
  · skip
    have c1 := (fa_lt _ _).mp c1
    refine And.intro (fun _ => ?_) (fun h9 => absurd h9 (by decide))
    exact hpost _ _ _ _ _ _ (by omega)
  · skip
    have c1 := mt (fa_lt _ _).mpr c1
    refine And.intro (fun c3 => ?_) (fun c3 => ?_)
    · skip
      have c3 := (fa_le _ _).mp c3
      refine And.intro (fun _ => ?_) (fun h9 => absurd h9 (by decide))
      exact hpost _ _ _ _ _ _ (by omega)
    · skip
      have c3 := mt (fa_le _ _).mpr c3
      refine And.intro (fun h9 => absurd h9 (by decide)) (fun _ => ?_)
      refine t_X9_isYesOrNo  (fun r4 h_r4 => ?_)
      refine And.intro (fun c5 => ?_) (fun c5 => ?_)
      · skip
        have c5 := mt (fa_eq _ _).mpr c5
        intro v6 ev6
        have f7 := ti_shl1 16 65536 tr_fruits (by decide) (by omega)
        have hv6 := congrArg Int32.toInt ev6
        intro v8 ev8
        intro v9 ev9
        intro v10 ev10
        have f13 : Int32.toInt (v6 - 1) = Int32.toInt v6 - Int32.toInt (1 : Int32) := ta_sub _ _ (by omega)
        have f14 := ti_andl (v6 - 1) (v9 ^^^ (-1)) (by omega)
        have f11 := ti_shr ((v6 - 1) &&& (v9 ^^^ (-1))) p0 (by omega)
        have hv10 := congrArg Int32.toInt ev10
        have f16 := ti_andr v10 1 (by omega)
        have f17 := ti_andl v10 1 (by omega)
        refine And.intro (fun c15 => ?_) (fun c15 => ?_)
        · skip
          have c15 := mt (fa_eq _ _).mpr c15
          refine And.intro (t_in (by omega)) ?_
          intro v18 ev18
          have hv18 := congrArg Int32.toInt ev18
          have f21 := tp_r v18
          refine And.intro (fun c20 => ?_) (fun c20 => ?_)
          · skip
            have c20 := (fa_le _ _).mp c20
            refine And.intro (fun c22 => ?_) (fun c22 => ?_)
            · skip
              have c22 := (fa_eq _ _).mp c22
              exact hpost _ _ _ _ _ _ (by omega)
            · skip
              have c22 := mt (fa_eq _ _).mpr c22
              intro v23 ev23
              have hv23 := congrArg Int32.toInt ev23
              intro v25 ev25
              have hv25 := congrArg Int32.toInt ev25
              refine And.intro (t_in (by omega)) ?_
              intro v27 ev27
              have hv27 := congrArg Int32.toInt ev27
              refine And.intro (t_in (by omega)) ?_
              have f30 := tp_r v27
              refine And.intro (fun c29 => ?_) (fun c29 => ?_)
              · skip
                have c29 := (fa_le _ _).mp c29
                refine And.intro (t_in (by omega)) ?_
                intro v32 ev32
                have hv32 := congrArg Int32.toInt ev32
                refine And.intro (t_in (by omega)) ?_
                refine And.intro (t_in (by omega)) ?_
                intro v33 ev33
                have hv33 := congrArg Int32.toInt ev33
                refine And.intro (t_in (by omega)) ?_
                have f36 := tp_r v33
                refine And.intro (fun c35 => ?_) (fun c35 => ?_)
                · skip
                  have c35 := (fa_le _ _).mp c35
                  intro v38 ev38
                  have hv38 := congrArg Int32.toInt ev38
                  intro v40 ev40
                  have f42 := tp_r v38
                  have f43 : Int32.toInt (0 * 0) = Int32.toInt (0 : Int32) * 0 := ta_mulc _ _ (by decide) (by omega)
                  have f41 : Int32.toInt (v38 + (0 * 0)) = Int32.toInt v38 + Int32.toInt (0 * 0) := ta_add _ _ (by omega)
                  rw [← ev40] at f41
                  have f45 := tp_r v40
                  refine And.intro (fun c44 => ?_) (fun c44 => ?_)
                  · skip
                    have c44 := (fa_lt _ _).mp c44
                    refine And.intro (fun h9 => absurd h9 (by decide)) (fun _ => ?_)
                    exact hpost _ _ _ _ _ _ (by omega)
                  · skip
                    have c44 := mt (fa_lt _ _).mpr c44
                    refine And.intro (fun _ => ?_) (fun h9 => absurd h9 (by decide))
                    intro v47 ev47
                    intro v48 ev48
                    have hv48 := congrArg Int32.toInt ev48
                    intro v50 ev50
                    have f51 := ti_andr v48 858993459 (by omega)
                    have hv50 := congrArg Int32.toInt ev50
                    intro v52 ev52
                    intro v53 ev53
                    have f55 := ti_andr v52 858993459 (by omega)
                    have f54 : Int32.toInt (v50 + (v52 &&& 858993459)) = Int32.toInt v50 + Int32.toInt (v52 &&& 858993459) := ta_add _ _ (by omega)
                    rw [← ev53] at f54
                    intro v56 ev56
                    have hv56 := congrArg Int32.toInt ev56
                    intro v58 ev58
                    have f59 := ti_andr v56 252645135 (by omega)
                    have hv58 := congrArg Int32.toInt ev58
                    intro v60 ev60
                    have hv60 := congrArg Int32.toInt ev60
                    intro v62 ev62
                    have hv62 := congrArg Int32.toInt ev62
                    have f65 := ti_andr v62 63 (by omega)
                    refine And.intro (fun c64 => ?_) (fun c64 => ?_)
                    · skip
                      have c64 := (fa_lt _ _).mp c64
                      refine t_X0_pickSeconds (by omega) (by omega) (by omega) (by omega) (by omega) (fun r69 ru_given_67 ru_stack_68 h_r69 => ?_)
                      refine t_X3_lowerThan (by omega) (by omega) (by omega) (fun r70 h_r70 => ?_)
                      intro v71 ev71
                      intro v72 ev72
                      intro v73 ev73
                      have hv73 := congrArg Int32.toInt ev73
                      intro v75 ev75
                      have f76 := tp_r (if v73 < 9999 then v73 else 9999)
                      have f78 := tp_r v73
                      have f77 := ti_min (9999 : Int32) v73
                      have hv75 := congrArg Int32.toInt ev75
                      exact hpost _ _ _ _ _ _ (by omega)
                    · skip
                      have c64 := mt (fa_lt _ _).mpr c64
                      exact hpost _ _ _ _ _ _ (by omega)
                · skip
                  have c35 := mt (fa_le _ _).mpr c35
                  refine And.intro (t_in (by omega)) ?_
                  intro v79 ev79
                  have hv79 := congrArg Int32.toInt ev79
                  refine And.intro (t_in (by omega)) ?_
                  intro v80 ev80
                  have hv80 := congrArg Int32.toInt ev80
                  intro v82 ev82
                  have hv82 := congrArg Int32.toInt ev82
                  intro v84 ev84
                  have hv84 := congrArg Int32.toInt ev84
                  have f87 := tp_r v84
                  refine And.intro (fun c86 => ?_) (fun c86 => ?_)
                  · skip
                    have c86 := (fa_lt _ _).mp c86
                    refine And.intro (fun h9 => absurd h9 (by decide)) (fun _ => ?_)
                    exact hpost _ _ _ _ _ _ (by omega)
                  · skip
                    have c86 := mt (fa_lt _ _).mpr c86
                    refine And.intro (fun _ => ?_) (fun h9 => absurd h9 (by decide))
                    intro v89 ev89
                    intro v90 ev90
                    have hv90 := congrArg Int32.toInt ev90
                    intro v92 ev92
                    have f93 := ti_andr v90 858993459 (by omega)
                    have hv92 := congrArg Int32.toInt ev92
                    intro v94 ev94
                    intro v95 ev95
                    have f97 := ti_andr v94 858993459 (by omega)
                    have f96 : Int32.toInt (v92 + (v94 &&& 858993459)) = Int32.toInt v92 + Int32.toInt (v94 &&& 858993459) := ta_add _ _ (by omega)
                    rw [← ev95] at f96
                    intro v98 ev98
                    have hv98 := congrArg Int32.toInt ev98
                    intro v100 ev100
                    have f101 := ti_andr v98 252645135 (by omega)
                    have hv100 := congrArg Int32.toInt ev100
                    intro v102 ev102
                    have hv102 := congrArg Int32.toInt ev102
                    intro v104 ev104
                    have hv104 := congrArg Int32.toInt ev104
                    have f107 := ti_andr v104 63 (by omega)
                    refine And.intro (fun c106 => ?_) (fun c106 => ?_)
                    · skip
                      have c106 := (fa_lt _ _).mp c106
                      refine t_X0_pickSeconds (by omega) (by omega) (by omega) (by omega) (by omega) (fun r111 ru_given_109 ru_stack_110 h_r111 => ?_)
                      refine t_X3_lowerThan (by omega) (by omega) (by omega) (fun r112 h_r112 => ?_)
                      intro v113 ev113
                      intro v114 ev114
                      intro v115 ev115
                      have hv115 := congrArg Int32.toInt ev115
                      intro v117 ev117
                      have f118 := tp_r (if v115 < 9999 then v115 else 9999)
                      have f120 := tp_r v115
                      have f119 := ti_min (9999 : Int32) v115
                      have hv117 := congrArg Int32.toInt ev117
                      exact hpost _ _ _ _ _ _ (by omega)
                    · skip
                      have c106 := mt (fa_lt _ _).mpr c106
                      exact hpost _ _ _ _ _ _ (by omega)
              · skip
                have c29 := mt (fa_le _ _).mpr c29
                refine And.intro (t_in (by omega)) ?_
                intro v121 ev121
                have hv121 := congrArg Int32.toInt ev121
                refine And.intro (t_in (by omega)) ?_
                intro v122 ev122
                have hv122 := congrArg Int32.toInt ev122
                refine And.intro (t_in (by omega)) ?_
                intro v124 ev124
                have hv124 := congrArg Int32.toInt ev124
                refine And.intro (t_in (by omega)) ?_
                have f127 := tp_r v124
                refine And.intro (fun c126 => ?_) (fun c126 => ?_)
                · skip
                  have c126 := (fa_le _ _).mp c126
                  intro v129 ev129
                  have hv129 := congrArg Int32.toInt ev129
                  intro v131 ev131
                  have f133 := tp_r v129
                  have f134 : Int32.toInt (0 * 0) = Int32.toInt (0 : Int32) * 0 := ta_mulc _ _ (by decide) (by omega)
                  have f132 : Int32.toInt (v129 + (0 * 0)) = Int32.toInt v129 + Int32.toInt (0 * 0) := ta_add _ _ (by omega)
                  rw [← ev131] at f132
                  have f136 := tp_r v131
                  refine And.intro (fun c135 => ?_) (fun c135 => ?_)
                  · skip
                    have c135 := (fa_lt _ _).mp c135
                    refine And.intro (fun h9 => absurd h9 (by decide)) (fun _ => ?_)
                    exact hpost _ _ _ _ _ _ (by omega)
                  · skip
                    have c135 := mt (fa_lt _ _).mpr c135
                    refine And.intro (fun _ => ?_) (fun h9 => absurd h9 (by decide))
                    intro v138 ev138
                    intro v139 ev139
                    have hv139 := congrArg Int32.toInt ev139
                    intro v141 ev141
                    have f142 := ti_andr v139 858993459 (by omega)
                    have hv141 := congrArg Int32.toInt ev141
                    intro v143 ev143
                    intro v144 ev144
                    have f146 := ti_andr v143 858993459 (by omega)
                    have f145 : Int32.toInt (v141 + (v143 &&& 858993459)) = Int32.toInt v141 + Int32.toInt (v143 &&& 858993459) := ta_add _ _ (by omega)
                    rw [← ev144] at f145
                    intro v147 ev147
                    have hv147 := congrArg Int32.toInt ev147
                    intro v149 ev149
                    have f150 := ti_andr v147 252645135 (by omega)
                    have hv149 := congrArg Int32.toInt ev149
                    intro v151 ev151
                    have hv151 := congrArg Int32.toInt ev151
                    intro v153 ev153
                    have hv153 := congrArg Int32.toInt ev153
                    have f156 := ti_andr v153 63 (by omega)
                    refine And.intro (fun c155 => ?_) (fun c155 => ?_)
                    · skip
                      have c155 := (fa_lt _ _).mp c155
                      refine t_X0_pickSeconds (by omega) (by omega) (by omega) (by omega) (by omega) (fun r160 ru_given_158 ru_stack_159 h_r160 => ?_)
                      refine t_X3_lowerThan (by omega) (by omega) (by omega) (fun r161 h_r161 => ?_)
                      intro v162 ev162
                      intro v163 ev163
                      intro v164 ev164
                      have hv164 := congrArg Int32.toInt ev164
                      intro v166 ev166
                      have f167 := tp_r (if v164 < 9999 then v164 else 9999)
                      have f169 := tp_r v164
                      have f168 := ti_min (9999 : Int32) v164
                      have hv166 := congrArg Int32.toInt ev166
                      exact hpost _ _ _ _ _ _ (by omega)
                    · skip
                      have c155 := mt (fa_lt _ _).mpr c155
                      exact hpost _ _ _ _ _ _ (by omega)
                · skip
                  have c126 := mt (fa_le _ _).mpr c126
                  refine And.intro (t_in (by omega)) ?_
                  intro v170 ev170
                  have hv170 := congrArg Int32.toInt ev170
                  refine And.intro (t_in (by omega)) ?_
                  intro v171 ev171
                  have hv171 := congrArg Int32.toInt ev171
                  intro v173 ev173
                  have hv173 := congrArg Int32.toInt ev173
                  intro v175 ev175
                  have hv175 := congrArg Int32.toInt ev175
                  have f178 := tp_r v175
                  refine And.intro (fun c177 => ?_) (fun c177 => ?_)
                  · skip
                    have c177 := (fa_lt _ _).mp c177
                    refine And.intro (fun h9 => absurd h9 (by decide)) (fun _ => ?_)
                    exact hpost _ _ _ _ _ _ (by omega)
                  · skip
                    have c177 := mt (fa_lt _ _).mpr c177
                    refine And.intro (fun _ => ?_) (fun h9 => absurd h9 (by decide))
                    intro v180 ev180
                    intro v181 ev181
                    have hv181 := congrArg Int32.toInt ev181
                    intro v183 ev183
                    have f184 := ti_andr v181 858993459 (by omega)
                    have hv183 := congrArg Int32.toInt ev183
                    intro v185 ev185
                    intro v186 ev186
                    have f188 := ti_andr v185 858993459 (by omega)
                    have f187 : Int32.toInt (v183 + (v185 &&& 858993459)) = Int32.toInt v183 + Int32.toInt (v185 &&& 858993459) := ta_add _ _ (by omega)
                    rw [← ev186] at f187
                    intro v189 ev189
                    have hv189 := congrArg Int32.toInt ev189
                    intro v191 ev191
                    have f192 := ti_andr v189 252645135 (by omega)
                    have hv191 := congrArg Int32.toInt ev191
                    intro v193 ev193
                    have hv193 := congrArg Int32.toInt ev193
                    intro v195 ev195
                    have hv195 := congrArg Int32.toInt ev195
                    have f198 := ti_andr v195 63 (by omega)
                    refine And.intro (fun c197 => ?_) (fun c197 => ?_)
                    · skip
                      have c197 := (fa_lt _ _).mp c197
                      refine t_X0_pickSeconds (by omega) (by omega) (by omega) (by omega) (by omega) (fun r202 ru_given_200 ru_stack_201 h_r202 => ?_)
                      refine t_X3_lowerThan (by omega) (by omega) (by omega) (fun r203 h_r203 => ?_)
                      intro v204 ev204
                      intro v205 ev205
                      intro v206 ev206
                      have hv206 := congrArg Int32.toInt ev206
                      intro v208 ev208
                      have f209 := tp_r (if v206 < 9999 then v206 else 9999)
                      have f211 := tp_r v206
                      have f210 := ti_min (9999 : Int32) v206
                      have hv208 := congrArg Int32.toInt ev208
                      exact hpost _ _ _ _ _ _ (by omega)
                    · skip
                      have c197 := mt (fa_lt _ _).mpr c197
                      exact hpost _ _ _ _ _ _ (by omega)
          · skip
            have c20 := mt (fa_le _ _).mpr c20
            exact hpost _ _ _ _ _ _ (by omega)
        · skip
          have c15 := (fa_eq _ _).mp c15
          exact hpost _ _ _ _ _ _ (by omega)
      · skip
        have c5 := (fa_eq _ _).mp c5
        exact hpost _ _ _ _ _ _ (by omega)
set_option maxHeartbeats 8000000 in
set_option maxRecDepth 200000 in
theorem t_X9_pick {post : Int32 → Int32 → Int32 → Int32 → (Nat → Int32) → (Nat → Int32) → Int32 → Int32 → (Nat → Int32) → Prop} {p0 : Int32} {p1 : Int32} {tr_fruits : Int32} {tr_x : Nat → Int32} {tr_height : Nat → Int32} {tr_worth : Nat → Int32} {tr_ripe : Nat → Int32} {tr_foot : Nat → Int32} {tr_fork : Nat → Int32} {tr_settings : Nat → Int32} {no_apron : Int32} {no_basket : Int32} {no_ground : Int32} {no_bruised : Int32} {no_ladder : Int32} {no_helper : Int32} {no_today : Int32} {no_clock : Int32} {ru_length : Int32} {ru_given : Nat → Int32} {ru_stack : Nat → Int32} {ru_program : Nat → Int32} {pa_undoable : Int32} {pa_free : Int32} {pa_cells : Nat → Int32} (h_tr_fruits : 0 ≤ Int32.toInt tr_fruits ∧ Int32.toInt tr_fruits ≤ 16) (h_no_ladder : -1 ≤ Int32.toInt no_ladder ∧ Int32.toInt no_ladder ≤ 7) (h_no_today : 0 ≤ Int32.toInt no_today ∧ Int32.toInt no_today ≤ 9) (h_ru_length : 0 ≤ Int32.toInt ru_length ∧ Int32.toInt ru_length ≤ 40) (h_pa_undoable : 0 ≤ Int32.toInt pa_undoable ∧ Int32.toInt pa_undoable ≤ 12) (h_pa_free : 0 ≤ Int32.toInt pa_free ∧ Int32.toInt pa_free ≤ 12) (e0_pa_cells : ∀ k : Nat, k % 8 = 4 → -1 ≤ Int32.toInt (pa_cells k) ∧ Int32.toInt (pa_cells k) ≤ 7) (e1_pa_cells : ∀ k : Nat, k % 8 = 6 → 0 ≤ Int32.toInt (pa_cells k) ∧ Int32.toInt (pa_cells k) ≤ 9) (hpost : ∀ (r : Int32) (no_apron' : Int32) (no_bruised' : Int32) (no_clock' : Int32) (ru_given' : Nat → Int32) (ru_stack' : Nat → Int32) (pa_undoable' : Int32) (pa_free' : Int32) (pa_cells' : Nat → Int32), (-5 ≤ Int32.toInt r ∧ Int32.toInt r ≤ 99) → (0 ≤ Int32.toInt pa_undoable' ∧ Int32.toInt pa_undoable' ≤ 12) → (0 ≤ Int32.toInt pa_free' ∧ Int32.toInt pa_free' ≤ 12) → (∀ k : Nat, k % 8 = 4 → -1 ≤ Int32.toInt (pa_cells' k) ∧ Int32.toInt (pa_cells' k) ≤ 7) → (∀ k : Nat, k % 8 = 6 → 0 ≤ Int32.toInt (pa_cells' k) ∧ Int32.toInt (pa_cells' k) ≤ 9) → post r no_apron' no_bruised' no_clock' ru_given' ru_stack' pa_undoable' pa_free' pa_cells') : wp_X9_pick post p0 p1 tr_fruits tr_x tr_height tr_worth tr_ripe tr_foot tr_fork tr_settings no_apron no_basket no_ground no_bruised no_ladder no_helper no_today no_clock ru_length ru_given ru_stack ru_program pa_undoable pa_free pa_cells := by
  have l0 : Int32.toInt (0 : Int32) = 0 := (by decide)
  have l1 : Int32.toInt (1 : Int32) = 1 := (by decide)
  have l2 : Int32.toInt (104 : Int32) = 104 := (by decide)
  have l3 : Int32.toInt (12 : Int32) = 12 := (by decide)
  have l4 : Int32.toInt (13 : Int32) = 13 := (by decide)
  have l5 : Int32.toInt (2 : Int32) = 2 := (by decide)
  have l6 : Int32.toInt (3 : Int32) = 3 := (by decide)
  have l7 : Int32.toInt (4 : Int32) = 4 := (by decide)
  have l8 : Int32.toInt (5 : Int32) = 5 := (by decide)
  have l9 : Int32.toInt (6 : Int32) = 6 := (by decide)
  have l10 : Int32.toInt (7 : Int32) = 7 := (by decide)
  have l11 : Int32.toInt (8 : Int32) = 8 := (by decide)
  intro v1 ev1
  have f2 : Int32.toInt (pa_free * 8) = Int32.toInt pa_free * 8 := ta_mulc _ _ (by decide) (by omega)
  rw [← ev1] at f2
  refine And.intro (fun c3 => ?_) (fun c3 => ?_)
  · skip
    have c3 := (fa_lt _ _).mp c3
    exfalso; omega
  · skip
    have c3 := mt (fa_lt _ _).mpr c3
    have f5 : Int32.toInt (104 - 8) = Int32.toInt (104 : Int32) - Int32.toInt (8 : Int32) := ta_sub _ _ (by omega)
    refine And.intro (fun c4 => ?_) (fun c4 => ?_)
    · skip
      have c4 := (fa_le _ _).mp c4
      refine And.intro (t_in (by omega)) ?_
      have f7 := tp_r no_apron
      have e6 : ∀ k : Nat, k % 8 = 4 → -1 ≤ Int32.toInt ((upd pa_cells v1.toNatClampNeg no_apron) k) ∧ Int32.toInt ((upd pa_cells v1.toNatClampNeg no_apron) k) ≤ 7 := t_updc (C := fun k => k % 8 = 4) e0_pa_cells (fun hk => by have e9 : v1.toNatClampNeg = (Int32.toInt v1).toNat := rfl; have hk : v1.toNatClampNeg % 8 = 4 := hk; omega)
      have e8 : ∀ k : Nat, k % 8 = 6 → 0 ≤ Int32.toInt ((upd pa_cells v1.toNatClampNeg no_apron) k) ∧ Int32.toInt ((upd pa_cells v1.toNatClampNeg no_apron) k) ≤ 9 := t_updc (C := fun k => k % 8 = 6) e1_pa_cells (fun hk => by have e9 : v1.toNatClampNeg = (Int32.toInt v1).toNat := rfl; have hk : v1.toNatClampNeg % 8 = 6 := hk; omega)
      intro v9 ev9
      have f10 : Int32.toInt (v1 + 1) = Int32.toInt v1 + Int32.toInt (1 : Int32) := ta_add _ _ (by omega)
      rw [← ev9] at f10
      refine And.intro (t_in (by omega)) ?_
      have f12 := tp_r no_basket
      have e11 : ∀ k : Nat, k % 8 = 4 → -1 ≤ Int32.toInt ((upd (upd pa_cells v1.toNatClampNeg no_apron) v9.toNatClampNeg no_basket) k) ∧ Int32.toInt ((upd (upd pa_cells v1.toNatClampNeg no_apron) v9.toNatClampNeg no_basket) k) ≤ 7 := t_updc (C := fun k => k % 8 = 4) e6 (fun hk => by have e9 : v9.toNatClampNeg = (Int32.toInt v9).toNat := rfl; have hk : v9.toNatClampNeg % 8 = 4 := hk; omega)
      have e13 : ∀ k : Nat, k % 8 = 6 → 0 ≤ Int32.toInt ((upd (upd pa_cells v1.toNatClampNeg no_apron) v9.toNatClampNeg no_basket) k) ∧ Int32.toInt ((upd (upd pa_cells v1.toNatClampNeg no_apron) v9.toNatClampNeg no_basket) k) ≤ 9 := t_updc (C := fun k => k % 8 = 6) e8 (fun hk => by have e9 : v9.toNatClampNeg = (Int32.toInt v9).toNat := rfl; have hk : v9.toNatClampNeg % 8 = 6 := hk; omega)
      intro v14 ev14
      have f15 : Int32.toInt (v1 + 2) = Int32.toInt v1 + Int32.toInt (2 : Int32) := ta_add _ _ (by omega)
      rw [← ev14] at f15
      refine And.intro (t_in (by omega)) ?_
      have f17 := tp_r no_ground
      have e16 : ∀ k : Nat, k % 8 = 4 → -1 ≤ Int32.toInt ((upd (upd (upd pa_cells v1.toNatClampNeg no_apron) v9.toNatClampNeg no_basket) v14.toNatClampNeg no_ground) k) ∧ Int32.toInt ((upd (upd (upd pa_cells v1.toNatClampNeg no_apron) v9.toNatClampNeg no_basket) v14.toNatClampNeg no_ground) k) ≤ 7 := t_updc (C := fun k => k % 8 = 4) e11 (fun hk => by have e9 : v14.toNatClampNeg = (Int32.toInt v14).toNat := rfl; have hk : v14.toNatClampNeg % 8 = 4 := hk; omega)
      have e18 : ∀ k : Nat, k % 8 = 6 → 0 ≤ Int32.toInt ((upd (upd (upd pa_cells v1.toNatClampNeg no_apron) v9.toNatClampNeg no_basket) v14.toNatClampNeg no_ground) k) ∧ Int32.toInt ((upd (upd (upd pa_cells v1.toNatClampNeg no_apron) v9.toNatClampNeg no_basket) v14.toNatClampNeg no_ground) k) ≤ 9 := t_updc (C := fun k => k % 8 = 6) e13 (fun hk => by have e9 : v14.toNatClampNeg = (Int32.toInt v14).toNat := rfl; have hk : v14.toNatClampNeg % 8 = 6 := hk; omega)
      intro v19 ev19
      have f20 : Int32.toInt (v1 + 3) = Int32.toInt v1 + Int32.toInt (3 : Int32) := ta_add _ _ (by omega)
      rw [← ev19] at f20
      refine And.intro (t_in (by omega)) ?_
      have f22 := tp_r no_bruised
      have e21 : ∀ k : Nat, k % 8 = 4 → -1 ≤ Int32.toInt ((upd (upd (upd (upd pa_cells v1.toNatClampNeg no_apron) v9.toNatClampNeg no_basket) v14.toNatClampNeg no_ground) v19.toNatClampNeg no_bruised) k) ∧ Int32.toInt ((upd (upd (upd (upd pa_cells v1.toNatClampNeg no_apron) v9.toNatClampNeg no_basket) v14.toNatClampNeg no_ground) v19.toNatClampNeg no_bruised) k) ≤ 7 := t_updc (C := fun k => k % 8 = 4) e16 (fun hk => by have e9 : v19.toNatClampNeg = (Int32.toInt v19).toNat := rfl; have hk : v19.toNatClampNeg % 8 = 4 := hk; omega)
      have e23 : ∀ k : Nat, k % 8 = 6 → 0 ≤ Int32.toInt ((upd (upd (upd (upd pa_cells v1.toNatClampNeg no_apron) v9.toNatClampNeg no_basket) v14.toNatClampNeg no_ground) v19.toNatClampNeg no_bruised) k) ∧ Int32.toInt ((upd (upd (upd (upd pa_cells v1.toNatClampNeg no_apron) v9.toNatClampNeg no_basket) v14.toNatClampNeg no_ground) v19.toNatClampNeg no_bruised) k) ≤ 9 := t_updc (C := fun k => k % 8 = 6) e18 (fun hk => by have e9 : v19.toNatClampNeg = (Int32.toInt v19).toNat := rfl; have hk : v19.toNatClampNeg % 8 = 6 := hk; omega)
      intro v24 ev24
      have f25 : Int32.toInt (v1 + 4) = Int32.toInt v1 + Int32.toInt (4 : Int32) := ta_add _ _ (by omega)
      rw [← ev24] at f25
      refine And.intro (t_in (by omega)) ?_
      have e26 : ∀ k : Nat, k % 8 = 4 → -1 ≤ Int32.toInt ((upd (upd (upd (upd (upd pa_cells v1.toNatClampNeg no_apron) v9.toNatClampNeg no_basket) v14.toNatClampNeg no_ground) v19.toNatClampNeg no_bruised) v24.toNatClampNeg no_ladder) k) ∧ Int32.toInt ((upd (upd (upd (upd (upd pa_cells v1.toNatClampNeg no_apron) v9.toNatClampNeg no_basket) v14.toNatClampNeg no_ground) v19.toNatClampNeg no_bruised) v24.toNatClampNeg no_ladder) k) ≤ 7 := t_updc (C := fun k => k % 8 = 4) e21 (fun hk => by have e9 : v24.toNatClampNeg = (Int32.toInt v24).toNat := rfl; have hk : v24.toNatClampNeg % 8 = 4 := hk; omega)
      have e27 : ∀ k : Nat, k % 8 = 6 → 0 ≤ Int32.toInt ((upd (upd (upd (upd (upd pa_cells v1.toNatClampNeg no_apron) v9.toNatClampNeg no_basket) v14.toNatClampNeg no_ground) v19.toNatClampNeg no_bruised) v24.toNatClampNeg no_ladder) k) ∧ Int32.toInt ((upd (upd (upd (upd (upd pa_cells v1.toNatClampNeg no_apron) v9.toNatClampNeg no_basket) v14.toNatClampNeg no_ground) v19.toNatClampNeg no_bruised) v24.toNatClampNeg no_ladder) k) ≤ 9 := t_updc (C := fun k => k % 8 = 6) e23 (fun hk => by have e9 : v24.toNatClampNeg = (Int32.toInt v24).toNat := rfl; have hk : v24.toNatClampNeg % 8 = 6 := hk; omega)
      intro v28 ev28
      have f29 : Int32.toInt (v1 + 5) = Int32.toInt v1 + Int32.toInt (5 : Int32) := ta_add _ _ (by omega)
      rw [← ev28] at f29
      refine And.intro (t_in (by omega)) ?_
      have f31 := tp_r no_helper
      have e30 : ∀ k : Nat, k % 8 = 4 → -1 ≤ Int32.toInt ((upd (upd (upd (upd (upd (upd pa_cells v1.toNatClampNeg no_apron) v9.toNatClampNeg no_basket) v14.toNatClampNeg no_ground) v19.toNatClampNeg no_bruised) v24.toNatClampNeg no_ladder) v28.toNatClampNeg no_helper) k) ∧ Int32.toInt ((upd (upd (upd (upd (upd (upd pa_cells v1.toNatClampNeg no_apron) v9.toNatClampNeg no_basket) v14.toNatClampNeg no_ground) v19.toNatClampNeg no_bruised) v24.toNatClampNeg no_ladder) v28.toNatClampNeg no_helper) k) ≤ 7 := t_updc (C := fun k => k % 8 = 4) e26 (fun hk => by have e9 : v28.toNatClampNeg = (Int32.toInt v28).toNat := rfl; have hk : v28.toNatClampNeg % 8 = 4 := hk; omega)
      have e32 : ∀ k : Nat, k % 8 = 6 → 0 ≤ Int32.toInt ((upd (upd (upd (upd (upd (upd pa_cells v1.toNatClampNeg no_apron) v9.toNatClampNeg no_basket) v14.toNatClampNeg no_ground) v19.toNatClampNeg no_bruised) v24.toNatClampNeg no_ladder) v28.toNatClampNeg no_helper) k) ∧ Int32.toInt ((upd (upd (upd (upd (upd (upd pa_cells v1.toNatClampNeg no_apron) v9.toNatClampNeg no_basket) v14.toNatClampNeg no_ground) v19.toNatClampNeg no_bruised) v24.toNatClampNeg no_ladder) v28.toNatClampNeg no_helper) k) ≤ 9 := t_updc (C := fun k => k % 8 = 6) e27 (fun hk => by have e9 : v28.toNatClampNeg = (Int32.toInt v28).toNat := rfl; have hk : v28.toNatClampNeg % 8 = 6 := hk; omega)
      intro v33 ev33
      have f34 : Int32.toInt (v1 + 6) = Int32.toInt v1 + Int32.toInt (6 : Int32) := ta_add _ _ (by omega)
      rw [← ev33] at f34
      refine And.intro (t_in (by omega)) ?_
      have e35 : ∀ k : Nat, k % 8 = 4 → -1 ≤ Int32.toInt ((upd (upd (upd (upd (upd (upd (upd pa_cells v1.toNatClampNeg no_apron) v9.toNatClampNeg no_basket) v14.toNatClampNeg no_ground) v19.toNatClampNeg no_bruised) v24.toNatClampNeg no_ladder) v28.toNatClampNeg no_helper) v33.toNatClampNeg no_today) k) ∧ Int32.toInt ((upd (upd (upd (upd (upd (upd (upd pa_cells v1.toNatClampNeg no_apron) v9.toNatClampNeg no_basket) v14.toNatClampNeg no_ground) v19.toNatClampNeg no_bruised) v24.toNatClampNeg no_ladder) v28.toNatClampNeg no_helper) v33.toNatClampNeg no_today) k) ≤ 7 := t_updc (C := fun k => k % 8 = 4) e30 (fun hk => by have e9 : v33.toNatClampNeg = (Int32.toInt v33).toNat := rfl; have hk : v33.toNatClampNeg % 8 = 4 := hk; omega)
      have e36 : ∀ k : Nat, k % 8 = 6 → 0 ≤ Int32.toInt ((upd (upd (upd (upd (upd (upd (upd pa_cells v1.toNatClampNeg no_apron) v9.toNatClampNeg no_basket) v14.toNatClampNeg no_ground) v19.toNatClampNeg no_bruised) v24.toNatClampNeg no_ladder) v28.toNatClampNeg no_helper) v33.toNatClampNeg no_today) k) ∧ Int32.toInt ((upd (upd (upd (upd (upd (upd (upd pa_cells v1.toNatClampNeg no_apron) v9.toNatClampNeg no_basket) v14.toNatClampNeg no_ground) v19.toNatClampNeg no_bruised) v24.toNatClampNeg no_ladder) v28.toNatClampNeg no_helper) v33.toNatClampNeg no_today) k) ≤ 9 := t_updc (C := fun k => k % 8 = 6) e32 (fun hk => by have e9 : v33.toNatClampNeg = (Int32.toInt v33).toNat := rfl; have hk : v33.toNatClampNeg % 8 = 6 := hk; omega)
      intro v37 ev37
      have f38 : Int32.toInt (v1 + 7) = Int32.toInt v1 + Int32.toInt (7 : Int32) := ta_add _ _ (by omega)
      rw [← ev37] at f38
      refine And.intro (t_in (by omega)) ?_
      have f40 := tp_r no_clock
      have e39 : ∀ k : Nat, k % 8 = 4 → -1 ≤ Int32.toInt ((upd (upd (upd (upd (upd (upd (upd (upd pa_cells v1.toNatClampNeg no_apron) v9.toNatClampNeg no_basket) v14.toNatClampNeg no_ground) v19.toNatClampNeg no_bruised) v24.toNatClampNeg no_ladder) v28.toNatClampNeg no_helper) v33.toNatClampNeg no_today) v37.toNatClampNeg no_clock) k) ∧ Int32.toInt ((upd (upd (upd (upd (upd (upd (upd (upd pa_cells v1.toNatClampNeg no_apron) v9.toNatClampNeg no_basket) v14.toNatClampNeg no_ground) v19.toNatClampNeg no_bruised) v24.toNatClampNeg no_ladder) v28.toNatClampNeg no_helper) v33.toNatClampNeg no_today) v37.toNatClampNeg no_clock) k) ≤ 7 := t_updc (C := fun k => k % 8 = 4) e35 (fun hk => by have e9 : v37.toNatClampNeg = (Int32.toInt v37).toNat := rfl; have hk : v37.toNatClampNeg % 8 = 4 := hk; omega)
      have e41 : ∀ k : Nat, k % 8 = 6 → 0 ≤ Int32.toInt ((upd (upd (upd (upd (upd (upd (upd (upd pa_cells v1.toNatClampNeg no_apron) v9.toNatClampNeg no_basket) v14.toNatClampNeg no_ground) v19.toNatClampNeg no_bruised) v24.toNatClampNeg no_ladder) v28.toNatClampNeg no_helper) v33.toNatClampNeg no_today) v37.toNatClampNeg no_clock) k) ∧ Int32.toInt ((upd (upd (upd (upd (upd (upd (upd (upd pa_cells v1.toNatClampNeg no_apron) v9.toNatClampNeg no_basket) v14.toNatClampNeg no_ground) v19.toNatClampNeg no_bruised) v24.toNatClampNeg no_ladder) v28.toNatClampNeg no_helper) v33.toNatClampNeg no_today) v37.toNatClampNeg no_clock) k) ≤ 9 := t_updc (C := fun k => k % 8 = 6) e36 (fun hk => by have e9 : v37.toNatClampNeg = (Int32.toInt v37).toNat := rfl; have hk : v37.toNatClampNeg % 8 = 6 := hk; omega)
      refine t_X0_pickFruit (by omega) (by omega) (by omega) (by omega) (fun r47 no_apron_42 no_bruised_43 no_clock_44 ru_given_45 ru_stack_46 h_r47 => ?_)
      refine And.intro (fun c48 => ?_) (fun c48 => ?_)
      · skip
        have c48 := (fa_lt _ _).mp c48
        exact hpost _ _ _ _ _ _ _ _ _ (by omega) (by omega) (by omega) e39 e41
      · skip
        have c48 := mt (fa_lt _ _).mpr c48
        intro v49 ev49
        have f50 : Int32.toInt (pa_free + 1) = Int32.toInt pa_free + Int32.toInt (1 : Int32) := ta_add _ _ (by omega)
        rw [← ev49] at f50
        intro v51 ev51
        have f52 : Int32.toInt (v49 - v49 / 13 * 13) = Int32.toInt v49 % 13 := ti_rem _ _ (by decide) (by omega) (by decide)
        rw [← ev51] at f52
        intro v53 ev53
        have f54 : Int32.toInt (pa_undoable + 1) = Int32.toInt pa_undoable + Int32.toInt (1 : Int32) := ta_add _ _ (by omega)
        rw [← ev53] at f54
        intro v55 ev55
        have f56 := ti_min (12 : Int32) v53
        have hv55 := congrArg Int32.toInt ev55
        exact hpost _ _ _ _ _ _ _ _ _ (by omega) (by omega) (by omega) e39 e41
    · skip
      have c4 := mt (fa_le _ _).mpr c4
      exfalso; omega
set_option maxHeartbeats 8000000 in
set_option maxRecDepth 200000 in
theorem t_X9_down {post : Int32 → Int32 → Int32 → Int32 → Int32 → Int32 → (Nat → Int32) → Prop} {tr_fork : Nat → Int32} {no_apron : Int32} {no_basket : Int32} {no_ground : Int32} {no_bruised : Int32} {no_ladder : Int32} {no_helper : Int32} {no_today : Int32} {no_clock : Int32} {pa_undoable : Int32} {pa_free : Int32} {pa_cells : Nat → Int32} (h_no_ladder : -1 ≤ Int32.toInt no_ladder ∧ Int32.toInt no_ladder ≤ 7) (h_no_today : 0 ≤ Int32.toInt no_today ∧ Int32.toInt no_today ≤ 9) (h_pa_undoable : 0 ≤ Int32.toInt pa_undoable ∧ Int32.toInt pa_undoable ≤ 12) (h_pa_free : 0 ≤ Int32.toInt pa_free ∧ Int32.toInt pa_free ≤ 12) (e0_pa_cells : ∀ k : Nat, k % 8 = 4 → -1 ≤ Int32.toInt (pa_cells k) ∧ Int32.toInt (pa_cells k) ≤ 7) (e1_pa_cells : ∀ k : Nat, k % 8 = 6 → 0 ≤ Int32.toInt (pa_cells k) ∧ Int32.toInt (pa_cells k) ≤ 9) (hpost : ∀ (r : Int32) (no_apron' : Int32) (no_basket' : Int32) (no_clock' : Int32) (pa_undoable' : Int32) (pa_free' : Int32) (pa_cells' : Nat → Int32), (-2 ≤ Int32.toInt r ∧ Int32.toInt r ≤ 63) → (0 ≤ Int32.toInt pa_undoable' ∧ Int32.toInt pa_undoable' ≤ 12) → (0 ≤ Int32.toInt pa_free' ∧ Int32.toInt pa_free' ≤ 12) → (∀ k : Nat, k % 8 = 4 → -1 ≤ Int32.toInt (pa_cells' k) ∧ Int32.toInt (pa_cells' k) ≤ 7) → (∀ k : Nat, k % 8 = 6 → 0 ≤ Int32.toInt (pa_cells' k) ∧ Int32.toInt (pa_cells' k) ≤ 9) → post r no_apron' no_basket' no_clock' pa_undoable' pa_free' pa_cells') : wp_X9_down post tr_fork no_apron no_basket no_ground no_bruised no_ladder no_helper no_today no_clock pa_undoable pa_free pa_cells := by
  have l0 : Int32.toInt ((-1) : Int32) = -1 := (by decide)
  have l1 : Int32.toInt ((-2) : Int32) = -2 := (by decide)
  have l2 : Int32.toInt (0 : Int32) = 0 := (by decide)
  have l3 : Int32.toInt (1 : Int32) = 1 := (by decide)
  have l4 : Int32.toInt (104 : Int32) = 104 := (by decide)
  have l5 : Int32.toInt (12 : Int32) = 12 := (by decide)
  have l6 : Int32.toInt (13 : Int32) = 13 := (by decide)
  have l7 : Int32.toInt (2 : Int32) = 2 := (by decide)
  have l8 : Int32.toInt (252645135 : Int32) = 252645135 := (by decide)
  have l9 : Int32.toInt (3 : Int32) = 3 := (by decide)
  have l10 : Int32.toInt (4 : Int32) = 4 := (by decide)
  have l11 : Int32.toInt (5 : Int32) = 5 := (by decide)
  have l12 : Int32.toInt (6 : Int32) = 6 := (by decide)
  have l13 : Int32.toInt (63 : Int32) = 63 := (by decide)
  have l14 : Int32.toInt (7 : Int32) = 7 := (by decide)
  have l15 : Int32.toInt (8 : Int32) = 8 := (by decide)
  have l16 : Int32.toInt (858993459 : Int32) = 858993459 := (by decide)
  have l17 : Int32.toInt (9999 : Int32) = 9999 := (by decide)
  intro v1 ev1
  have f2 : Int32.toInt (pa_free * 8) = Int32.toInt pa_free * 8 := ta_mulc _ _ (by decide) (by omega)
  rw [← ev1] at f2
  refine And.intro (fun c3 => ?_) (fun c3 => ?_)
  · skip
    have c3 := (fa_lt _ _).mp c3
    exfalso; omega
  · skip
    have c3 := mt (fa_lt _ _).mpr c3
    have f5 : Int32.toInt (104 - 8) = Int32.toInt (104 : Int32) - Int32.toInt (8 : Int32) := ta_sub _ _ (by omega)
    refine And.intro (fun c4 => ?_) (fun c4 => ?_)
    · skip
      have c4 := (fa_le _ _).mp c4
      refine And.intro (t_in (by omega)) ?_
      have f7 := tp_r no_apron
      have e6 : ∀ k : Nat, k % 8 = 4 → -1 ≤ Int32.toInt ((upd pa_cells v1.toNatClampNeg no_apron) k) ∧ Int32.toInt ((upd pa_cells v1.toNatClampNeg no_apron) k) ≤ 7 := t_updc (C := fun k => k % 8 = 4) e0_pa_cells (fun hk => by have e9 : v1.toNatClampNeg = (Int32.toInt v1).toNat := rfl; have hk : v1.toNatClampNeg % 8 = 4 := hk; omega)
      have e8 : ∀ k : Nat, k % 8 = 6 → 0 ≤ Int32.toInt ((upd pa_cells v1.toNatClampNeg no_apron) k) ∧ Int32.toInt ((upd pa_cells v1.toNatClampNeg no_apron) k) ≤ 9 := t_updc (C := fun k => k % 8 = 6) e1_pa_cells (fun hk => by have e9 : v1.toNatClampNeg = (Int32.toInt v1).toNat := rfl; have hk : v1.toNatClampNeg % 8 = 6 := hk; omega)
      intro v9 ev9
      have f10 : Int32.toInt (v1 + 1) = Int32.toInt v1 + Int32.toInt (1 : Int32) := ta_add _ _ (by omega)
      rw [← ev9] at f10
      refine And.intro (t_in (by omega)) ?_
      have f12 := tp_r no_basket
      have e11 : ∀ k : Nat, k % 8 = 4 → -1 ≤ Int32.toInt ((upd (upd pa_cells v1.toNatClampNeg no_apron) v9.toNatClampNeg no_basket) k) ∧ Int32.toInt ((upd (upd pa_cells v1.toNatClampNeg no_apron) v9.toNatClampNeg no_basket) k) ≤ 7 := t_updc (C := fun k => k % 8 = 4) e6 (fun hk => by have e9 : v9.toNatClampNeg = (Int32.toInt v9).toNat := rfl; have hk : v9.toNatClampNeg % 8 = 4 := hk; omega)
      have e13 : ∀ k : Nat, k % 8 = 6 → 0 ≤ Int32.toInt ((upd (upd pa_cells v1.toNatClampNeg no_apron) v9.toNatClampNeg no_basket) k) ∧ Int32.toInt ((upd (upd pa_cells v1.toNatClampNeg no_apron) v9.toNatClampNeg no_basket) k) ≤ 9 := t_updc (C := fun k => k % 8 = 6) e8 (fun hk => by have e9 : v9.toNatClampNeg = (Int32.toInt v9).toNat := rfl; have hk : v9.toNatClampNeg % 8 = 6 := hk; omega)
      intro v14 ev14
      have f15 : Int32.toInt (v1 + 2) = Int32.toInt v1 + Int32.toInt (2 : Int32) := ta_add _ _ (by omega)
      rw [← ev14] at f15
      refine And.intro (t_in (by omega)) ?_
      have f17 := tp_r no_ground
      have e16 : ∀ k : Nat, k % 8 = 4 → -1 ≤ Int32.toInt ((upd (upd (upd pa_cells v1.toNatClampNeg no_apron) v9.toNatClampNeg no_basket) v14.toNatClampNeg no_ground) k) ∧ Int32.toInt ((upd (upd (upd pa_cells v1.toNatClampNeg no_apron) v9.toNatClampNeg no_basket) v14.toNatClampNeg no_ground) k) ≤ 7 := t_updc (C := fun k => k % 8 = 4) e11 (fun hk => by have e9 : v14.toNatClampNeg = (Int32.toInt v14).toNat := rfl; have hk : v14.toNatClampNeg % 8 = 4 := hk; omega)
      have e18 : ∀ k : Nat, k % 8 = 6 → 0 ≤ Int32.toInt ((upd (upd (upd pa_cells v1.toNatClampNeg no_apron) v9.toNatClampNeg no_basket) v14.toNatClampNeg no_ground) k) ∧ Int32.toInt ((upd (upd (upd pa_cells v1.toNatClampNeg no_apron) v9.toNatClampNeg no_basket) v14.toNatClampNeg no_ground) k) ≤ 9 := t_updc (C := fun k => k % 8 = 6) e13 (fun hk => by have e9 : v14.toNatClampNeg = (Int32.toInt v14).toNat := rfl; have hk : v14.toNatClampNeg % 8 = 6 := hk; omega)
      intro v19 ev19
      have f20 : Int32.toInt (v1 + 3) = Int32.toInt v1 + Int32.toInt (3 : Int32) := ta_add _ _ (by omega)
      rw [← ev19] at f20
      refine And.intro (t_in (by omega)) ?_
      have f22 := tp_r no_bruised
      have e21 : ∀ k : Nat, k % 8 = 4 → -1 ≤ Int32.toInt ((upd (upd (upd (upd pa_cells v1.toNatClampNeg no_apron) v9.toNatClampNeg no_basket) v14.toNatClampNeg no_ground) v19.toNatClampNeg no_bruised) k) ∧ Int32.toInt ((upd (upd (upd (upd pa_cells v1.toNatClampNeg no_apron) v9.toNatClampNeg no_basket) v14.toNatClampNeg no_ground) v19.toNatClampNeg no_bruised) k) ≤ 7 := t_updc (C := fun k => k % 8 = 4) e16 (fun hk => by have e9 : v19.toNatClampNeg = (Int32.toInt v19).toNat := rfl; have hk : v19.toNatClampNeg % 8 = 4 := hk; omega)
      have e23 : ∀ k : Nat, k % 8 = 6 → 0 ≤ Int32.toInt ((upd (upd (upd (upd pa_cells v1.toNatClampNeg no_apron) v9.toNatClampNeg no_basket) v14.toNatClampNeg no_ground) v19.toNatClampNeg no_bruised) k) ∧ Int32.toInt ((upd (upd (upd (upd pa_cells v1.toNatClampNeg no_apron) v9.toNatClampNeg no_basket) v14.toNatClampNeg no_ground) v19.toNatClampNeg no_bruised) k) ≤ 9 := t_updc (C := fun k => k % 8 = 6) e18 (fun hk => by have e9 : v19.toNatClampNeg = (Int32.toInt v19).toNat := rfl; have hk : v19.toNatClampNeg % 8 = 6 := hk; omega)
      intro v24 ev24
      have f25 : Int32.toInt (v1 + 4) = Int32.toInt v1 + Int32.toInt (4 : Int32) := ta_add _ _ (by omega)
      rw [← ev24] at f25
      refine And.intro (t_in (by omega)) ?_
      have e26 : ∀ k : Nat, k % 8 = 4 → -1 ≤ Int32.toInt ((upd (upd (upd (upd (upd pa_cells v1.toNatClampNeg no_apron) v9.toNatClampNeg no_basket) v14.toNatClampNeg no_ground) v19.toNatClampNeg no_bruised) v24.toNatClampNeg no_ladder) k) ∧ Int32.toInt ((upd (upd (upd (upd (upd pa_cells v1.toNatClampNeg no_apron) v9.toNatClampNeg no_basket) v14.toNatClampNeg no_ground) v19.toNatClampNeg no_bruised) v24.toNatClampNeg no_ladder) k) ≤ 7 := t_updc (C := fun k => k % 8 = 4) e21 (fun hk => by have e9 : v24.toNatClampNeg = (Int32.toInt v24).toNat := rfl; have hk : v24.toNatClampNeg % 8 = 4 := hk; omega)
      have e27 : ∀ k : Nat, k % 8 = 6 → 0 ≤ Int32.toInt ((upd (upd (upd (upd (upd pa_cells v1.toNatClampNeg no_apron) v9.toNatClampNeg no_basket) v14.toNatClampNeg no_ground) v19.toNatClampNeg no_bruised) v24.toNatClampNeg no_ladder) k) ∧ Int32.toInt ((upd (upd (upd (upd (upd pa_cells v1.toNatClampNeg no_apron) v9.toNatClampNeg no_basket) v14.toNatClampNeg no_ground) v19.toNatClampNeg no_bruised) v24.toNatClampNeg no_ladder) k) ≤ 9 := t_updc (C := fun k => k % 8 = 6) e23 (fun hk => by have e9 : v24.toNatClampNeg = (Int32.toInt v24).toNat := rfl; have hk : v24.toNatClampNeg % 8 = 6 := hk; omega)
      intro v28 ev28
      have f29 : Int32.toInt (v1 + 5) = Int32.toInt v1 + Int32.toInt (5 : Int32) := ta_add _ _ (by omega)
      rw [← ev28] at f29
      refine And.intro (t_in (by omega)) ?_
      have f31 := tp_r no_helper
      have e30 : ∀ k : Nat, k % 8 = 4 → -1 ≤ Int32.toInt ((upd (upd (upd (upd (upd (upd pa_cells v1.toNatClampNeg no_apron) v9.toNatClampNeg no_basket) v14.toNatClampNeg no_ground) v19.toNatClampNeg no_bruised) v24.toNatClampNeg no_ladder) v28.toNatClampNeg no_helper) k) ∧ Int32.toInt ((upd (upd (upd (upd (upd (upd pa_cells v1.toNatClampNeg no_apron) v9.toNatClampNeg no_basket) v14.toNatClampNeg no_ground) v19.toNatClampNeg no_bruised) v24.toNatClampNeg no_ladder) v28.toNatClampNeg no_helper) k) ≤ 7 := t_updc (C := fun k => k % 8 = 4) e26 (fun hk => by have e9 : v28.toNatClampNeg = (Int32.toInt v28).toNat := rfl; have hk : v28.toNatClampNeg % 8 = 4 := hk; omega)
      have e32 : ∀ k : Nat, k % 8 = 6 → 0 ≤ Int32.toInt ((upd (upd (upd (upd (upd (upd pa_cells v1.toNatClampNeg no_apron) v9.toNatClampNeg no_basket) v14.toNatClampNeg no_ground) v19.toNatClampNeg no_bruised) v24.toNatClampNeg no_ladder) v28.toNatClampNeg no_helper) k) ∧ Int32.toInt ((upd (upd (upd (upd (upd (upd pa_cells v1.toNatClampNeg no_apron) v9.toNatClampNeg no_basket) v14.toNatClampNeg no_ground) v19.toNatClampNeg no_bruised) v24.toNatClampNeg no_ladder) v28.toNatClampNeg no_helper) k) ≤ 9 := t_updc (C := fun k => k % 8 = 6) e27 (fun hk => by have e9 : v28.toNatClampNeg = (Int32.toInt v28).toNat := rfl; have hk : v28.toNatClampNeg % 8 = 6 := hk; omega)
      intro v33 ev33
      have f34 : Int32.toInt (v1 + 6) = Int32.toInt v1 + Int32.toInt (6 : Int32) := ta_add _ _ (by omega)
      rw [← ev33] at f34
      refine And.intro (t_in (by omega)) ?_
      have e35 : ∀ k : Nat, k % 8 = 4 → -1 ≤ Int32.toInt ((upd (upd (upd (upd (upd (upd (upd pa_cells v1.toNatClampNeg no_apron) v9.toNatClampNeg no_basket) v14.toNatClampNeg no_ground) v19.toNatClampNeg no_bruised) v24.toNatClampNeg no_ladder) v28.toNatClampNeg no_helper) v33.toNatClampNeg no_today) k) ∧ Int32.toInt ((upd (upd (upd (upd (upd (upd (upd pa_cells v1.toNatClampNeg no_apron) v9.toNatClampNeg no_basket) v14.toNatClampNeg no_ground) v19.toNatClampNeg no_bruised) v24.toNatClampNeg no_ladder) v28.toNatClampNeg no_helper) v33.toNatClampNeg no_today) k) ≤ 7 := t_updc (C := fun k => k % 8 = 4) e30 (fun hk => by have e9 : v33.toNatClampNeg = (Int32.toInt v33).toNat := rfl; have hk : v33.toNatClampNeg % 8 = 4 := hk; omega)
      have e36 : ∀ k : Nat, k % 8 = 6 → 0 ≤ Int32.toInt ((upd (upd (upd (upd (upd (upd (upd pa_cells v1.toNatClampNeg no_apron) v9.toNatClampNeg no_basket) v14.toNatClampNeg no_ground) v19.toNatClampNeg no_bruised) v24.toNatClampNeg no_ladder) v28.toNatClampNeg no_helper) v33.toNatClampNeg no_today) k) ∧ Int32.toInt ((upd (upd (upd (upd (upd (upd (upd pa_cells v1.toNatClampNeg no_apron) v9.toNatClampNeg no_basket) v14.toNatClampNeg no_ground) v19.toNatClampNeg no_bruised) v24.toNatClampNeg no_ladder) v28.toNatClampNeg no_helper) v33.toNatClampNeg no_today) k) ≤ 9 := t_updc (C := fun k => k % 8 = 6) e32 (fun hk => by have e9 : v33.toNatClampNeg = (Int32.toInt v33).toNat := rfl; have hk : v33.toNatClampNeg % 8 = 6 := hk; omega)
      intro v37 ev37
      have f38 : Int32.toInt (v1 + 7) = Int32.toInt v1 + Int32.toInt (7 : Int32) := ta_add _ _ (by omega)
      rw [← ev37] at f38
      refine And.intro (t_in (by omega)) ?_
      have f40 := tp_r no_clock
      have e39 : ∀ k : Nat, k % 8 = 4 → -1 ≤ Int32.toInt ((upd (upd (upd (upd (upd (upd (upd (upd pa_cells v1.toNatClampNeg no_apron) v9.toNatClampNeg no_basket) v14.toNatClampNeg no_ground) v19.toNatClampNeg no_bruised) v24.toNatClampNeg no_ladder) v28.toNatClampNeg no_helper) v33.toNatClampNeg no_today) v37.toNatClampNeg no_clock) k) ∧ Int32.toInt ((upd (upd (upd (upd (upd (upd (upd (upd pa_cells v1.toNatClampNeg no_apron) v9.toNatClampNeg no_basket) v14.toNatClampNeg no_ground) v19.toNatClampNeg no_bruised) v24.toNatClampNeg no_ladder) v28.toNatClampNeg no_helper) v33.toNatClampNeg no_today) v37.toNatClampNeg no_clock) k) ≤ 7 := t_updc (C := fun k => k % 8 = 4) e35 (fun hk => by have e9 : v37.toNatClampNeg = (Int32.toInt v37).toNat := rfl; have hk : v37.toNatClampNeg % 8 = 4 := hk; omega)
      have e41 : ∀ k : Nat, k % 8 = 6 → 0 ≤ Int32.toInt ((upd (upd (upd (upd (upd (upd (upd (upd pa_cells v1.toNatClampNeg no_apron) v9.toNatClampNeg no_basket) v14.toNatClampNeg no_ground) v19.toNatClampNeg no_bruised) v24.toNatClampNeg no_ladder) v28.toNatClampNeg no_helper) v33.toNatClampNeg no_today) v37.toNatClampNeg no_clock) k) ∧ Int32.toInt ((upd (upd (upd (upd (upd (upd (upd (upd pa_cells v1.toNatClampNeg no_apron) v9.toNatClampNeg no_basket) v14.toNatClampNeg no_ground) v19.toNatClampNeg no_bruised) v24.toNatClampNeg no_ladder) v28.toNatClampNeg no_helper) v33.toNatClampNeg no_today) v37.toNatClampNeg no_clock) k) ≤ 9 := t_updc (C := fun k => k % 8 = 6) e36 (fun hk => by have e9 : v37.toNatClampNeg = (Int32.toInt v37).toNat := rfl; have hk : v37.toNatClampNeg % 8 = 6 := hk; omega)
      refine And.intro (fun c42 => ?_) (fun c42 => ?_)
      · skip
        have c42 := (fa_eq _ _).mp c42
        refine And.intro (fun _ => ?_) (fun h9 => absurd h9 (by decide))
        exact hpost _ _ _ _ _ _ _ (by omega) (by omega) (by omega) e39 e41
      · skip
        have c42 := mt (fa_eq _ _).mpr c42
        refine And.intro (fun c43 => ?_) (fun c43 => ?_)
        · skip
          have c43 := mt (fa_eq _ _).mpr c43
          intro v44 ev44
          intro v45 ev45
          have hv45 := congrArg Int32.toInt ev45
          intro v47 ev47
          have f48 := ti_andr v45 858993459 (by omega)
          have hv47 := congrArg Int32.toInt ev47
          intro v49 ev49
          intro v50 ev50
          have f52 := ti_andr v49 858993459 (by omega)
          have f51 : Int32.toInt (v47 + (v49 &&& 858993459)) = Int32.toInt v47 + Int32.toInt (v49 &&& 858993459) := ta_add _ _ (by omega)
          rw [← ev50] at f51
          intro v53 ev53
          have hv53 := congrArg Int32.toInt ev53
          intro v55 ev55
          have f56 := ti_andr v53 252645135 (by omega)
          have hv55 := congrArg Int32.toInt ev55
          intro v57 ev57
          have hv57 := congrArg Int32.toInt ev57
          intro v59 ev59
          have hv59 := congrArg Int32.toInt ev59
          intro v61 ev61
          refine And.intro (t_in (by omega)) ?_
          intro v62 ev62
          have hv62 := congrArg Int32.toInt ev62
          intro v64 ev64
          have hv64 := congrArg Int32.toInt ev64
          intro v66 ev66
          have hv66 := congrArg Int32.toInt ev66
          intro v68 ev68
          have f69 := tp_r (if v66 < 9999 then v66 else 9999)
          have f71 := tp_r v66
          have f70 := ti_min (9999 : Int32) v66
          have hv68 := congrArg Int32.toInt ev68
          have f73 := ti_andr v59 63 (by omega)
          refine And.intro (fun c72 => ?_) (fun c72 => ?_)
          · skip
            have c72 := (fa_lt _ _).mp c72
            exfalso; omega
          · skip
            have c72 := mt (fa_lt _ _).mpr c72
            intro v74 ev74
            have f75 : Int32.toInt (pa_free + 1) = Int32.toInt pa_free + Int32.toInt (1 : Int32) := ta_add _ _ (by omega)
            rw [← ev74] at f75
            intro v76 ev76
            have f77 : Int32.toInt (v74 - v74 / 13 * 13) = Int32.toInt v74 % 13 := ti_rem _ _ (by decide) (by omega) (by decide)
            rw [← ev76] at f77
            intro v78 ev78
            have f79 : Int32.toInt (pa_undoable + 1) = Int32.toInt pa_undoable + Int32.toInt (1 : Int32) := ta_add _ _ (by omega)
            rw [← ev78] at f79
            intro v80 ev80
            have f81 := ti_min (12 : Int32) v78
            have hv80 := congrArg Int32.toInt ev80
            exact hpost _ _ _ _ _ _ _ (by omega) (by omega) (by omega) e39 e41
        · skip
          have c43 := (fa_eq _ _).mp c43
          refine And.intro (fun _ => ?_) (fun h9 => absurd h9 (by decide))
          exact hpost _ _ _ _ _ _ _ (by omega) (by omega) (by omega) e39 e41
    · skip
      have c4 := mt (fa_le _ _).mpr c4
      exfalso; omega
set_option maxHeartbeats 8000000 in
set_option maxRecDepth 200000 in
theorem ts_X3_within_32 {post : Int32 → Prop} {K5 : Int32 → Int32 → Int32 → Int32 → Prop} {n5 : Int} (tr_fruits : Int32) (tr_x : Nat → Int32) (tr_height : Nat → Int32) (tr_foot : Nat → Int32) (tr_fork : Nat → Int32) (h_tr_fruits : 0 ≤ Int32.toInt tr_fruits ∧ Int32.toInt tr_fruits ≤ 16) (hpost : ∀ (r : Int32) , (0 ≤ Int32.toInt r ∧ Int32.toInt r ≤ 65535) → post r) (hK5 : ∀ (x1 : Int32) (x2 : Int32) (x3 : Int32) (x4 : Int32), (0 ≤ Int32.toInt x1 ∧ Int32.toInt x1 ≤ 7) → (0 ≤ Int32.toInt x3 ∧ Int32.toInt x3 ≤ 65535) → (0 ≤ Int32.toInt x4 ∧ Int32.toInt x4 ≤ 16) → (16 - Int32.toInt x4 < n5) → K5 x1 x2 x3 x4) (x1 : Int32) (x2 : Int32) (x3 : Int32) (x4 : Int32) (h_x1 : 0 ≤ Int32.toInt x1 ∧ Int32.toInt x1 ≤ 7) (h_x3 : 0 ≤ Int32.toInt x3 ∧ Int32.toInt x3 ≤ 65535) (h_x4 : 0 ≤ Int32.toInt x4 ∧ Int32.toInt x4 ≤ 15) (hn5 : 16 - Int32.toInt x4 ≤ n5) : ws_X3_within_32 post K5 tr_fruits tr_x tr_height tr_foot tr_fork x1 x2 x3 x4 := by
  have l0 : Int32.toInt (1 : Int32) = 1 := (by decide)
  intro v1 ev1
  have f2 : Int32.toInt (x4 + 1) = Int32.toInt x4 + Int32.toInt (1 : Int32) := ta_add _ _ (by omega)
  rw [← ev1] at f2
  have f3 := tp_r x2
  exact hK5 x1 x2 x3 v1 (by omega) (by omega) (by omega) (by omega)
set_option maxHeartbeats 8000000 in
set_option maxRecDepth 200000 in
theorem ts_X3_within_5 {post : Int32 → Prop} {next : Int32 → Int32 → Int32 → Int32 → Prop} {n5 : Int} (tr_fruits : Int32) (tr_x : Nat → Int32) (tr_height : Nat → Int32) (tr_foot : Nat → Int32) (tr_fork : Nat → Int32) (h_tr_fruits : 0 ≤ Int32.toInt tr_fruits ∧ Int32.toInt tr_fruits ≤ 16) (hpost : ∀ (r : Int32) , (0 ≤ Int32.toInt r ∧ Int32.toInt r ≤ 65535) → post r) (hKn : ∀ (x1 : Int32) (x2 : Int32) (x3 : Int32) (x4 : Int32), (0 ≤ Int32.toInt x1 ∧ Int32.toInt x1 ≤ 7) → (0 ≤ Int32.toInt x3 ∧ Int32.toInt x3 ≤ 65535) → (0 ≤ Int32.toInt x4 ∧ Int32.toInt x4 ≤ 16) → (16 - Int32.toInt x4 < n5) → next x1 x2 x3 x4) (x1 : Int32) (x2 : Int32) (x3 : Int32) (x4 : Int32) (h_x1 : 0 ≤ Int32.toInt x1 ∧ Int32.toInt x1 ≤ 7) (h_x3 : 0 ≤ Int32.toInt x3 ∧ Int32.toInt x3 ≤ 65535) (h_x4 : 0 ≤ Int32.toInt x4 ∧ Int32.toInt x4 ≤ 16) (hn5 : 16 - Int32.toInt x4 ≤ n5) : ws_X3_within_5 post next tr_fruits tr_x tr_height tr_foot tr_fork x1 x2 x3 x4 := by
  have l0 : Int32.toInt (0 : Int32) = 0 := (by decide)
  refine And.intro (fun c4 => ?_) (fun c4 => ?_)
  · skip
    have c4 := (fa_le _ _).mp c4
    exact hpost _ (by omega)
  · skip
    have c4 := mt (fa_le _ _).mpr c4
    refine And.intro (t_in (by omega)) ?_
    intro v5 ev5
    have hv5 := congrArg Int32.toInt ev5
    refine And.intro (t_in (by omega)) ?_
    have f8 := tp_r v5
    refine And.intro (fun c7 => ?_) (fun c7 => ?_)
    · skip
      have c7 := (fa_le _ _).mp c7
      refine And.intro (t_in (by omega)) ?_
      intro v10 ev10
      have hv10 := congrArg Int32.toInt ev10
      refine And.intro (t_in (by omega)) ?_
      refine And.intro (t_in (by omega)) ?_
      intro v11 ev11
      have hv11 := congrArg Int32.toInt ev11
      refine And.intro (t_in (by omega)) ?_
      have f14 := tp_r v11
      refine And.intro (fun c13 => ?_) (fun c13 => ?_)
      · skip
        have c13 := (fa_le _ _).mp c13
        intro v16 ev16
        have hv16 := congrArg Int32.toInt ev16
        intro v18 ev18
        have f20 := tp_r v16
        have f21 : Int32.toInt (0 * 0) = Int32.toInt (0 : Int32) * 0 := ta_mulc _ _ (by decide) (by omega)
        have f19 : Int32.toInt (v16 + (0 * 0)) = Int32.toInt v16 + Int32.toInt (0 * 0) := ta_add _ _ (by omega)
        rw [← ev18] at f19
        have f23 := tp_r v18
        refine And.intro (fun c22 => ?_) (fun c22 => ?_)
        · skip
          have c22 := (fa_lt _ _).mp c22
          refine And.intro (fun _ => ?_) (fun h9 => absurd h9 (by decide))
          have f25 := tp_r x2
          exact ts_X3_within_32 tr_fruits tr_x tr_height tr_foot tr_fork h_tr_fruits hpost hKn x1 x2 x3 x4 (by omega) (by omega) (by omega) (by omega)
        · skip
          have c22 := mt (fa_lt _ _).mpr c22
          refine And.intro (fun h9 => absurd h9 (by decide)) (fun _ => ?_)
          intro v26 ev26
          have f28 := ti_shl1 15 32768 x4 (by decide) (by omega)
          have f27 := ti_or 16 65536 x3 (1 <<< (x4 &&& 31)) (by decide) (by omega) (by omega)
          have hv26 := congrArg Int32.toInt ev26
          have f29 := tp_r x2
          exact ts_X3_within_32 tr_fruits tr_x tr_height tr_foot tr_fork h_tr_fruits hpost hKn x1 x2 v26 x4 (by omega) (by omega) (by omega) (by omega)
      · skip
        have c13 := mt (fa_le _ _).mpr c13
        refine And.intro (t_in (by omega)) ?_
        intro v30 ev30
        have hv30 := congrArg Int32.toInt ev30
        refine And.intro (t_in (by omega)) ?_
        intro v31 ev31
        have hv31 := congrArg Int32.toInt ev31
        intro v33 ev33
        have hv33 := congrArg Int32.toInt ev33
        intro v35 ev35
        have hv35 := congrArg Int32.toInt ev35
        have f38 := tp_r v35
        refine And.intro (fun c37 => ?_) (fun c37 => ?_)
        · skip
          have c37 := (fa_lt _ _).mp c37
          refine And.intro (fun _ => ?_) (fun h9 => absurd h9 (by decide))
          have f40 := tp_r x2
          exact ts_X3_within_32 tr_fruits tr_x tr_height tr_foot tr_fork h_tr_fruits hpost hKn x1 x2 x3 x4 (by omega) (by omega) (by omega) (by omega)
        · skip
          have c37 := mt (fa_lt _ _).mpr c37
          refine And.intro (fun h9 => absurd h9 (by decide)) (fun _ => ?_)
          intro v41 ev41
          have f43 := ti_shl1 15 32768 x4 (by decide) (by omega)
          have f42 := ti_or 16 65536 x3 (1 <<< (x4 &&& 31)) (by decide) (by omega) (by omega)
          have hv41 := congrArg Int32.toInt ev41
          have f44 := tp_r x2
          exact ts_X3_within_32 tr_fruits tr_x tr_height tr_foot tr_fork h_tr_fruits hpost hKn x1 x2 v41 x4 (by omega) (by omega) (by omega) (by omega)
    · skip
      have c7 := mt (fa_le _ _).mpr c7
      refine And.intro (t_in (by omega)) ?_
      intro v45 ev45
      have hv45 := congrArg Int32.toInt ev45
      refine And.intro (t_in (by omega)) ?_
      intro v46 ev46
      have hv46 := congrArg Int32.toInt ev46
      refine And.intro (t_in (by omega)) ?_
      intro v48 ev48
      have hv48 := congrArg Int32.toInt ev48
      refine And.intro (t_in (by omega)) ?_
      have f51 := tp_r v48
      refine And.intro (fun c50 => ?_) (fun c50 => ?_)
      · skip
        have c50 := (fa_le _ _).mp c50
        intro v53 ev53
        have hv53 := congrArg Int32.toInt ev53
        intro v55 ev55
        have f57 := tp_r v53
        have f58 : Int32.toInt (0 * 0) = Int32.toInt (0 : Int32) * 0 := ta_mulc _ _ (by decide) (by omega)
        have f56 : Int32.toInt (v53 + (0 * 0)) = Int32.toInt v53 + Int32.toInt (0 * 0) := ta_add _ _ (by omega)
        rw [← ev55] at f56
        have f60 := tp_r v55
        refine And.intro (fun c59 => ?_) (fun c59 => ?_)
        · skip
          have c59 := (fa_lt _ _).mp c59
          refine And.intro (fun _ => ?_) (fun h9 => absurd h9 (by decide))
          have f62 := tp_r x2
          exact ts_X3_within_32 tr_fruits tr_x tr_height tr_foot tr_fork h_tr_fruits hpost hKn x1 x2 x3 x4 (by omega) (by omega) (by omega) (by omega)
        · skip
          have c59 := mt (fa_lt _ _).mpr c59
          refine And.intro (fun h9 => absurd h9 (by decide)) (fun _ => ?_)
          intro v63 ev63
          have f65 := ti_shl1 15 32768 x4 (by decide) (by omega)
          have f64 := ti_or 16 65536 x3 (1 <<< (x4 &&& 31)) (by decide) (by omega) (by omega)
          have hv63 := congrArg Int32.toInt ev63
          have f66 := tp_r x2
          exact ts_X3_within_32 tr_fruits tr_x tr_height tr_foot tr_fork h_tr_fruits hpost hKn x1 x2 v63 x4 (by omega) (by omega) (by omega) (by omega)
      · skip
        have c50 := mt (fa_le _ _).mpr c50
        refine And.intro (t_in (by omega)) ?_
        intro v67 ev67
        have hv67 := congrArg Int32.toInt ev67
        refine And.intro (t_in (by omega)) ?_
        intro v68 ev68
        have hv68 := congrArg Int32.toInt ev68
        intro v70 ev70
        have hv70 := congrArg Int32.toInt ev70
        intro v72 ev72
        have hv72 := congrArg Int32.toInt ev72
        have f75 := tp_r v72
        refine And.intro (fun c74 => ?_) (fun c74 => ?_)
        · skip
          have c74 := (fa_lt _ _).mp c74
          refine And.intro (fun _ => ?_) (fun h9 => absurd h9 (by decide))
          have f77 := tp_r x2
          exact ts_X3_within_32 tr_fruits tr_x tr_height tr_foot tr_fork h_tr_fruits hpost hKn x1 x2 x3 x4 (by omega) (by omega) (by omega) (by omega)
        · skip
          have c74 := mt (fa_lt _ _).mpr c74
          refine And.intro (fun h9 => absurd h9 (by decide)) (fun _ => ?_)
          intro v78 ev78
          have f80 := ti_shl1 15 32768 x4 (by decide) (by omega)
          have f79 := ti_or 16 65536 x3 (1 <<< (x4 &&& 31)) (by decide) (by omega) (by omega)
          have hv78 := congrArg Int32.toInt ev78
          have f81 := tp_r x2
          exact ts_X3_within_32 tr_fruits tr_x tr_height tr_foot tr_fork h_tr_fruits hpost hKn x1 x2 v78 x4 (by omega) (by omega) (by omega) (by omega)
set_option maxHeartbeats 8000000 in
set_option maxRecDepth 200000 in
theorem tb_X3_within_5 {post : Int32 → Prop} (tr_fruits : Int32) (tr_x : Nat → Int32) (tr_height : Nat → Int32) (tr_foot : Nat → Int32) (tr_fork : Nat → Int32) (h_tr_fruits : 0 ≤ Int32.toInt tr_fruits ∧ Int32.toInt tr_fruits ≤ 16) (hpost : ∀ (r : Int32) , (0 ≤ Int32.toInt r ∧ Int32.toInt r ≤ 65535) → post r) : ∀ (n : Nat) (x1 : Int32) (x2 : Int32) (x3 : Int32) (x4 : Int32), (0 ≤ Int32.toInt x1 ∧ Int32.toInt x1 ≤ 7) → (0 ≤ Int32.toInt x3 ∧ Int32.toInt x3 ≤ 65535) → (0 ≤ Int32.toInt x4 ∧ Int32.toInt x4 ≤ 16) → (16 - Int32.toInt x4 < (n : Int)) → wb_X3_within_5 post tr_fruits tr_x tr_height tr_foot tr_fork n x1 x2 x3 x4 := by
  intro n
  induction n with
  | zero =>
    intro x1 x2 x3 x4 h_x1 h_x3 h_x4 hm
    exfalso; omega
  | succ n ih =>
    intro x1 x2 x3 x4 h_x1 h_x3 h_x4 hm
    exact ts_X3_within_5 tr_fruits tr_x tr_height tr_foot tr_fork h_tr_fruits hpost ih x1 x2 x3 x4 h_x1 h_x3 h_x4 (by omega)
set_option maxHeartbeats 8000000 in
set_option maxRecDepth 200000 in
theorem t_X3_within {post : Int32 → Prop} {p0 : Int32} {p1 : Int32} {tr_fruits : Int32} {tr_x : Nat → Int32} {tr_height : Nat → Int32} {tr_foot : Nat → Int32} {tr_fork : Nat → Int32} (h_p0 : 0 ≤ Int32.toInt p0 ∧ Int32.toInt p0 ≤ 7) (h_tr_fruits : 0 ≤ Int32.toInt tr_fruits ∧ Int32.toInt tr_fruits ≤ 16) (hpost : ∀ (r : Int32) , (0 ≤ Int32.toInt r ∧ Int32.toInt r ≤ 65535) → post r) : wp_X3_within post p0 p1 tr_fruits tr_x tr_height tr_foot tr_fork := by
  have l0 : Int32.toInt (0 : Int32) = 0 := (by decide)
  have f82 := tp_r p1
  exact ⟨18, tb_X3_within_5 tr_fruits tr_x tr_height tr_foot tr_fork h_tr_fruits hpost _ p0 p1 0 0 (by omega) (by omega) (by omega) (by omega)⟩
set_option maxHeartbeats 8000000 in
set_option maxRecDepth 200000 in
theorem ts_X3_ripeBy_28 {post : Int32 → Prop} {K4 : Int32 → Int32 → Int32 → Prop} {n4 : Int} (tr_fruits : Int32) (tr_ripe : Nat → Int32) (h_tr_fruits : 0 ≤ Int32.toInt tr_fruits ∧ Int32.toInt tr_fruits ≤ 16) (hpost : ∀ (r : Int32) , (0 ≤ Int32.toInt r ∧ Int32.toInt r ≤ 65535) → post r) (hK4 : ∀ (x1 : Int32) (x2 : Int32) (x3 : Int32), (0 ≤ Int32.toInt x1 ∧ Int32.toInt x1 ≤ 9) → (0 ≤ Int32.toInt x2 ∧ Int32.toInt x2 ≤ 65535) → (0 ≤ Int32.toInt x3 ∧ Int32.toInt x3 ≤ 16) → (16 - Int32.toInt x3 < n4) → K4 x1 x2 x3) (x1 : Int32) (x2 : Int32) (x3 : Int32) (h_x1 : 0 ≤ Int32.toInt x1 ∧ Int32.toInt x1 ≤ 9) (h_x2 : 0 ≤ Int32.toInt x2 ∧ Int32.toInt x2 ≤ 65535) (h_x3 : 0 ≤ Int32.toInt x3 ∧ Int32.toInt x3 ≤ 15) (hn4 : 16 - Int32.toInt x3 ≤ n4) : ws_X3_ripeBy_28 post K4 tr_fruits tr_ripe x1 x2 x3 := by
  have l0 : Int32.toInt (1 : Int32) = 1 := (by decide)
  intro v1 ev1
  have f2 : Int32.toInt (x3 + 1) = Int32.toInt x3 + Int32.toInt (1 : Int32) := ta_add _ _ (by omega)
  rw [← ev1] at f2
  exact hK4 x1 x2 v1 (by omega) (by omega) (by omega) (by omega)
set_option maxHeartbeats 8000000 in
set_option maxRecDepth 200000 in
theorem ts_X3_ripeBy_4 {post : Int32 → Prop} {next : Int32 → Int32 → Int32 → Prop} {n4 : Int} (tr_fruits : Int32) (tr_ripe : Nat → Int32) (h_tr_fruits : 0 ≤ Int32.toInt tr_fruits ∧ Int32.toInt tr_fruits ≤ 16) (hpost : ∀ (r : Int32) , (0 ≤ Int32.toInt r ∧ Int32.toInt r ≤ 65535) → post r) (hKn : ∀ (x1 : Int32) (x2 : Int32) (x3 : Int32), (0 ≤ Int32.toInt x1 ∧ Int32.toInt x1 ≤ 9) → (0 ≤ Int32.toInt x2 ∧ Int32.toInt x2 ≤ 65535) → (0 ≤ Int32.toInt x3 ∧ Int32.toInt x3 ≤ 16) → (16 - Int32.toInt x3 < n4) → next x1 x2 x3) (x1 : Int32) (x2 : Int32) (x3 : Int32) (h_x1 : 0 ≤ Int32.toInt x1 ∧ Int32.toInt x1 ≤ 9) (h_x2 : 0 ≤ Int32.toInt x2 ∧ Int32.toInt x2 ≤ 65535) (h_x3 : 0 ≤ Int32.toInt x3 ∧ Int32.toInt x3 ≤ 16) (hn4 : 16 - Int32.toInt x3 ≤ n4) : ws_X3_ripeBy_4 post next tr_fruits tr_ripe x1 x2 x3 := by
  refine And.intro (fun c3 => ?_) (fun c3 => ?_)
  · skip
    have c3 := (fa_le _ _).mp c3
    exact hpost _ (by omega)
  · skip
    have c3 := mt (fa_le _ _).mpr c3
    refine And.intro (t_in (by omega)) ?_
    intro v4 ev4
    have hv4 := congrArg Int32.toInt ev4
    have f7 := tp_r v4
    refine And.intro (fun c6 => ?_) (fun c6 => ?_)
    · skip
      have c6 := (fa_lt _ _).mp c6
      exact ts_X3_ripeBy_28 tr_fruits tr_ripe h_tr_fruits hpost hKn x1 x2 x3 (by omega) (by omega) (by omega) (by omega)
    · skip
      have c6 := mt (fa_lt _ _).mpr c6
      intro v8 ev8
      have f10 := ti_shl1 15 32768 x3 (by decide) (by omega)
      have f9 := ti_or 16 65536 x2 (1 <<< (x3 &&& 31)) (by decide) (by omega) (by omega)
      have hv8 := congrArg Int32.toInt ev8
      exact ts_X3_ripeBy_28 tr_fruits tr_ripe h_tr_fruits hpost hKn x1 v8 x3 (by omega) (by omega) (by omega) (by omega)
set_option maxHeartbeats 8000000 in
set_option maxRecDepth 200000 in
theorem tb_X3_ripeBy_4 {post : Int32 → Prop} (tr_fruits : Int32) (tr_ripe : Nat → Int32) (h_tr_fruits : 0 ≤ Int32.toInt tr_fruits ∧ Int32.toInt tr_fruits ≤ 16) (hpost : ∀ (r : Int32) , (0 ≤ Int32.toInt r ∧ Int32.toInt r ≤ 65535) → post r) : ∀ (n : Nat) (x1 : Int32) (x2 : Int32) (x3 : Int32), (0 ≤ Int32.toInt x1 ∧ Int32.toInt x1 ≤ 9) → (0 ≤ Int32.toInt x2 ∧ Int32.toInt x2 ≤ 65535) → (0 ≤ Int32.toInt x3 ∧ Int32.toInt x3 ≤ 16) → (16 - Int32.toInt x3 < (n : Int)) → wb_X3_ripeBy_4 post tr_fruits tr_ripe n x1 x2 x3 := by
  intro n
  induction n with
  | zero =>
    intro x1 x2 x3 h_x1 h_x2 h_x3 hm
    exfalso; omega
  | succ n ih =>
    intro x1 x2 x3 h_x1 h_x2 h_x3 hm
    exact ts_X3_ripeBy_4 tr_fruits tr_ripe h_tr_fruits hpost ih x1 x2 x3 h_x1 h_x2 h_x3 (by omega)
set_option maxHeartbeats 8000000 in
set_option maxRecDepth 200000 in
theorem t_X3_ripeBy {post : Int32 → Prop} {p0 : Int32} {tr_fruits : Int32} {tr_ripe : Nat → Int32} (h_p0 : 0 ≤ Int32.toInt p0 ∧ Int32.toInt p0 ≤ 9) (h_tr_fruits : 0 ≤ Int32.toInt tr_fruits ∧ Int32.toInt tr_fruits ≤ 16) (hpost : ∀ (r : Int32) , (0 ≤ Int32.toInt r ∧ Int32.toInt r ≤ 65535) → post r) : wp_X3_ripeBy post p0 tr_fruits tr_ripe := by
  have l0 : Int32.toInt (0 : Int32) = 0 := (by decide)
  exact ⟨18, tb_X3_ripeBy_4 tr_fruits tr_ripe h_tr_fruits hpost _ p0 0 0 (by omega) (by omega) (by omega) (by omega)⟩
set_option maxHeartbeats 8000000 in
set_option maxRecDepth 200000 in
theorem ts_X0_shakeTree_63 {post : Int32 → Int32 → Int32 → Int32 → Prop} {K29 : Int32 → Int32 → Int32 → Int32 → Int32 → Int32 → Int32 → Prop} {n29 : Int} (tr_fruits : Int32) (tr_x : Nat → Int32) (tr_height : Nat → Int32) (tr_ripe : Nat → Int32) (tr_foot : Nat → Int32) (tr_fork : Nat → Int32) (tr_settings : Nat → Int32) (no_apron : Int32) (no_basket : Int32) (no_ladder : Int32) (no_helper : Int32) (no_today : Int32) (h_tr_fruits : 0 ≤ Int32.toInt tr_fruits ∧ Int32.toInt tr_fruits ≤ 16) (h_no_ladder : -1 ≤ Int32.toInt no_ladder ∧ Int32.toInt no_ladder ≤ 7) (h_no_today : 0 ≤ Int32.toInt no_today ∧ Int32.toInt no_today ≤ 9) (hpost : ∀ (r : Int32) (no_ground' : Int32) (no_bruised' : Int32) (no_clock' : Int32), (-2 ≤ Int32.toInt r ∧ Int32.toInt r ≤ 63) → post r no_ground' no_bruised' no_clock') (hK29 : ∀ (x1 : Int32) (x2 : Int32) (x3 : Int32) (x4 : Int32) (no_ground : Int32) (no_bruised : Int32) (no_clock : Int32), (0 ≤ Int32.toInt x1 ∧ Int32.toInt x1 ≤ 65535) → (0 ≤ Int32.toInt x2 ∧ Int32.toInt x2 ≤ 65535) → (0 ≤ Int32.toInt x3 ∧ Int32.toInt x3 ≤ 65535) → (0 ≤ Int32.toInt x4 ∧ Int32.toInt x4 ≤ 16) → (16 - Int32.toInt x4 < n29) → K29 x1 x2 x3 x4 no_ground no_bruised no_clock) (x1 : Int32) (x2 : Int32) (x3 : Int32) (x4 : Int32) (no_ground : Int32) (no_bruised : Int32) (no_clock : Int32) (h_x1 : 0 ≤ Int32.toInt x1 ∧ Int32.toInt x1 ≤ 65535) (h_x2 : 0 ≤ Int32.toInt x2 ∧ Int32.toInt x2 ≤ 65535) (h_x3 : 0 ≤ Int32.toInt x3 ∧ Int32.toInt x3 ≤ 65535) (h_x4 : 0 ≤ Int32.toInt x4 ∧ Int32.toInt x4 ≤ 15) (hn29 : 16 - Int32.toInt x4 ≤ n29) : ws_X0_shakeTree_63 post K29 tr_fruits tr_x tr_height tr_ripe tr_foot tr_fork tr_settings no_apron no_basket no_ladder no_helper no_today x1 x2 x3 x4 no_ground no_bruised no_clock := by
  have l0 : Int32.toInt (1 : Int32) = 1 := (by decide)
  intro v1 ev1
  have f2 : Int32.toInt (x4 + 1) = Int32.toInt x4 + Int32.toInt (1 : Int32) := ta_add _ _ (by omega)
  rw [← ev1] at f2
  have f3 := tp_r no_ground
  have f4 := tp_r no_bruised
  have f5 := tp_r no_clock
  exact hK29 x1 x2 x3 v1 no_ground no_bruised no_clock (by omega) (by omega) (by omega) (by omega) (by omega)
set_option maxHeartbeats 8000000 in
set_option maxRecDepth 200000 in
theorem ts_X0_shakeTree_29 {post : Int32 → Int32 → Int32 → Int32 → Prop} {next : Int32 → Int32 → Int32 → Int32 → Int32 → Int32 → Int32 → Prop} {n29 : Int} (tr_fruits : Int32) (tr_x : Nat → Int32) (tr_height : Nat → Int32) (tr_ripe : Nat → Int32) (tr_foot : Nat → Int32) (tr_fork : Nat → Int32) (tr_settings : Nat → Int32) (no_apron : Int32) (no_basket : Int32) (no_ladder : Int32) (no_helper : Int32) (no_today : Int32) (h_tr_fruits : 0 ≤ Int32.toInt tr_fruits ∧ Int32.toInt tr_fruits ≤ 16) (h_no_ladder : -1 ≤ Int32.toInt no_ladder ∧ Int32.toInt no_ladder ≤ 7) (h_no_today : 0 ≤ Int32.toInt no_today ∧ Int32.toInt no_today ≤ 9) (hpost : ∀ (r : Int32) (no_ground' : Int32) (no_bruised' : Int32) (no_clock' : Int32), (-2 ≤ Int32.toInt r ∧ Int32.toInt r ≤ 63) → post r no_ground' no_bruised' no_clock') (hKn : ∀ (x1 : Int32) (x2 : Int32) (x3 : Int32) (x4 : Int32) (no_ground : Int32) (no_bruised : Int32) (no_clock : Int32), (0 ≤ Int32.toInt x1 ∧ Int32.toInt x1 ≤ 65535) → (0 ≤ Int32.toInt x2 ∧ Int32.toInt x2 ≤ 65535) → (0 ≤ Int32.toInt x3 ∧ Int32.toInt x3 ≤ 65535) → (0 ≤ Int32.toInt x4 ∧ Int32.toInt x4 ≤ 16) → (16 - Int32.toInt x4 < n29) → next x1 x2 x3 x4 no_ground no_bruised no_clock) (x1 : Int32) (x2 : Int32) (x3 : Int32) (x4 : Int32) (no_ground : Int32) (no_bruised : Int32) (no_clock : Int32) (h_x1 : 0 ≤ Int32.toInt x1 ∧ Int32.toInt x1 ≤ 65535) (h_x2 : 0 ≤ Int32.toInt x2 ∧ Int32.toInt x2 ≤ 65535) (h_x3 : 0 ≤ Int32.toInt x3 ∧ Int32.toInt x3 ≤ 65535) (h_x4 : 0 ≤ Int32.toInt x4 ∧ Int32.toInt x4 ≤ 16) (hn29 : 16 - Int32.toInt x4 ≤ n29) : ws_X0_shakeTree_29 post next tr_fruits tr_x tr_height tr_ripe tr_foot tr_fork tr_settings no_apron no_basket no_ladder no_helper no_today x1 x2 x3 x4 no_ground no_bruised no_clock := by
  have l0 : Int32.toInt (0 : Int32) = 0 := (by decide)
  have l1 : Int32.toInt (1 : Int32) = 1 := (by decide)
  have l2 : Int32.toInt (1431655765 : Int32) = 1431655765 := (by decide)
  have l3 : Int32.toInt (252645135 : Int32) = 252645135 := (by decide)
  have l4 : Int32.toInt (63 : Int32) = 63 := (by decide)
  have l5 : Int32.toInt (858993459 : Int32) = 858993459 := (by decide)
  have l6 : Int32.toInt (9999 : Int32) = 9999 := (by decide)
  refine And.intro (fun c6 => ?_) (fun c6 => ?_)
  · skip
    have c6 := (fa_le _ _).mp c6
    intro v7 ev7
    intro v8 ev8
    intro v9 ev9
    have hv9 := congrArg Int32.toInt ev9
    intro v11 ev11
    have f12 := tp_r (if v9 < 9999 then v9 else 9999)
    have f14 := tp_r v9
    have f13 := ti_min (9999 : Int32) v9
    have hv11 := congrArg Int32.toInt ev11
    intro v15 ev15
    intro v16 ev16
    have f18 := ti_andr v15 1431655765 (by omega)
    have f17 : Int32.toInt (x2 - (v15 &&& 1431655765)) = Int32.toInt x2 - Int32.toInt (v15 &&& 1431655765) := ta_sub _ _ (by omega)
    rw [← ev16] at f17
    intro v19 ev19
    have f20 := ti_andr v16 858993459 (by omega)
    have hv19 := congrArg Int32.toInt ev19
    intro v21 ev21
    intro v22 ev22
    have f24 := ti_andr v21 858993459 (by omega)
    have f23 : Int32.toInt (v19 + (v21 &&& 858993459)) = Int32.toInt v19 + Int32.toInt (v21 &&& 858993459) := ta_add _ _ (by omega)
    rw [← ev22] at f23
    intro v25 ev25
    have hv25 := congrArg Int32.toInt ev25
    intro v27 ev27
    have f28 := ti_andr v25 252645135 (by omega)
    have hv27 := congrArg Int32.toInt ev27
    intro v29 ev29
    have hv29 := congrArg Int32.toInt ev29
    intro v31 ev31
    have hv31 := congrArg Int32.toInt ev31
    have f33 := ti_andr v31 63 (by omega)
    exact hpost _ _ _ _ (by omega)
  · skip
    have c6 := mt (fa_le _ _).mpr c6
    intro v34 ev34
    have f35 := ti_shr x2 x4 (by omega)
    have hv34 := congrArg Int32.toInt ev34
    have f37 := ti_andr v34 1 (by omega)
    have f38 := ti_andl v34 1 (by omega)
    refine And.intro (fun c36 => ?_) (fun c36 => ?_)
    · skip
      have c36 := (fa_eq _ _).mp c36
      have f39 := tp_r no_ground
      have f40 := tp_r no_bruised
      have f41 := tp_r no_clock
      exact ts_X0_shakeTree_63 tr_fruits tr_x tr_height tr_ripe tr_foot tr_fork tr_settings no_apron no_basket no_ladder no_helper no_today h_tr_fruits h_no_ladder h_no_today hpost hKn x1 x2 x3 x4 no_ground no_bruised no_clock (by omega) (by omega) (by omega) (by omega) (by omega)
    · skip
      have c36 := mt (fa_eq _ _).mpr c36
      refine t_X3_lowerThan (by omega) (by omega) (by omega) (fun r42 h_r42 => ?_)
      intro v43 ev43
      have f44 := ti_or 16 65536 x3 r42 (by decide) (by omega) (by omega)
      have hv43 := congrArg Int32.toInt ev43
      have f45 := tp_r no_ground
      have f46 := tp_r no_bruised
      have f47 := tp_r no_clock
      exact ts_X0_shakeTree_63 tr_fruits tr_x tr_height tr_ripe tr_foot tr_fork tr_settings no_apron no_basket no_ladder no_helper no_today h_tr_fruits h_no_ladder h_no_today hpost hKn x1 x2 v43 x4 no_ground no_bruised no_clock (by omega) (by omega) (by omega) (by omega) (by omega)
set_option maxHeartbeats 8000000 in
set_option maxRecDepth 200000 in
theorem tb_X0_shakeTree_29 {post : Int32 → Int32 → Int32 → Int32 → Prop} (tr_fruits : Int32) (tr_x : Nat → Int32) (tr_height : Nat → Int32) (tr_ripe : Nat → Int32) (tr_foot : Nat → Int32) (tr_fork : Nat → Int32) (tr_settings : Nat → Int32) (no_apron : Int32) (no_basket : Int32) (no_ladder : Int32) (no_helper : Int32) (no_today : Int32) (h_tr_fruits : 0 ≤ Int32.toInt tr_fruits ∧ Int32.toInt tr_fruits ≤ 16) (h_no_ladder : -1 ≤ Int32.toInt no_ladder ∧ Int32.toInt no_ladder ≤ 7) (h_no_today : 0 ≤ Int32.toInt no_today ∧ Int32.toInt no_today ≤ 9) (hpost : ∀ (r : Int32) (no_ground' : Int32) (no_bruised' : Int32) (no_clock' : Int32), (-2 ≤ Int32.toInt r ∧ Int32.toInt r ≤ 63) → post r no_ground' no_bruised' no_clock') : ∀ (n : Nat) (x1 : Int32) (x2 : Int32) (x3 : Int32) (x4 : Int32) (no_ground : Int32) (no_bruised : Int32) (no_clock : Int32), (0 ≤ Int32.toInt x1 ∧ Int32.toInt x1 ≤ 65535) → (0 ≤ Int32.toInt x2 ∧ Int32.toInt x2 ≤ 65535) → (0 ≤ Int32.toInt x3 ∧ Int32.toInt x3 ≤ 65535) → (0 ≤ Int32.toInt x4 ∧ Int32.toInt x4 ≤ 16) → (16 - Int32.toInt x4 < (n : Int)) → wb_X0_shakeTree_29 post tr_fruits tr_x tr_height tr_ripe tr_foot tr_fork tr_settings no_apron no_basket no_ladder no_helper no_today n x1 x2 x3 x4 no_ground no_bruised no_clock := by
  intro n
  induction n with
  | zero =>
    intro x1 x2 x3 x4 no_ground no_bruised no_clock h_x1 h_x2 h_x3 h_x4 hm
    exfalso; omega
  | succ n ih =>
    intro x1 x2 x3 x4 no_ground no_bruised no_clock h_x1 h_x2 h_x3 h_x4 hm
    exact ts_X0_shakeTree_29 tr_fruits tr_x tr_height tr_ripe tr_foot tr_fork tr_settings no_apron no_basket no_ladder no_helper no_today h_tr_fruits h_no_ladder h_no_today hpost ih x1 x2 x3 x4 no_ground no_bruised no_clock h_x1 h_x2 h_x3 h_x4 (by omega)
set_option maxHeartbeats 8000000 in
set_option maxRecDepth 200000 in
theorem t_X0_shakeTree {post : Int32 → Int32 → Int32 → Int32 → Prop} {tr_fruits : Int32} {tr_x : Nat → Int32} {tr_height : Nat → Int32} {tr_ripe : Nat → Int32} {tr_foot : Nat → Int32} {tr_fork : Nat → Int32} {tr_settings : Nat → Int32} {no_apron : Int32} {no_basket : Int32} {no_ground : Int32} {no_bruised : Int32} {no_ladder : Int32} {no_helper : Int32} {no_today : Int32} {no_clock : Int32} (h_tr_fruits : 0 ≤ Int32.toInt tr_fruits ∧ Int32.toInt tr_fruits ≤ 16) (h_no_ladder : -1 ≤ Int32.toInt no_ladder ∧ Int32.toInt no_ladder ≤ 7) (h_no_today : 0 ≤ Int32.toInt no_today ∧ Int32.toInt no_today ≤ 9) (hpost : ∀ (r : Int32) (no_ground' : Int32) (no_bruised' : Int32) (no_clock' : Int32), (-2 ≤ Int32.toInt r ∧ Int32.toInt r ≤ 63) → post r no_ground' no_bruised' no_clock') : wp_X0_shakeTree post tr_fruits tr_x tr_height tr_ripe tr_foot tr_fork tr_settings no_apron no_basket no_ground no_bruised no_ladder no_helper no_today no_clock := by
  have l0 : Int32.toInt ((-1) : Int32) = -1 := (by decide)
  have l1 : Int32.toInt ((-2) : Int32) = -2 := (by decide)
  have l2 : Int32.toInt (0 : Int32) = 0 := (by decide)
  have l3 : Int32.toInt (1 : Int32) = 1 := (by decide)
  have l4 : Int32.toInt (2 : Int32) = 2 := (by decide)
  refine And.intro (fun c48 => ?_) (fun c48 => ?_)
  · skip
    have c48 := mt (fa_eq _ _).mpr c48
    intro v49 ev49
    have f50 := ti_shl1 16 65536 tr_fruits (by decide) (by omega)
    have hv49 := congrArg Int32.toInt ev49
    intro v51 ev51
    intro v52 ev52
    refine And.intro (fun c53 => ?_) (fun c53 => ?_)
    · skip
      have c53 := mt (fa_eq _ _).mpr c53
      intro v54 ev54
      have hv54 := congrArg Int32.toInt ev54
      intro v56 ev56
      have hv56 := congrArg Int32.toInt ev56
      refine t_X3_within (by omega) (by omega) (fun r58 h_r58 => ?_)
      intro v59 ev59
      have hv59 := congrArg Int32.toInt ev59
      intro v60 ev60
      intro v61 ev61
      refine t_X3_ripeBy (by omega) (by omega) (fun r62 h_r62 => ?_)
      intro v63 ev63
      have f64 := ti_andr ((v59 - 1) &&& (v61 ^^^ (-1))) r62 (by omega)
      have f66 : Int32.toInt (v59 - 1) = Int32.toInt v59 - Int32.toInt (1 : Int32) := ta_sub _ _ (by omega)
      have f67 := ti_andl (v59 - 1) (v61 ^^^ (-1)) (by omega)
      have f68 := ti_andl ((v59 - 1) &&& (v61 ^^^ (-1))) r62 (by omega)
      have hv63 := congrArg Int32.toInt ev63
      have f70 : Int32.toInt (v49 - 1) = Int32.toInt v49 - Int32.toInt (1 : Int32) := ta_sub _ _ (by omega)
      have f71 := ti_andl (v49 - 1) (v52 ^^^ (-1)) (by omega)
      have f72 := ti_andr v63 r58 (by omega)
      have f73 := ti_andl v63 r58 (by omega)
      have f74 := tp_r no_ground
      have f75 := tp_r no_bruised
      have f76 := tp_r no_clock
      exact ⟨18, tb_X0_shakeTree_29 tr_fruits tr_x tr_height tr_ripe tr_foot tr_fork tr_settings no_apron no_basket no_ladder no_helper no_today h_tr_fruits h_no_ladder h_no_today hpost _ ((v49 - 1) &&& (v52 ^^^ (-1))) (v63 &&& r58) (v63 &&& r58) 0 no_ground no_bruised no_clock (by omega) (by omega) (by omega) (by omega) (by omega)⟩
    · skip
      have c53 := (fa_eq _ _).mp c53
      exfalso; omega
  · skip
    have c48 := (fa_eq _ _).mp c48
    exact hpost _ _ _ _ (by omega)
set_option maxHeartbeats 8000000 in
set_option maxRecDepth 200000 in
theorem t_X9_shake {post : Int32 → Int32 → Int32 → Int32 → Int32 → Int32 → (Nat → Int32) → Prop} {tr_fruits : Int32} {tr_x : Nat → Int32} {tr_height : Nat → Int32} {tr_ripe : Nat → Int32} {tr_foot : Nat → Int32} {tr_fork : Nat → Int32} {tr_settings : Nat → Int32} {no_apron : Int32} {no_basket : Int32} {no_ground : Int32} {no_bruised : Int32} {no_ladder : Int32} {no_helper : Int32} {no_today : Int32} {no_clock : Int32} {pa_undoable : Int32} {pa_free : Int32} {pa_cells : Nat → Int32} (h_tr_fruits : 0 ≤ Int32.toInt tr_fruits ∧ Int32.toInt tr_fruits ≤ 16) (h_no_ladder : -1 ≤ Int32.toInt no_ladder ∧ Int32.toInt no_ladder ≤ 7) (h_no_today : 0 ≤ Int32.toInt no_today ∧ Int32.toInt no_today ≤ 9) (h_pa_undoable : 0 ≤ Int32.toInt pa_undoable ∧ Int32.toInt pa_undoable ≤ 12) (h_pa_free : 0 ≤ Int32.toInt pa_free ∧ Int32.toInt pa_free ≤ 12) (e0_pa_cells : ∀ k : Nat, k % 8 = 4 → -1 ≤ Int32.toInt (pa_cells k) ∧ Int32.toInt (pa_cells k) ≤ 7) (e1_pa_cells : ∀ k : Nat, k % 8 = 6 → 0 ≤ Int32.toInt (pa_cells k) ∧ Int32.toInt (pa_cells k) ≤ 9) (hpost : ∀ (r : Int32) (no_ground' : Int32) (no_bruised' : Int32) (no_clock' : Int32) (pa_undoable' : Int32) (pa_free' : Int32) (pa_cells' : Nat → Int32), (-2 ≤ Int32.toInt r ∧ Int32.toInt r ≤ 63) → (0 ≤ Int32.toInt pa_undoable' ∧ Int32.toInt pa_undoable' ≤ 12) → (0 ≤ Int32.toInt pa_free' ∧ Int32.toInt pa_free' ≤ 12) → (∀ k : Nat, k % 8 = 4 → -1 ≤ Int32.toInt (pa_cells' k) ∧ Int32.toInt (pa_cells' k) ≤ 7) → (∀ k : Nat, k % 8 = 6 → 0 ≤ Int32.toInt (pa_cells' k) ∧ Int32.toInt (pa_cells' k) ≤ 9) → post r no_ground' no_bruised' no_clock' pa_undoable' pa_free' pa_cells') : wp_X9_shake post tr_fruits tr_x tr_height tr_ripe tr_foot tr_fork tr_settings no_apron no_basket no_ground no_bruised no_ladder no_helper no_today no_clock pa_undoable pa_free pa_cells := by
  have l0 : Int32.toInt (0 : Int32) = 0 := (by decide)
  have l1 : Int32.toInt (1 : Int32) = 1 := (by decide)
  have l2 : Int32.toInt (104 : Int32) = 104 := (by decide)
  have l3 : Int32.toInt (12 : Int32) = 12 := (by decide)
  have l4 : Int32.toInt (13 : Int32) = 13 := (by decide)
  have l5 : Int32.toInt (2 : Int32) = 2 := (by decide)
  have l6 : Int32.toInt (3 : Int32) = 3 := (by decide)
  have l7 : Int32.toInt (4 : Int32) = 4 := (by decide)
  have l8 : Int32.toInt (5 : Int32) = 5 := (by decide)
  have l9 : Int32.toInt (6 : Int32) = 6 := (by decide)
  have l10 : Int32.toInt (7 : Int32) = 7 := (by decide)
  have l11 : Int32.toInt (8 : Int32) = 8 := (by decide)
  intro v1 ev1
  have f2 : Int32.toInt (pa_free * 8) = Int32.toInt pa_free * 8 := ta_mulc _ _ (by decide) (by omega)
  rw [← ev1] at f2
  refine And.intro (fun c3 => ?_) (fun c3 => ?_)
  · skip
    have c3 := (fa_lt _ _).mp c3
    exfalso; omega
  · skip
    have c3 := mt (fa_lt _ _).mpr c3
    have f5 : Int32.toInt (104 - 8) = Int32.toInt (104 : Int32) - Int32.toInt (8 : Int32) := ta_sub _ _ (by omega)
    refine And.intro (fun c4 => ?_) (fun c4 => ?_)
    · skip
      have c4 := (fa_le _ _).mp c4
      refine And.intro (t_in (by omega)) ?_
      have f7 := tp_r no_apron
      have e6 : ∀ k : Nat, k % 8 = 4 → -1 ≤ Int32.toInt ((upd pa_cells v1.toNatClampNeg no_apron) k) ∧ Int32.toInt ((upd pa_cells v1.toNatClampNeg no_apron) k) ≤ 7 := t_updc (C := fun k => k % 8 = 4) e0_pa_cells (fun hk => by have e9 : v1.toNatClampNeg = (Int32.toInt v1).toNat := rfl; have hk : v1.toNatClampNeg % 8 = 4 := hk; omega)
      have e8 : ∀ k : Nat, k % 8 = 6 → 0 ≤ Int32.toInt ((upd pa_cells v1.toNatClampNeg no_apron) k) ∧ Int32.toInt ((upd pa_cells v1.toNatClampNeg no_apron) k) ≤ 9 := t_updc (C := fun k => k % 8 = 6) e1_pa_cells (fun hk => by have e9 : v1.toNatClampNeg = (Int32.toInt v1).toNat := rfl; have hk : v1.toNatClampNeg % 8 = 6 := hk; omega)
      intro v9 ev9
      have f10 : Int32.toInt (v1 + 1) = Int32.toInt v1 + Int32.toInt (1 : Int32) := ta_add _ _ (by omega)
      rw [← ev9] at f10
      refine And.intro (t_in (by omega)) ?_
      have f12 := tp_r no_basket
      have e11 : ∀ k : Nat, k % 8 = 4 → -1 ≤ Int32.toInt ((upd (upd pa_cells v1.toNatClampNeg no_apron) v9.toNatClampNeg no_basket) k) ∧ Int32.toInt ((upd (upd pa_cells v1.toNatClampNeg no_apron) v9.toNatClampNeg no_basket) k) ≤ 7 := t_updc (C := fun k => k % 8 = 4) e6 (fun hk => by have e9 : v9.toNatClampNeg = (Int32.toInt v9).toNat := rfl; have hk : v9.toNatClampNeg % 8 = 4 := hk; omega)
      have e13 : ∀ k : Nat, k % 8 = 6 → 0 ≤ Int32.toInt ((upd (upd pa_cells v1.toNatClampNeg no_apron) v9.toNatClampNeg no_basket) k) ∧ Int32.toInt ((upd (upd pa_cells v1.toNatClampNeg no_apron) v9.toNatClampNeg no_basket) k) ≤ 9 := t_updc (C := fun k => k % 8 = 6) e8 (fun hk => by have e9 : v9.toNatClampNeg = (Int32.toInt v9).toNat := rfl; have hk : v9.toNatClampNeg % 8 = 6 := hk; omega)
      intro v14 ev14
      have f15 : Int32.toInt (v1 + 2) = Int32.toInt v1 + Int32.toInt (2 : Int32) := ta_add _ _ (by omega)
      rw [← ev14] at f15
      refine And.intro (t_in (by omega)) ?_
      have f17 := tp_r no_ground
      have e16 : ∀ k : Nat, k % 8 = 4 → -1 ≤ Int32.toInt ((upd (upd (upd pa_cells v1.toNatClampNeg no_apron) v9.toNatClampNeg no_basket) v14.toNatClampNeg no_ground) k) ∧ Int32.toInt ((upd (upd (upd pa_cells v1.toNatClampNeg no_apron) v9.toNatClampNeg no_basket) v14.toNatClampNeg no_ground) k) ≤ 7 := t_updc (C := fun k => k % 8 = 4) e11 (fun hk => by have e9 : v14.toNatClampNeg = (Int32.toInt v14).toNat := rfl; have hk : v14.toNatClampNeg % 8 = 4 := hk; omega)
      have e18 : ∀ k : Nat, k % 8 = 6 → 0 ≤ Int32.toInt ((upd (upd (upd pa_cells v1.toNatClampNeg no_apron) v9.toNatClampNeg no_basket) v14.toNatClampNeg no_ground) k) ∧ Int32.toInt ((upd (upd (upd pa_cells v1.toNatClampNeg no_apron) v9.toNatClampNeg no_basket) v14.toNatClampNeg no_ground) k) ≤ 9 := t_updc (C := fun k => k % 8 = 6) e13 (fun hk => by have e9 : v14.toNatClampNeg = (Int32.toInt v14).toNat := rfl; have hk : v14.toNatClampNeg % 8 = 6 := hk; omega)
      intro v19 ev19
      have f20 : Int32.toInt (v1 + 3) = Int32.toInt v1 + Int32.toInt (3 : Int32) := ta_add _ _ (by omega)
      rw [← ev19] at f20
      refine And.intro (t_in (by omega)) ?_
      have f22 := tp_r no_bruised
      have e21 : ∀ k : Nat, k % 8 = 4 → -1 ≤ Int32.toInt ((upd (upd (upd (upd pa_cells v1.toNatClampNeg no_apron) v9.toNatClampNeg no_basket) v14.toNatClampNeg no_ground) v19.toNatClampNeg no_bruised) k) ∧ Int32.toInt ((upd (upd (upd (upd pa_cells v1.toNatClampNeg no_apron) v9.toNatClampNeg no_basket) v14.toNatClampNeg no_ground) v19.toNatClampNeg no_bruised) k) ≤ 7 := t_updc (C := fun k => k % 8 = 4) e16 (fun hk => by have e9 : v19.toNatClampNeg = (Int32.toInt v19).toNat := rfl; have hk : v19.toNatClampNeg % 8 = 4 := hk; omega)
      have e23 : ∀ k : Nat, k % 8 = 6 → 0 ≤ Int32.toInt ((upd (upd (upd (upd pa_cells v1.toNatClampNeg no_apron) v9.toNatClampNeg no_basket) v14.toNatClampNeg no_ground) v19.toNatClampNeg no_bruised) k) ∧ Int32.toInt ((upd (upd (upd (upd pa_cells v1.toNatClampNeg no_apron) v9.toNatClampNeg no_basket) v14.toNatClampNeg no_ground) v19.toNatClampNeg no_bruised) k) ≤ 9 := t_updc (C := fun k => k % 8 = 6) e18 (fun hk => by have e9 : v19.toNatClampNeg = (Int32.toInt v19).toNat := rfl; have hk : v19.toNatClampNeg % 8 = 6 := hk; omega)
      intro v24 ev24
      have f25 : Int32.toInt (v1 + 4) = Int32.toInt v1 + Int32.toInt (4 : Int32) := ta_add _ _ (by omega)
      rw [← ev24] at f25
      refine And.intro (t_in (by omega)) ?_
      have e26 : ∀ k : Nat, k % 8 = 4 → -1 ≤ Int32.toInt ((upd (upd (upd (upd (upd pa_cells v1.toNatClampNeg no_apron) v9.toNatClampNeg no_basket) v14.toNatClampNeg no_ground) v19.toNatClampNeg no_bruised) v24.toNatClampNeg no_ladder) k) ∧ Int32.toInt ((upd (upd (upd (upd (upd pa_cells v1.toNatClampNeg no_apron) v9.toNatClampNeg no_basket) v14.toNatClampNeg no_ground) v19.toNatClampNeg no_bruised) v24.toNatClampNeg no_ladder) k) ≤ 7 := t_updc (C := fun k => k % 8 = 4) e21 (fun hk => by have e9 : v24.toNatClampNeg = (Int32.toInt v24).toNat := rfl; have hk : v24.toNatClampNeg % 8 = 4 := hk; omega)
      have e27 : ∀ k : Nat, k % 8 = 6 → 0 ≤ Int32.toInt ((upd (upd (upd (upd (upd pa_cells v1.toNatClampNeg no_apron) v9.toNatClampNeg no_basket) v14.toNatClampNeg no_ground) v19.toNatClampNeg no_bruised) v24.toNatClampNeg no_ladder) k) ∧ Int32.toInt ((upd (upd (upd (upd (upd pa_cells v1.toNatClampNeg no_apron) v9.toNatClampNeg no_basket) v14.toNatClampNeg no_ground) v19.toNatClampNeg no_bruised) v24.toNatClampNeg no_ladder) k) ≤ 9 := t_updc (C := fun k => k % 8 = 6) e23 (fun hk => by have e9 : v24.toNatClampNeg = (Int32.toInt v24).toNat := rfl; have hk : v24.toNatClampNeg % 8 = 6 := hk; omega)
      intro v28 ev28
      have f29 : Int32.toInt (v1 + 5) = Int32.toInt v1 + Int32.toInt (5 : Int32) := ta_add _ _ (by omega)
      rw [← ev28] at f29
      refine And.intro (t_in (by omega)) ?_
      have f31 := tp_r no_helper
      have e30 : ∀ k : Nat, k % 8 = 4 → -1 ≤ Int32.toInt ((upd (upd (upd (upd (upd (upd pa_cells v1.toNatClampNeg no_apron) v9.toNatClampNeg no_basket) v14.toNatClampNeg no_ground) v19.toNatClampNeg no_bruised) v24.toNatClampNeg no_ladder) v28.toNatClampNeg no_helper) k) ∧ Int32.toInt ((upd (upd (upd (upd (upd (upd pa_cells v1.toNatClampNeg no_apron) v9.toNatClampNeg no_basket) v14.toNatClampNeg no_ground) v19.toNatClampNeg no_bruised) v24.toNatClampNeg no_ladder) v28.toNatClampNeg no_helper) k) ≤ 7 := t_updc (C := fun k => k % 8 = 4) e26 (fun hk => by have e9 : v28.toNatClampNeg = (Int32.toInt v28).toNat := rfl; have hk : v28.toNatClampNeg % 8 = 4 := hk; omega)
      have e32 : ∀ k : Nat, k % 8 = 6 → 0 ≤ Int32.toInt ((upd (upd (upd (upd (upd (upd pa_cells v1.toNatClampNeg no_apron) v9.toNatClampNeg no_basket) v14.toNatClampNeg no_ground) v19.toNatClampNeg no_bruised) v24.toNatClampNeg no_ladder) v28.toNatClampNeg no_helper) k) ∧ Int32.toInt ((upd (upd (upd (upd (upd (upd pa_cells v1.toNatClampNeg no_apron) v9.toNatClampNeg no_basket) v14.toNatClampNeg no_ground) v19.toNatClampNeg no_bruised) v24.toNatClampNeg no_ladder) v28.toNatClampNeg no_helper) k) ≤ 9 := t_updc (C := fun k => k % 8 = 6) e27 (fun hk => by have e9 : v28.toNatClampNeg = (Int32.toInt v28).toNat := rfl; have hk : v28.toNatClampNeg % 8 = 6 := hk; omega)
      intro v33 ev33
      have f34 : Int32.toInt (v1 + 6) = Int32.toInt v1 + Int32.toInt (6 : Int32) := ta_add _ _ (by omega)
      rw [← ev33] at f34
      refine And.intro (t_in (by omega)) ?_
      have e35 : ∀ k : Nat, k % 8 = 4 → -1 ≤ Int32.toInt ((upd (upd (upd (upd (upd (upd (upd pa_cells v1.toNatClampNeg no_apron) v9.toNatClampNeg no_basket) v14.toNatClampNeg no_ground) v19.toNatClampNeg no_bruised) v24.toNatClampNeg no_ladder) v28.toNatClampNeg no_helper) v33.toNatClampNeg no_today) k) ∧ Int32.toInt ((upd (upd (upd (upd (upd (upd (upd pa_cells v1.toNatClampNeg no_apron) v9.toNatClampNeg no_basket) v14.toNatClampNeg no_ground) v19.toNatClampNeg no_bruised) v24.toNatClampNeg no_ladder) v28.toNatClampNeg no_helper) v33.toNatClampNeg no_today) k) ≤ 7 := t_updc (C := fun k => k % 8 = 4) e30 (fun hk => by have e9 : v33.toNatClampNeg = (Int32.toInt v33).toNat := rfl; have hk : v33.toNatClampNeg % 8 = 4 := hk; omega)
      have e36 : ∀ k : Nat, k % 8 = 6 → 0 ≤ Int32.toInt ((upd (upd (upd (upd (upd (upd (upd pa_cells v1.toNatClampNeg no_apron) v9.toNatClampNeg no_basket) v14.toNatClampNeg no_ground) v19.toNatClampNeg no_bruised) v24.toNatClampNeg no_ladder) v28.toNatClampNeg no_helper) v33.toNatClampNeg no_today) k) ∧ Int32.toInt ((upd (upd (upd (upd (upd (upd (upd pa_cells v1.toNatClampNeg no_apron) v9.toNatClampNeg no_basket) v14.toNatClampNeg no_ground) v19.toNatClampNeg no_bruised) v24.toNatClampNeg no_ladder) v28.toNatClampNeg no_helper) v33.toNatClampNeg no_today) k) ≤ 9 := t_updc (C := fun k => k % 8 = 6) e32 (fun hk => by have e9 : v33.toNatClampNeg = (Int32.toInt v33).toNat := rfl; have hk : v33.toNatClampNeg % 8 = 6 := hk; omega)
      intro v37 ev37
      have f38 : Int32.toInt (v1 + 7) = Int32.toInt v1 + Int32.toInt (7 : Int32) := ta_add _ _ (by omega)
      rw [← ev37] at f38
      refine And.intro (t_in (by omega)) ?_
      have f40 := tp_r no_clock
      have e39 : ∀ k : Nat, k % 8 = 4 → -1 ≤ Int32.toInt ((upd (upd (upd (upd (upd (upd (upd (upd pa_cells v1.toNatClampNeg no_apron) v9.toNatClampNeg no_basket) v14.toNatClampNeg no_ground) v19.toNatClampNeg no_bruised) v24.toNatClampNeg no_ladder) v28.toNatClampNeg no_helper) v33.toNatClampNeg no_today) v37.toNatClampNeg no_clock) k) ∧ Int32.toInt ((upd (upd (upd (upd (upd (upd (upd (upd pa_cells v1.toNatClampNeg no_apron) v9.toNatClampNeg no_basket) v14.toNatClampNeg no_ground) v19.toNatClampNeg no_bruised) v24.toNatClampNeg no_ladder) v28.toNatClampNeg no_helper) v33.toNatClampNeg no_today) v37.toNatClampNeg no_clock) k) ≤ 7 := t_updc (C := fun k => k % 8 = 4) e35 (fun hk => by have e9 : v37.toNatClampNeg = (Int32.toInt v37).toNat := rfl; have hk : v37.toNatClampNeg % 8 = 4 := hk; omega)
      have e41 : ∀ k : Nat, k % 8 = 6 → 0 ≤ Int32.toInt ((upd (upd (upd (upd (upd (upd (upd (upd pa_cells v1.toNatClampNeg no_apron) v9.toNatClampNeg no_basket) v14.toNatClampNeg no_ground) v19.toNatClampNeg no_bruised) v24.toNatClampNeg no_ladder) v28.toNatClampNeg no_helper) v33.toNatClampNeg no_today) v37.toNatClampNeg no_clock) k) ∧ Int32.toInt ((upd (upd (upd (upd (upd (upd (upd (upd pa_cells v1.toNatClampNeg no_apron) v9.toNatClampNeg no_basket) v14.toNatClampNeg no_ground) v19.toNatClampNeg no_bruised) v24.toNatClampNeg no_ladder) v28.toNatClampNeg no_helper) v33.toNatClampNeg no_today) v37.toNatClampNeg no_clock) k) ≤ 9 := t_updc (C := fun k => k % 8 = 6) e36 (fun hk => by have e9 : v37.toNatClampNeg = (Int32.toInt v37).toNat := rfl; have hk : v37.toNatClampNeg % 8 = 6 := hk; omega)
      refine t_X0_shakeTree (by omega) (by omega) (by omega) (fun r45 no_ground_42 no_bruised_43 no_clock_44 h_r45 => ?_)
      refine And.intro (fun c46 => ?_) (fun c46 => ?_)
      · skip
        have c46 := (fa_lt _ _).mp c46
        exact hpost _ _ _ _ _ _ _ (by omega) (by omega) (by omega) e39 e41
      · skip
        have c46 := mt (fa_lt _ _).mpr c46
        intro v47 ev47
        have f48 : Int32.toInt (pa_free + 1) = Int32.toInt pa_free + Int32.toInt (1 : Int32) := ta_add _ _ (by omega)
        rw [← ev47] at f48
        intro v49 ev49
        have f50 : Int32.toInt (v47 - v47 / 13 * 13) = Int32.toInt v47 % 13 := ti_rem _ _ (by decide) (by omega) (by decide)
        rw [← ev49] at f50
        intro v51 ev51
        have f52 : Int32.toInt (pa_undoable + 1) = Int32.toInt pa_undoable + Int32.toInt (1 : Int32) := ta_add _ _ (by omega)
        rw [← ev51] at f52
        intro v53 ev53
        have f54 := ti_min (12 : Int32) v51
        have hv53 := congrArg Int32.toInt ev53
        exact hpost _ _ _ _ _ _ _ (by omega) (by omega) (by omega) e39 e41
    · skip
      have c4 := mt (fa_le _ _).mpr c4
      exfalso; omega
