set_option maxHeartbeats 200000 in
set_option maxRecDepth 10000 in
theorem dl_X9_doActs_21 {P Q : Int32 → Int32 → Int32 → Int32 → Int32 → Int32 → Int32 → Int32 → Int32 → (Nat → Int32) → (Nat → Int32) → Int32 → Int32 → (Nat → Int32) → Int32 → (Nat → Int32) → Prop} {x_acts : Nat → Int32} {tr_fruits : Int32} {tr_standings : Int32} {tr_x : Nat → Int32} {tr_height : Nat → Int32} {tr_worth : Nat → Int32} {tr_ripe : Nat → Int32} {tr_foot : Nat → Int32} {tr_fork : Nat → Int32} {tr_settings : Nat → Int32} {ru_length : Int32} {ru_program : Nat → Int32} {R : Type} {po : Int32 → Int32 → Int32 → Int32 → Int32 → Int32 → Int32 → Int32 → Int32 → (Nat → Int32) → (Nat → Int32) → Int32 → Int32 → (Nat → Int32) → Int32 → (Nat → Int32) → R} {d : Int32 → Int32 → Int32 → Int32 → Int32 → Int32 → Int32 → Int32 → Int32 → Int32 → Int32 → Int32 → Int32 → (Nat → Int32) → (Nat → Int32) → Int32 → Int32 → (Nat → Int32) → Int32 → (Nat → Int32) → R} : ∀ (n m : Nat) (x1 : Int32) (x2 : Int32) (x3 : Int32) (x4 : Int32) (x5 : Int32) (no_apron : Int32) (no_basket : Int32) (no_ground : Int32) (no_bruised : Int32) (no_ladder : Int32) (no_helper : Int32) (no_today : Int32) (no_clock : Int32) (ru_given : Nat → Int32) (ru_stack : Nat → Int32) (pa_undoable : Int32) (pa_free : Int32) (pa_cells : Nat → Int32) (ro_size : Int32) (ro_numbers : Nat → Int32), 0 ≤ Int32.toInt x5 ∧ Int32.toInt x5 ≤ 30 → 30 - Int32.toInt x5 < (m : Int) → wb_X9_doActs_21 P x_acts tr_fruits tr_standings tr_x tr_height tr_worth tr_ripe tr_foot tr_fork tr_settings ru_length ru_program n x1 x2 x3 x4 x5 no_apron no_basket no_ground no_bruised no_ladder no_helper no_today no_clock ru_given ru_stack pa_undoable pa_free pa_cells ro_size ro_numbers → (∀ (b0 : Int32) (b1 : Int32) (b2 : Int32) (b3 : Int32) (b4 : Int32) (b5 : Int32) (b6 : Int32) (b7 : Int32) (b8 : Int32) (b9 : Nat → Int32) (b10 : Nat → Int32) (b11 : Int32) (b12 : Int32) (b13 : Nat → Int32) (b14 : Int32) (b15 : Nat → Int32), po b0 b1 b2 b3 b4 b5 b6 b7 b8 b9 b10 b11 b12 b13 b14 b15 = flp (fs_X9_doActs_21 po x_acts tr_fruits tr_standings tr_x tr_height tr_worth tr_ripe tr_foot tr_fork tr_settings ru_length ru_program) d m x1 x2 x3 x4 x5 no_apron no_basket no_ground no_bruised no_ladder no_helper no_today no_clock ru_given ru_stack pa_undoable pa_free pa_cells ro_size ro_numbers → P b0 b1 b2 b3 b4 b5 b6 b7 b8 b9 b10 b11 b12 b13 b14 b15 → Q b0 b1 b2 b3 b4 b5 b6 b7 b8 b9 b10 b11 b12 b13 b14 b15) → wb_X9_doActs_21 Q x_acts tr_fruits tr_standings tr_x tr_height tr_worth tr_ripe tr_foot tr_fork tr_settings ru_length ru_program n x1 x2 x3 x4 x5 no_apron no_basket no_ground no_bruised no_ladder no_helper no_today no_clock ru_given ru_stack pa_undoable pa_free pa_cells ro_size ro_numbers := by
  have l1 : Int32.toInt (1 : Int32) = 1 := by decide
  have l30 : Int32.toInt (30 : Int32) = 30 := by decide
  intro n
  induction n with
  | zero => intro m x1 x2 x3 x4 x5 no_apron no_basket no_ground no_bruised no_ladder no_helper no_today no_clock ru_given ru_stack pa_undoable pa_free pa_cells ro_size ro_numbers hv hm h hq; exact False.elim h
  | succ n ih =>
    intro m x1 x2 x3 x4 x5 no_apron no_basket no_ground no_bruised no_ladder no_helper no_today no_clock ru_given ru_stack pa_undoable pa_free pa_cells ro_size ro_numbers hv hm h hq
    cases m with
    | zero => exfalso; omega
    | succ m =>
      rw [flp_s, fs_X9_doActs_21] at hq
      have h : ws_X9_doActs_21 P (wb_X9_doActs_21 P x_acts tr_fruits tr_standings tr_x tr_height tr_worth tr_ripe tr_foot tr_fork tr_settings ru_length ru_program n) x_acts tr_fruits tr_standings tr_x tr_height tr_worth tr_ripe tr_foot tr_fork tr_settings ru_length ru_program x1 x2 x3 x4 x5 no_apron no_basket no_ground no_bruised no_ladder no_helper no_today no_clock ru_given ru_stack pa_undoable pa_free pa_cells ro_size ro_numbers := h
      show ws_X9_doActs_21 Q (wb_X9_doActs_21 Q x_acts tr_fruits tr_standings tr_x tr_height tr_worth tr_ripe tr_foot tr_fork tr_settings ru_length ru_program n) x_acts tr_fruits tr_standings tr_x tr_height tr_worth tr_ripe tr_foot tr_fork tr_settings ru_length ru_program x1 x2 x3 x4 x5 no_apron no_basket no_ground no_bruised no_ladder no_helper no_today no_clock ru_given ru_stack pa_undoable pa_free pa_cells ro_size ro_numbers
      unfold ws_X9_doActs_21 at h ⊢
      refine And.intro (fun c1 => ?_) (fun c1 => ?_)
      · have h := And.left h c1
        rw [if_pos c1] at hq
        have dc1 := (fa_le _ _).mp c1
        rw [j_X9_doActs_107] at hq
        unfold ws_X9_doActs_107 at h ⊢
        refine And.intro (fun c2 => ?_) (fun c2 => ?_)
        · have h := And.left h c2
          rw [if_pos c2] at hq
          have dc2 := (fa_le _ _).mp c2
          rw [j_X9_doActs_118] at hq
          unfold ws_X9_doActs_118 at h ⊢
          refine du_X9_tell_ h ?_
          intro h
          exact hq _ _ _ _ _ _ _ _ _ _ _ _ _ _ _ _ rfl h
        · have h := And.right h c2
          rw [if_neg c2] at hq
          have dc2 := mt (fa_le _ _).mpr c2
          refine du_X4_hold h ?_
          intro h
          rw [j_X9_doActs_118] at hq
          unfold ws_X9_doActs_118 at h ⊢
          refine du_X9_tell_ h ?_
          intro h
          exact hq _ _ _ _ _ _ _ _ _ _ _ _ _ _ _ _ rfl h
      · have h := And.right h c1
        rw [if_neg c1] at hq
        have dc1 := mt (fa_le _ _).mpr c1
        refine And.intro (fun c3 => ?_) (fun c3 => ?_)
        · have h := And.left h c3
          rw [if_pos c3] at hq
          have dc3 := (fa_le _ _).mp c3
          rw [j_X9_doActs_107] at hq
          unfold ws_X9_doActs_107 at h ⊢
          refine And.intro (fun c4 => ?_) (fun c4 => ?_)
          · have h := And.left h c4
            rw [if_pos c4] at hq
            have dc4 := (fa_le _ _).mp c4
            rw [j_X9_doActs_118] at hq
            unfold ws_X9_doActs_118 at h ⊢
            refine du_X9_tell_ h ?_
            intro h
            exact hq _ _ _ _ _ _ _ _ _ _ _ _ _ _ _ _ rfl h
          · have h := And.right h c4
            rw [if_neg c4] at hq
            have dc4 := mt (fa_le _ _).mpr c4
            refine du_X4_hold h ?_
            intro h
            rw [j_X9_doActs_118] at hq
            unfold ws_X9_doActs_118 at h ⊢
            refine du_X9_tell_ h ?_
            intro h
            exact hq _ _ _ _ _ _ _ _ _ _ _ _ _ _ _ _ rfl h
        · have h := And.right h c3
          rw [if_neg c3] at hq
          have dc3 := mt (fa_le _ _).mpr c3
          refine And.intro (fun c5 => ?_) (fun c5 => ?_)
          · have h := And.left h c5
            rw [if_neg c5] at hq
            have dc5 := mt (fa_eq _ _).mpr c5
            rw [j_X9_doActs_107] at hq
            unfold ws_X9_doActs_107 at h ⊢
            refine And.intro (fun c6 => ?_) (fun c6 => ?_)
            · have h := And.left h c6
              rw [if_pos c6] at hq
              have dc6 := (fa_le _ _).mp c6
              rw [j_X9_doActs_118] at hq
              unfold ws_X9_doActs_118 at h ⊢
              refine du_X9_tell_ h ?_
              intro h
              exact hq _ _ _ _ _ _ _ _ _ _ _ _ _ _ _ _ rfl h
            · have h := And.right h c6
              rw [if_neg c6] at hq
              have dc6 := mt (fa_le _ _).mpr c6
              refine du_X4_hold h ?_
              intro h
              rw [j_X9_doActs_118] at hq
              unfold ws_X9_doActs_118 at h ⊢
              refine du_X9_tell_ h ?_
              intro h
              exact hq _ _ _ _ _ _ _ _ _ _ _ _ _ _ _ _ rfl h
          · have h := And.right h c5
            rw [if_pos c5] at hq
            have dc5 := (fa_eq _ _).mp c5
            refine And.intro (And.left h) ?_
            have h := And.right h
            refine ae ?_
            have h := h _ rfl
            refine ae ?_
            have h := h _ rfl
            refine And.intro (And.left h) ?_
            have h := And.right h
            refine ae ?_
            have h := h _ rfl
            refine ae ?_
            have h := h _ rfl
            refine du_X9_doAct h ?_
            intro h
            refine And.intro (fun c7 => ?_) (fun c7 => ?_)
            · have h := And.left h c7
              rw [if_pos c7] at hq
              have dc7 := (fa_le _ _).mp c7
              refine ae ?_
              have h := h _ rfl
              refine And.intro (fun c8 => ?_) (fun c8 => ?_)
              · have h := And.left h c8
                rw [if_pos c8] at hq
                have dc8 := (fa_eq _ _).mp c8
                rw [j_X9_doActs_94] at hq
                unfold ws_X9_doActs_94 at h ⊢
                rw [j_X9_doActs_99] at hq
                unfold ws_X9_doActs_99 at h ⊢
                refine ae ?_
                have h := h _ rfl
                rw [j_X9_doActs_101] at hq
                unfold ws_X9_doActs_101 at h ⊢
                refine ae ?_
                have h := h _ rfl
                have f9 := ta_add x5 1 (by omega)
                exact ih m _ _ _ _ _ _ _ _ _ _ _ _ _ _ _ _ _ _ _ _ (by omega) (by omega) h hq
              · have h := And.right h c8
                rw [if_neg c8] at hq
                have dc8 := mt (fa_eq _ _).mpr c8
                refine And.intro (fun c9 => ?_) (fun c9 => ?_)
                · have h := And.left h c9
                  rw [if_neg c9] at hq
                  have dc9 := mt (fa_eq _ _).mpr c9
                  rw [j_X9_doActs_99] at hq
                  unfold ws_X9_doActs_99 at h ⊢
                  refine ae ?_
                  have h := h _ rfl
                  rw [j_X9_doActs_101] at hq
                  unfold ws_X9_doActs_101 at h ⊢
                  refine ae ?_
                  have h := h _ rfl
                  have f9 := ta_add x5 1 (by omega)
                  exact ih m _ _ _ _ _ _ _ _ _ _ _ _ _ _ _ _ _ _ _ _ (by omega) (by omega) h hq
                · have h := And.right h c9
                  rw [if_pos c9] at hq
                  have dc9 := (fa_eq _ _).mp c9
                  rw [j_X9_doActs_94] at hq
                  unfold ws_X9_doActs_94 at h ⊢
                  rw [j_X9_doActs_99] at hq
                  unfold ws_X9_doActs_99 at h ⊢
                  refine ae ?_
                  have h := h _ rfl
                  rw [j_X9_doActs_101] at hq
                  unfold ws_X9_doActs_101 at h ⊢
                  refine ae ?_
                  have h := h _ rfl
                  have f9 := ta_add x5 1 (by omega)
                  exact ih m _ _ _ _ _ _ _ _ _ _ _ _ _ _ _ _ _ _ _ _ (by omega) (by omega) h hq
            · have h := And.right h c7
              rw [if_neg c7] at hq
              have dc7 := mt (fa_le _ _).mpr c7
              rw [j_X9_doActs_101] at hq
              unfold ws_X9_doActs_101 at h ⊢
              refine ae ?_
              have h := h _ rfl
              have f9 := ta_add x5 1 (by omega)
              exact ih m _ _ _ _ _ _ _ _ _ _ _ _ _ _ _ _ _ _ _ _ (by omega) (by omega) h hq
noncomputable def F_X9_doActs (p0 : Int32) (x_acts : Nat → Int32) (tr_fruits : Int32) (tr_standings : Int32) (tr_x : Nat → Int32) (tr_height : Nat → Int32) (tr_worth : Nat → Int32) (tr_ripe : Nat → Int32) (tr_foot : Nat → Int32) (tr_fork : Nat → Int32) (tr_settings : Nat → Int32) (no_apron : Int32) (no_basket : Int32) (no_ground : Int32) (no_bruised : Int32) (no_ladder : Int32) (no_helper : Int32) (no_today : Int32) (no_clock : Int32) (ru_length : Int32) (ru_given : Nat → Int32) (ru_stack : Nat → Int32) (ru_program : Nat → Int32) (pa_undoable : Int32) (pa_free : Int32) (pa_cells : Nat → Int32) (ro_size : Int32) (ro_numbers : Nat → Int32) : Int32 × Int32 × Int32 × Int32 × Int32 × Int32 × Int32 × Int32 × Int32 × (Nat → Int32) × (Nat → Int32) × Int32 × Int32 × (Nat → Int32) × Int32 × (Nat → Int32) := flp (fs_X9_doActs_21 (fun o0 o1 o2 o3 o4 o5 o6 o7 o8 o9 o10 o11 o12 o13 o14 o15 => (o0, o1, o2, o3, o4, o5, o6, o7, o8, o9, o10, o11, o12, o13, o14, o15)) x_acts tr_fruits tr_standings tr_x tr_height tr_worth tr_ripe tr_foot tr_fork tr_settings ru_length ru_program) (fun _ _ _ _ _ _ _ _ _ _ _ _ _ _ _ _ _ _ _ _ => (0, 0, 0, 0, 0, 0, 0, 0, 0, (fun _ => 0), (fun _ => 0), 0, 0, (fun _ => 0), 0, (fun _ => 0))) 31 p0 0 0 0 0 no_apron no_basket no_ground no_bruised no_ladder no_helper no_today no_clock ru_given ru_stack pa_undoable pa_free (F_X4_note no_apron no_basket no_ground no_bruised no_ladder no_helper no_today no_clock pa_free pa_cells) ro_size ro_numbers
set_option maxHeartbeats 200000 in
set_option maxRecDepth 10000 in
theorem dt_X9_doActs {P Q : Int32 → Int32 → Int32 → Int32 → Int32 → Int32 → Int32 → Int32 → Int32 → (Nat → Int32) → (Nat → Int32) → Int32 → Int32 → (Nat → Int32) → Int32 → (Nat → Int32) → Prop} {p0 : Int32} {x_acts : Nat → Int32} {tr_fruits : Int32} {tr_standings : Int32} {tr_x : Nat → Int32} {tr_height : Nat → Int32} {tr_worth : Nat → Int32} {tr_ripe : Nat → Int32} {tr_foot : Nat → Int32} {tr_fork : Nat → Int32} {tr_settings : Nat → Int32} {no_apron : Int32} {no_basket : Int32} {no_ground : Int32} {no_bruised : Int32} {no_ladder : Int32} {no_helper : Int32} {no_today : Int32} {no_clock : Int32} {ru_length : Int32} {ru_given : Nat → Int32} {ru_stack : Nat → Int32} {ru_program : Nat → Int32} {pa_undoable : Int32} {pa_free : Int32} {pa_cells : Nat → Int32} {ro_size : Int32} {ro_numbers : Nat → Int32} (h : wp_X9_doActs P p0 x_acts tr_fruits tr_standings tr_x tr_height tr_worth tr_ripe tr_foot tr_fork tr_settings no_apron no_basket no_ground no_bruised no_ladder no_helper no_today no_clock ru_length ru_given ru_stack ru_program pa_undoable pa_free pa_cells ro_size ro_numbers) (hq : ∀ o : Int32 × Int32 × Int32 × Int32 × Int32 × Int32 × Int32 × Int32 × Int32 × (Nat → Int32) × (Nat → Int32) × Int32 × Int32 × (Nat → Int32) × Int32 × (Nat → Int32), o = F_X9_doActs p0 x_acts tr_fruits tr_standings tr_x tr_height tr_worth tr_ripe tr_foot tr_fork tr_settings no_apron no_basket no_ground no_bruised no_ladder no_helper no_today no_clock ru_length ru_given ru_stack ru_program pa_undoable pa_free pa_cells ro_size ro_numbers → P o.1 o.2.1 o.2.2.1 o.2.2.2.1 o.2.2.2.2.1 o.2.2.2.2.2.1 o.2.2.2.2.2.2.1 o.2.2.2.2.2.2.2.1 o.2.2.2.2.2.2.2.2.1 o.2.2.2.2.2.2.2.2.2.1 o.2.2.2.2.2.2.2.2.2.2.1 o.2.2.2.2.2.2.2.2.2.2.2.1 o.2.2.2.2.2.2.2.2.2.2.2.2.1 o.2.2.2.2.2.2.2.2.2.2.2.2.2.1 o.2.2.2.2.2.2.2.2.2.2.2.2.2.2.1 o.2.2.2.2.2.2.2.2.2.2.2.2.2.2.2 → Q o.1 o.2.1 o.2.2.1 o.2.2.2.1 o.2.2.2.2.1 o.2.2.2.2.2.1 o.2.2.2.2.2.2.1 o.2.2.2.2.2.2.2.1 o.2.2.2.2.2.2.2.2.1 o.2.2.2.2.2.2.2.2.2.1 o.2.2.2.2.2.2.2.2.2.2.1 o.2.2.2.2.2.2.2.2.2.2.2.1 o.2.2.2.2.2.2.2.2.2.2.2.2.1 o.2.2.2.2.2.2.2.2.2.2.2.2.2.1 o.2.2.2.2.2.2.2.2.2.2.2.2.2.2.1 o.2.2.2.2.2.2.2.2.2.2.2.2.2.2.2) : wp_X9_doActs Q p0 x_acts tr_fruits tr_standings tr_x tr_height tr_worth tr_ripe tr_foot tr_fork tr_settings no_apron no_basket no_ground no_bruised no_ladder no_helper no_today no_clock ru_length ru_given ru_stack ru_program pa_undoable pa_free pa_cells ro_size ro_numbers := by
  rw [F_X9_doActs] at hq
  refine du_X4_note h ?_
  intro h
  obtain ⟨n1, h⟩ := h
  exact ⟨n1, dl_X9_doActs_21 n1 31 _ _ _ _ _ _ _ _ _ _ _ _ _ _ _ _ _ _ _ _ (by decide) (by decide) h (fun b0 b1 b2 b3 b4 b5 b6 b7 b8 b9 b10 b11 b12 b13 b14 b15 e9 h9 => hq (b0, b1, b2, b3, b4, b5, b6, b7, b8, b9, b10, b11, b12, b13, b14, b15) e9 h9)⟩
theorem du_X9_doActs {P Q : Int32 → Int32 → Int32 → Int32 → Int32 → Int32 → Int32 → Int32 → Int32 → (Nat → Int32) → (Nat → Int32) → Int32 → Int32 → (Nat → Int32) → Int32 → (Nat → Int32) → Prop} {p0 : Int32} {x_acts : Nat → Int32} {tr_fruits : Int32} {tr_standings : Int32} {tr_x : Nat → Int32} {tr_height : Nat → Int32} {tr_worth : Nat → Int32} {tr_ripe : Nat → Int32} {tr_foot : Nat → Int32} {tr_fork : Nat → Int32} {tr_settings : Nat → Int32} {no_apron : Int32} {no_basket : Int32} {no_ground : Int32} {no_bruised : Int32} {no_ladder : Int32} {no_helper : Int32} {no_today : Int32} {no_clock : Int32} {ru_length : Int32} {ru_given : Nat → Int32} {ru_stack : Nat → Int32} {ru_program : Nat → Int32} {pa_undoable : Int32} {pa_free : Int32} {pa_cells : Nat → Int32} {ro_size : Int32} {ro_numbers : Nat → Int32} (h : wp_X9_doActs P p0 x_acts tr_fruits tr_standings tr_x tr_height tr_worth tr_ripe tr_foot tr_fork tr_settings no_apron no_basket no_ground no_bruised no_ladder no_helper no_today no_clock ru_length ru_given ru_stack ru_program pa_undoable pa_free pa_cells ro_size ro_numbers) (hq : P (F_X9_doActs p0 x_acts tr_fruits tr_standings tr_x tr_height tr_worth tr_ripe tr_foot tr_fork tr_settings no_apron no_basket no_ground no_bruised no_ladder no_helper no_today no_clock ru_length ru_given ru_stack ru_program pa_undoable pa_free pa_cells ro_size ro_numbers).1 (F_X9_doActs p0 x_acts tr_fruits tr_standings tr_x tr_height tr_worth tr_ripe tr_foot tr_fork tr_settings no_apron no_basket no_ground no_bruised no_ladder no_helper no_today no_clock ru_length ru_given ru_stack ru_program pa_undoable pa_free pa_cells ro_size ro_numbers).2.1 (F_X9_doActs p0 x_acts tr_fruits tr_standings tr_x tr_height tr_worth tr_ripe tr_foot tr_fork tr_settings no_apron no_basket no_ground no_bruised no_ladder no_helper no_today no_clock ru_length ru_given ru_stack ru_program pa_undoable pa_free pa_cells ro_size ro_numbers).2.2.1 (F_X9_doActs p0 x_acts tr_fruits tr_standings tr_x tr_height tr_worth tr_ripe tr_foot tr_fork tr_settings no_apron no_basket no_ground no_bruised no_ladder no_helper no_today no_clock ru_length ru_given ru_stack ru_program pa_undoable pa_free pa_cells ro_size ro_numbers).2.2.2.1 (F_X9_doActs p0 x_acts tr_fruits tr_standings tr_x tr_height tr_worth tr_ripe tr_foot tr_fork tr_settings no_apron no_basket no_ground no_bruised no_ladder no_helper no_today no_clock ru_length ru_given ru_stack ru_program pa_undoable pa_free pa_cells ro_size ro_numbers).2.2.2.2.1 (F_X9_doActs p0 x_acts tr_fruits tr_standings tr_x tr_height tr_worth tr_ripe tr_foot tr_fork tr_settings no_apron no_basket no_ground no_bruised no_ladder no_helper no_today no_clock ru_length ru_given ru_stack ru_program pa_undoable pa_free pa_cells ro_size ro_numbers).2.2.2.2.2.1 (F_X9_doActs p0 x_acts tr_fruits tr_standings tr_x tr_height tr_worth tr_ripe tr_foot tr_fork tr_settings no_apron no_basket no_ground no_bruised no_ladder no_helper no_today no_clock ru_length ru_given ru_stack ru_program pa_undoable pa_free pa_cells ro_size ro_numbers).2.2.2.2.2.2.1 (F_X9_doActs p0 x_acts tr_fruits tr_standings tr_x tr_height tr_worth tr_ripe tr_foot tr_fork tr_settings no_apron no_basket no_ground no_bruised no_ladder no_helper no_today no_clock ru_length ru_given ru_stack ru_program pa_undoable pa_free pa_cells ro_size ro_numbers).2.2.2.2.2.2.2.1 (F_X9_doActs p0 x_acts tr_fruits tr_standings tr_x tr_height tr_worth tr_ripe tr_foot tr_fork tr_settings no_apron no_basket no_ground no_bruised no_ladder no_helper no_today no_clock ru_length ru_given ru_stack ru_program pa_undoable pa_free pa_cells ro_size ro_numbers).2.2.2.2.2.2.2.2.1 (F_X9_doActs p0 x_acts tr_fruits tr_standings tr_x tr_height tr_worth tr_ripe tr_foot tr_fork tr_settings no_apron no_basket no_ground no_bruised no_ladder no_helper no_today no_clock ru_length ru_given ru_stack ru_program pa_undoable pa_free pa_cells ro_size ro_numbers).2.2.2.2.2.2.2.2.2.1 (F_X9_doActs p0 x_acts tr_fruits tr_standings tr_x tr_height tr_worth tr_ripe tr_foot tr_fork tr_settings no_apron no_basket no_ground no_bruised no_ladder no_helper no_today no_clock ru_length ru_given ru_stack ru_program pa_undoable pa_free pa_cells ro_size ro_numbers).2.2.2.2.2.2.2.2.2.2.1 (F_X9_doActs p0 x_acts tr_fruits tr_standings tr_x tr_height tr_worth tr_ripe tr_foot tr_fork tr_settings no_apron no_basket no_ground no_bruised no_ladder no_helper no_today no_clock ru_length ru_given ru_stack ru_program pa_undoable pa_free pa_cells ro_size ro_numbers).2.2.2.2.2.2.2.2.2.2.2.1 (F_X9_doActs p0 x_acts tr_fruits tr_standings tr_x tr_height tr_worth tr_ripe tr_foot tr_fork tr_settings no_apron no_basket no_ground no_bruised no_ladder no_helper no_today no_clock ru_length ru_given ru_stack ru_program pa_undoable pa_free pa_cells ro_size ro_numbers).2.2.2.2.2.2.2.2.2.2.2.2.1 (F_X9_doActs p0 x_acts tr_fruits tr_standings tr_x tr_height tr_worth tr_ripe tr_foot tr_fork tr_settings no_apron no_basket no_ground no_bruised no_ladder no_helper no_today no_clock ru_length ru_given ru_stack ru_program pa_undoable pa_free pa_cells ro_size ro_numbers).2.2.2.2.2.2.2.2.2.2.2.2.2.1 (F_X9_doActs p0 x_acts tr_fruits tr_standings tr_x tr_height tr_worth tr_ripe tr_foot tr_fork tr_settings no_apron no_basket no_ground no_bruised no_ladder no_helper no_today no_clock ru_length ru_given ru_stack ru_program pa_undoable pa_free pa_cells ro_size ro_numbers).2.2.2.2.2.2.2.2.2.2.2.2.2.2.1 (F_X9_doActs p0 x_acts tr_fruits tr_standings tr_x tr_height tr_worth tr_ripe tr_foot tr_fork tr_settings no_apron no_basket no_ground no_bruised no_ladder no_helper no_today no_clock ru_length ru_given ru_stack ru_program pa_undoable pa_free pa_cells ro_size ro_numbers).2.2.2.2.2.2.2.2.2.2.2.2.2.2.2 → Q (F_X9_doActs p0 x_acts tr_fruits tr_standings tr_x tr_height tr_worth tr_ripe tr_foot tr_fork tr_settings no_apron no_basket no_ground no_bruised no_ladder no_helper no_today no_clock ru_length ru_given ru_stack ru_program pa_undoable pa_free pa_cells ro_size ro_numbers).1 (F_X9_doActs p0 x_acts tr_fruits tr_standings tr_x tr_height tr_worth tr_ripe tr_foot tr_fork tr_settings no_apron no_basket no_ground no_bruised no_ladder no_helper no_today no_clock ru_length ru_given ru_stack ru_program pa_undoable pa_free pa_cells ro_size ro_numbers).2.1 (F_X9_doActs p0 x_acts tr_fruits tr_standings tr_x tr_height tr_worth tr_ripe tr_foot tr_fork tr_settings no_apron no_basket no_ground no_bruised no_ladder no_helper no_today no_clock ru_length ru_given ru_stack ru_program pa_undoable pa_free pa_cells ro_size ro_numbers).2.2.1 (F_X9_doActs p0 x_acts tr_fruits tr_standings tr_x tr_height tr_worth tr_ripe tr_foot tr_fork tr_settings no_apron no_basket no_ground no_bruised no_ladder no_helper no_today no_clock ru_length ru_given ru_stack ru_program pa_undoable pa_free pa_cells ro_size ro_numbers).2.2.2.1 (F_X9_doActs p0 x_acts tr_fruits tr_standings tr_x tr_height tr_worth tr_ripe tr_foot tr_fork tr_settings no_apron no_basket no_ground no_bruised no_ladder no_helper no_today no_clock ru_length ru_given ru_stack ru_program pa_undoable pa_free pa_cells ro_size ro_numbers).2.2.2.2.1 (F_X9_doActs p0 x_acts tr_fruits tr_standings tr_x tr_height tr_worth tr_ripe tr_foot tr_fork tr_settings no_apron no_basket no_ground no_bruised no_ladder no_helper no_today no_clock ru_length ru_given ru_stack ru_program pa_undoable pa_free pa_cells ro_size ro_numbers).2.2.2.2.2.1 (F_X9_doActs p0 x_acts tr_fruits tr_standings tr_x tr_height tr_worth tr_ripe tr_foot tr_fork tr_settings no_apron no_basket no_ground no_bruised no_ladder no_helper no_today no_clock ru_length ru_given ru_stack ru_program pa_undoable pa_free pa_cells ro_size ro_numbers).2.2.2.2.2.2.1 (F_X9_doActs p0 x_acts tr_fruits tr_standings tr_x tr_height tr_worth tr_ripe tr_foot tr_fork tr_settings no_apron no_basket no_ground no_bruised no_ladder no_helper no_today no_clock ru_length ru_given ru_stack ru_program pa_undoable pa_free pa_cells ro_size ro_numbers).2.2.2.2.2.2.2.1 (F_X9_doActs p0 x_acts tr_fruits tr_standings tr_x tr_height tr_worth tr_ripe tr_foot tr_fork tr_settings no_apron no_basket no_ground no_bruised no_ladder no_helper no_today no_clock ru_length ru_given ru_stack ru_program pa_undoable pa_free pa_cells ro_size ro_numbers).2.2.2.2.2.2.2.2.1 (F_X9_doActs p0 x_acts tr_fruits tr_standings tr_x tr_height tr_worth tr_ripe tr_foot tr_fork tr_settings no_apron no_basket no_ground no_bruised no_ladder no_helper no_today no_clock ru_length ru_given ru_stack ru_program pa_undoable pa_free pa_cells ro_size ro_numbers).2.2.2.2.2.2.2.2.2.1 (F_X9_doActs p0 x_acts tr_fruits tr_standings tr_x tr_height tr_worth tr_ripe tr_foot tr_fork tr_settings no_apron no_basket no_ground no_bruised no_ladder no_helper no_today no_clock ru_length ru_given ru_stack ru_program pa_undoable pa_free pa_cells ro_size ro_numbers).2.2.2.2.2.2.2.2.2.2.1 (F_X9_doActs p0 x_acts tr_fruits tr_standings tr_x tr_height tr_worth tr_ripe tr_foot tr_fork tr_settings no_apron no_basket no_ground no_bruised no_ladder no_helper no_today no_clock ru_length ru_given ru_stack ru_program pa_undoable pa_free pa_cells ro_size ro_numbers).2.2.2.2.2.2.2.2.2.2.2.1 (F_X9_doActs p0 x_acts tr_fruits tr_standings tr_x tr_height tr_worth tr_ripe tr_foot tr_fork tr_settings no_apron no_basket no_ground no_bruised no_ladder no_helper no_today no_clock ru_length ru_given ru_stack ru_program pa_undoable pa_free pa_cells ro_size ro_numbers).2.2.2.2.2.2.2.2.2.2.2.2.1 (F_X9_doActs p0 x_acts tr_fruits tr_standings tr_x tr_height tr_worth tr_ripe tr_foot tr_fork tr_settings no_apron no_basket no_ground no_bruised no_ladder no_helper no_today no_clock ru_length ru_given ru_stack ru_program pa_undoable pa_free pa_cells ro_size ro_numbers).2.2.2.2.2.2.2.2.2.2.2.2.2.1 (F_X9_doActs p0 x_acts tr_fruits tr_standings tr_x tr_height tr_worth tr_ripe tr_foot tr_fork tr_settings no_apron no_basket no_ground no_bruised no_ladder no_helper no_today no_clock ru_length ru_given ru_stack ru_program pa_undoable pa_free pa_cells ro_size ro_numbers).2.2.2.2.2.2.2.2.2.2.2.2.2.2.1 (F_X9_doActs p0 x_acts tr_fruits tr_standings tr_x tr_height tr_worth tr_ripe tr_foot tr_fork tr_settings no_apron no_basket no_ground no_bruised no_ladder no_helper no_today no_clock ru_length ru_given ru_stack ru_program pa_undoable pa_free pa_cells ro_size ro_numbers).2.2.2.2.2.2.2.2.2.2.2.2.2.2.2) : wp_X9_doActs Q p0 x_acts tr_fruits tr_standings tr_x tr_height tr_worth tr_ripe tr_foot tr_fork tr_settings no_apron no_basket no_ground no_bruised no_ladder no_helper no_today no_clock ru_length ru_given ru_stack ru_program pa_undoable pa_free pa_cells ro_size ro_numbers := dt_X9_doActs h (fun o eo => by rw [eo]; exact hq)
theorem dw_X9_doActs {Q : Int32 → Int32 → Int32 → Int32 → Int32 → Int32 → Int32 → Int32 → Int32 → (Nat → Int32) → (Nat → Int32) → Int32 → Int32 → (Nat → Int32) → Int32 → (Nat → Int32) → Prop} {p0 : Int32} {x_acts : Nat → Int32} {tr_fruits : Int32} {tr_standings : Int32} {tr_x : Nat → Int32} {tr_height : Nat → Int32} {tr_worth : Nat → Int32} {tr_ripe : Nat → Int32} {tr_foot : Nat → Int32} {tr_fork : Nat → Int32} {tr_settings : Nat → Int32} {no_apron : Int32} {no_basket : Int32} {no_ground : Int32} {no_bruised : Int32} {no_ladder : Int32} {no_helper : Int32} {no_today : Int32} {no_clock : Int32} {ru_length : Int32} {ru_given : Nat → Int32} {ru_stack : Nat → Int32} {ru_program : Nat → Int32} {pa_undoable : Int32} {pa_free : Int32} {pa_cells : Nat → Int32} {ro_size : Int32} {ro_numbers : Nat → Int32} (h : wp_X9_doActs (fun o0 o1 o2 o3 o4 o5 o6 o7 o8 o9 o10 o11 o12 o13 o14 o15 => (o0, o1, o2, o3, o4, o5, o6, o7, o8, o9, o10, o11, o12, o13, o14, o15) = F_X9_doActs p0 x_acts tr_fruits tr_standings tr_x tr_height tr_worth tr_ripe tr_foot tr_fork tr_settings no_apron no_basket no_ground no_bruised no_ladder no_helper no_today no_clock ru_length ru_given ru_stack ru_program pa_undoable pa_free pa_cells ro_size ro_numbers → Q o0 o1 o2 o3 o4 o5 o6 o7 o8 o9 o10 o11 o12 o13 o14 o15) p0 x_acts tr_fruits tr_standings tr_x tr_height tr_worth tr_ripe tr_foot tr_fork tr_settings no_apron no_basket no_ground no_bruised no_ladder no_helper no_today no_clock ru_length ru_given ru_stack ru_program pa_undoable pa_free pa_cells ro_size ro_numbers) : wp_X9_doActs Q p0 x_acts tr_fruits tr_standings tr_x tr_height tr_worth tr_ripe tr_foot tr_fork tr_settings no_apron no_basket no_ground no_bruised no_ladder no_helper no_today no_clock ru_length ru_given ru_stack ru_program pa_undoable pa_free pa_cells ro_size ro_numbers := dt_X9_doActs h (fun o eo hp => hp eo)
noncomputable def j_X9_readAct_143 {R : Type} (po : Int32 → Int32 → R) (tx_stop : Int32) (tx_signs : Nat → Int32) (x1 : Int32) (x2 : Int32) (tx_place : Int32) : R := if x2 = 0 then (po (x1 * 100) (F_X8_skip tx_place tx_stop)) else (if (F_X8_readNumber x2 (F_X8_skip tx_place tx_stop) tx_stop tx_signs).1 = (-1) then (po (-1) ((F_X8_readNumber x2 (F_X8_skip tx_place tx_stop) tx_stop tx_signs).2)) else (po ((x1 * 100) + (F_X8_readNumber x2 (F_X8_skip tx_place tx_stop) tx_stop tx_signs).1) ((F_X8_readNumber x2 (F_X8_skip tx_place tx_stop) tx_stop tx_signs).2)))
noncomputable def j_X9_readAct_138 {R : Type} (po : Int32 → Int32 → R) (tx_stop : Int32) (tx_signs : Nat → Int32) (x1 : Int32) (x2 : Int32) (tx_place : Int32) : R := j_X9_readAct_143 po tx_stop tx_signs x1 x2 tx_place
noncomputable def j_X9_readAct_133 {R : Type} (po : Int32 → Int32 → R) (tx_stop : Int32) (tx_signs : Nat → Int32) (x1 : Int32) (tx_place : Int32) : R := j_X9_readAct_143 po tx_stop tx_signs x1 2 tx_place
noncomputable def F_X9_readAct (tx_place : Int32) (tx_stop : Int32) (tx_signs : Nat → Int32) : Int32 × Int32 := if (F_X8_here tx_place tx_stop tx_signs) = 97 then (j_X9_readAct_138 (fun o0 o1 => (o0, o1)) tx_stop tx_signs (F_X8_here tx_place tx_stop tx_signs) 0 tx_place) else (if (F_X8_here tx_place tx_stop tx_signs) = 100 then (j_X9_readAct_138 (fun o0 o1 => (o0, o1)) tx_stop tx_signs (F_X8_here tx_place tx_stop tx_signs) 0 tx_place) else (if (F_X8_here tx_place tx_stop tx_signs) = 104 then (j_X9_readAct_133 (fun o0 o1 => (o0, o1)) tx_stop tx_signs (F_X8_here tx_place tx_stop tx_signs) tx_place) else (if (F_X8_here tx_place tx_stop tx_signs) = 107 then (j_X9_readAct_138 (fun o0 o1 => (o0, o1)) tx_stop tx_signs (F_X8_here tx_place tx_stop tx_signs) 0 tx_place) else (if (F_X8_here tx_place tx_stop tx_signs) = 109 then (j_X9_readAct_143 (fun o0 o1 => (o0, o1)) tx_stop tx_signs (F_X8_here tx_place tx_stop tx_signs) 1 tx_place) else (if (F_X8_here tx_place tx_stop tx_signs) = 111 then (j_X9_readAct_138 (fun o0 o1 => (o0, o1)) tx_stop tx_signs (F_X8_here tx_place tx_stop tx_signs) 0 tx_place) else (if (F_X8_here tx_place tx_stop tx_signs) = 112 then (j_X9_readAct_133 (fun o0 o1 => (o0, o1)) tx_stop tx_signs (F_X8_here tx_place tx_stop tx_signs) tx_place) else (if (F_X8_here tx_place tx_stop tx_signs) = 122 then (j_X9_readAct_138 (fun o0 o1 => (o0, o1)) tx_stop tx_signs (F_X8_here tx_place tx_stop tx_signs) 0 tx_place) else ((-1), tx_place))))))))
set_option maxHeartbeats 200000 in
set_option maxRecDepth 10000 in
theorem dt_X9_readAct {P Q : Int32 → Int32 → Prop} {tx_place : Int32} {tx_stop : Int32} {tx_signs : Nat → Int32} (h : wp_X9_readAct P tx_place tx_stop tx_signs) (hq : ∀ o : Int32 × Int32, o = F_X9_readAct tx_place tx_stop tx_signs → P o.1 o.2 → Q o.1 o.2) : wp_X9_readAct Q tx_place tx_stop tx_signs := by
  rw [F_X9_readAct] at hq
  refine du_X8_here h ?_
  intro h
  refine (And.intro (fun c1 => ?_) (And.intro (fun c2 => ?_) (And.intro (fun c3 => ?_) (And.intro (fun c4 => ?_) (And.intro (fun c5 => ?_) (And.intro (fun c6 => ?_) (And.intro (fun c7 => ?_) (And.intro (fun c8 => ?_) (fun c1 c2 c3 c4 c5 c6 c7 c8 => ?_)))))))))
  · have h := And.left h c1
    rw [if_pos c1] at hq
    rw [j_X9_readAct_138] at hq
    unfold ws_X9_readAct_138 at h ⊢
    rw [j_X9_readAct_143] at hq
    unfold ws_X9_readAct_143 at h ⊢
    refine du_X8_skip h ?_
    intro h
    refine And.intro (fun c9 => ?_) (fun c9 => ?_)
    · have h := And.left h c9
      rw [if_neg c9] at hq
      refine du_X8_readNumber (by decide) h ?_
      intro h
      refine And.intro (fun c10 => ?_) (fun c10 => ?_)
      · have h := And.left h c10
        rw [if_neg c10] at hq
        refine ae ?_
        have h := h _ rfl
        have q9 := hq _ rfl
        dsimp only at q9
        exact q9 h
      · have h := And.right h c10
        rw [if_pos c10] at hq
        have q9 := hq _ rfl
        dsimp only at q9
        exact q9 h
    · have h := And.right h c9
      rw [if_pos c9] at hq
      have q9 := hq _ rfl
      dsimp only at q9
      exact q9 h
  · have h := And.left (And.right h) c2
    rw [if_neg (fun e9 => absurd (e9.symm.trans c2) (by decide)), if_pos c2] at hq
    rw [j_X9_readAct_138] at hq
    unfold ws_X9_readAct_138 at h ⊢
    rw [j_X9_readAct_143] at hq
    unfold ws_X9_readAct_143 at h ⊢
    refine du_X8_skip h ?_
    intro h
    refine And.intro (fun c11 => ?_) (fun c11 => ?_)
    · have h := And.left h c11
      rw [if_neg c11] at hq
      refine du_X8_readNumber (by decide) h ?_
      intro h
      refine And.intro (fun c12 => ?_) (fun c12 => ?_)
      · have h := And.left h c12
        rw [if_neg c12] at hq
        refine ae ?_
        have h := h _ rfl
        have q9 := hq _ rfl
        dsimp only at q9
        exact q9 h
      · have h := And.right h c12
        rw [if_pos c12] at hq
        have q9 := hq _ rfl
        dsimp only at q9
        exact q9 h
    · have h := And.right h c11
      rw [if_pos c11] at hq
      have q9 := hq _ rfl
      dsimp only at q9
      exact q9 h
  · have h := And.left (And.right (And.right h)) c3
    rw [if_neg (fun e9 => absurd (e9.symm.trans c3) (by decide)), if_neg (fun e9 => absurd (e9.symm.trans c3) (by decide)), if_pos c3] at hq
    rw [j_X9_readAct_133] at hq
    unfold ws_X9_readAct_133 at h ⊢
    rw [j_X9_readAct_143] at hq
    unfold ws_X9_readAct_143 at h ⊢
    refine du_X8_skip h ?_
    intro h
    refine And.intro (fun c13 => ?_) (fun c13 => ?_)
    · have h := And.left h c13
      rw [if_neg c13] at hq
      refine du_X8_readNumber (by decide) h ?_
      intro h
      refine And.intro (fun c14 => ?_) (fun c14 => ?_)
      · have h := And.left h c14
        rw [if_neg c14] at hq
        refine ae ?_
        have h := h _ rfl
        have q9 := hq _ rfl
        dsimp only at q9
        exact q9 h
      · have h := And.right h c14
        rw [if_pos c14] at hq
        have q9 := hq _ rfl
        dsimp only at q9
        exact q9 h
    · have h := And.right h c13
      rw [if_pos c13] at hq
      have q9 := hq _ rfl
      dsimp only at q9
      exact q9 h
  · have h := And.left (And.right (And.right (And.right h))) c4
    rw [if_neg (fun e9 => absurd (e9.symm.trans c4) (by decide)), if_neg (fun e9 => absurd (e9.symm.trans c4) (by decide)), if_neg (fun e9 => absurd (e9.symm.trans c4) (by decide)), if_pos c4] at hq
    rw [j_X9_readAct_138] at hq
    unfold ws_X9_readAct_138 at h ⊢
    rw [j_X9_readAct_143] at hq
    unfold ws_X9_readAct_143 at h ⊢
    refine du_X8_skip h ?_
    intro h
    refine And.intro (fun c15 => ?_) (fun c15 => ?_)
    · have h := And.left h c15
      rw [if_neg c15] at hq
      refine du_X8_readNumber (by decide) h ?_
      intro h
      refine And.intro (fun c16 => ?_) (fun c16 => ?_)
      · have h := And.left h c16
        rw [if_neg c16] at hq
        refine ae ?_
        have h := h _ rfl
        have q9 := hq _ rfl
        dsimp only at q9
        exact q9 h
      · have h := And.right h c16
        rw [if_pos c16] at hq
        have q9 := hq _ rfl
        dsimp only at q9
        exact q9 h
    · have h := And.right h c15
      rw [if_pos c15] at hq
      have q9 := hq _ rfl
      dsimp only at q9
      exact q9 h
  · have h := And.left (And.right (And.right (And.right (And.right h)))) c5
    rw [if_neg (fun e9 => absurd (e9.symm.trans c5) (by decide)), if_neg (fun e9 => absurd (e9.symm.trans c5) (by decide)), if_neg (fun e9 => absurd (e9.symm.trans c5) (by decide)), if_neg (fun e9 => absurd (e9.symm.trans c5) (by decide)), if_pos c5] at hq
    rw [j_X9_readAct_143] at hq
    unfold ws_X9_readAct_143 at h ⊢
    refine du_X8_skip h ?_
    intro h
    refine And.intro (fun c17 => ?_) (fun c17 => ?_)
    · have h := And.left h c17
      rw [if_neg c17] at hq
      refine du_X8_readNumber (by decide) h ?_
      intro h
      refine And.intro (fun c18 => ?_) (fun c18 => ?_)
      · have h := And.left h c18
        rw [if_neg c18] at hq
        refine ae ?_
        have h := h _ rfl
        have q9 := hq _ rfl
        dsimp only at q9
        exact q9 h
      · have h := And.right h c18
        rw [if_pos c18] at hq
        have q9 := hq _ rfl
        dsimp only at q9
        exact q9 h
    · have h := And.right h c17
      rw [if_pos c17] at hq
      have q9 := hq _ rfl
      dsimp only at q9
      exact q9 h
  · have h := And.left (And.right (And.right (And.right (And.right (And.right h))))) c6
    rw [if_neg (fun e9 => absurd (e9.symm.trans c6) (by decide)), if_neg (fun e9 => absurd (e9.symm.trans c6) (by decide)), if_neg (fun e9 => absurd (e9.symm.trans c6) (by decide)), if_neg (fun e9 => absurd (e9.symm.trans c6) (by decide)), if_neg (fun e9 => absurd (e9.symm.trans c6) (by decide)), if_pos c6] at hq
    rw [j_X9_readAct_138] at hq
    unfold ws_X9_readAct_138 at h ⊢
    rw [j_X9_readAct_143] at hq
    unfold ws_X9_readAct_143 at h ⊢
    refine du_X8_skip h ?_
    intro h
    refine And.intro (fun c19 => ?_) (fun c19 => ?_)
    · have h := And.left h c19
      rw [if_neg c19] at hq
      refine du_X8_readNumber (by decide) h ?_
      intro h
      refine And.intro (fun c20 => ?_) (fun c20 => ?_)
      · have h := And.left h c20
        rw [if_neg c20] at hq
        refine ae ?_
        have h := h _ rfl
        have q9 := hq _ rfl
        dsimp only at q9
        exact q9 h
      · have h := And.right h c20
        rw [if_pos c20] at hq
        have q9 := hq _ rfl
        dsimp only at q9
        exact q9 h
    · have h := And.right h c19
      rw [if_pos c19] at hq
      have q9 := hq _ rfl
      dsimp only at q9
      exact q9 h
  · have h := And.left (And.right (And.right (And.right (And.right (And.right (And.right h)))))) c7
    rw [if_neg (fun e9 => absurd (e9.symm.trans c7) (by decide)), if_neg (fun e9 => absurd (e9.symm.trans c7) (by decide)), if_neg (fun e9 => absurd (e9.symm.trans c7) (by decide)), if_neg (fun e9 => absurd (e9.symm.trans c7) (by decide)), if_neg (fun e9 => absurd (e9.symm.trans c7) (by decide)), if_neg (fun e9 => absurd (e9.symm.trans c7) (by decide)), if_pos c7] at hq
    rw [j_X9_readAct_133] at hq
    unfold ws_X9_readAct_133 at h ⊢
    rw [j_X9_readAct_143] at hq
    unfold ws_X9_readAct_143 at h ⊢
    refine du_X8_skip h ?_
    intro h
    refine And.intro (fun c21 => ?_) (fun c21 => ?_)
    · have h := And.left h c21
      rw [if_neg c21] at hq
      refine du_X8_readNumber (by decide) h ?_
      intro h
      refine And.intro (fun c22 => ?_) (fun c22 => ?_)
      · have h := And.left h c22
        rw [if_neg c22] at hq
        refine ae ?_
        have h := h _ rfl
        have q9 := hq _ rfl
        dsimp only at q9
        exact q9 h
      · have h := And.right h c22
        rw [if_pos c22] at hq
        have q9 := hq _ rfl
        dsimp only at q9
        exact q9 h
    · have h := And.right h c21
      rw [if_pos c21] at hq
      have q9 := hq _ rfl
      dsimp only at q9
      exact q9 h
  · have h := And.left (And.right (And.right (And.right (And.right (And.right (And.right (And.right h))))))) c8
    rw [if_neg (fun e9 => absurd (e9.symm.trans c8) (by decide)), if_neg (fun e9 => absurd (e9.symm.trans c8) (by decide)), if_neg (fun e9 => absurd (e9.symm.trans c8) (by decide)), if_neg (fun e9 => absurd (e9.symm.trans c8) (by decide)), if_neg (fun e9 => absurd (e9.symm.trans c8) (by decide)), if_neg (fun e9 => absurd (e9.symm.trans c8) (by decide)), if_neg (fun e9 => absurd (e9.symm.trans c8) (by decide)), if_pos c8] at hq
    rw [j_X9_readAct_138] at hq
    unfold ws_X9_readAct_138 at h ⊢
    rw [j_X9_readAct_143] at hq
    unfold ws_X9_readAct_143 at h ⊢
    refine du_X8_skip h ?_
    intro h
    refine And.intro (fun c23 => ?_) (fun c23 => ?_)
    · have h := And.left h c23
      rw [if_neg c23] at hq
      refine du_X8_readNumber (by decide) h ?_
      intro h
      refine And.intro (fun c24 => ?_) (fun c24 => ?_)
      · have h := And.left h c24
        rw [if_neg c24] at hq
        refine ae ?_
        have h := h _ rfl
        have q9 := hq _ rfl
        dsimp only at q9
        exact q9 h
      · have h := And.right h c24
        rw [if_pos c24] at hq
        have q9 := hq _ rfl
        dsimp only at q9
        exact q9 h
    · have h := And.right h c23
      rw [if_pos c23] at hq
      have q9 := hq _ rfl
      dsimp only at q9
      exact q9 h
  · have h := And.right (And.right (And.right (And.right (And.right (And.right (And.right (And.right h))))))) c1 c2 c3 c4 c5 c6 c7 c8
    rw [if_neg c1, if_neg c2, if_neg c3, if_neg c4, if_neg c5, if_neg c6, if_neg c7, if_neg c8] at hq
    have q9 := hq _ rfl
    dsimp only at q9
    exact q9 h
theorem du_X9_readAct {P Q : Int32 → Int32 → Prop} {tx_place : Int32} {tx_stop : Int32} {tx_signs : Nat → Int32} (h : wp_X9_readAct P tx_place tx_stop tx_signs) (hq : P (F_X9_readAct tx_place tx_stop tx_signs).1 (F_X9_readAct tx_place tx_stop tx_signs).2 → Q (F_X9_readAct tx_place tx_stop tx_signs).1 (F_X9_readAct tx_place tx_stop tx_signs).2) : wp_X9_readAct Q tx_place tx_stop tx_signs := dt_X9_readAct h (fun o eo => by rw [eo]; exact hq)
theorem dw_X9_readAct {Q : Int32 → Int32 → Prop} {tx_place : Int32} {tx_stop : Int32} {tx_signs : Nat → Int32} (h : wp_X9_readAct (fun o0 o1 => (o0, o1) = F_X9_readAct tx_place tx_stop tx_signs → Q o0 o1) tx_place tx_stop tx_signs) : wp_X9_readAct Q tx_place tx_stop tx_signs := dt_X9_readAct h (fun o eo hp => hp eo)
noncomputable def fs_X9_readActs_2 {R : Type} (po : Int32 → (Nat → Int32) → Int32 → R) (tx_stop : Int32) (tx_signs : Nat → Int32) (nx : Int32 → (Nat → Int32) → Int32 → R) (x1 : Int32) (x_acts : Nat → Int32) (tx_place : Int32) : R := if 30 ≤ x1 then (po (-1) x_acts tx_place) else (if (F_X9_readAct tx_place tx_stop tx_signs).1 = (-1) then (po (-1) x_acts ((F_X9_readAct tx_place tx_stop tx_signs).2)) else (if (F_X8_take 59 (F_X9_readAct tx_place tx_stop tx_signs).2 tx_stop tx_signs).1 = 0 then (po (x1 + 1) (upd x_acts x1.toNatClampNeg (F_X9_readAct tx_place tx_stop tx_signs).1) ((F_X8_take 59 (F_X9_readAct tx_place tx_stop tx_signs).2 tx_stop tx_signs).2)) else (nx (x1 + 1) (upd x_acts x1.toNatClampNeg (F_X9_readAct tx_place tx_stop tx_signs).1) ((F_X8_take 59 (F_X9_readAct tx_place tx_stop tx_signs).2 tx_stop tx_signs).2))))
set_option maxHeartbeats 200000 in
set_option maxRecDepth 10000 in
theorem dl_X9_readActs_2 {P Q : Int32 → (Nat → Int32) → Int32 → Prop} {tx_stop : Int32} {tx_signs : Nat → Int32} {R : Type} {po : Int32 → (Nat → Int32) → Int32 → R} {d : Int32 → (Nat → Int32) → Int32 → R} : ∀ (n m : Nat) (x1 : Int32) (x_acts : Nat → Int32) (tx_place : Int32), 0 ≤ Int32.toInt x1 ∧ Int32.toInt x1 ≤ 30 → 30 - Int32.toInt x1 < (m : Int) → wb_X9_readActs_2 P tx_stop tx_signs n x1 x_acts tx_place → (∀ (b0 : Int32) (b1 : Nat → Int32) (b2 : Int32), po b0 b1 b2 = flp (fs_X9_readActs_2 po tx_stop tx_signs) d m x1 x_acts tx_place → P b0 b1 b2 → Q b0 b1 b2) → wb_X9_readActs_2 Q tx_stop tx_signs n x1 x_acts tx_place := by
  have l1 : Int32.toInt (1 : Int32) = 1 := by decide
  have l30 : Int32.toInt (30 : Int32) = 30 := by decide
  intro n
  induction n with
  | zero => intro m x1 x_acts tx_place hv hm h hq; exact False.elim h
  | succ n ih =>
    intro m x1 x_acts tx_place hv hm h hq
    cases m with
    | zero => exfalso; omega
    | succ m =>
      rw [flp_s, fs_X9_readActs_2] at hq
      have h : ws_X9_readActs_2 P (wb_X9_readActs_2 P tx_stop tx_signs n) tx_stop tx_signs x1 x_acts tx_place := h
      show ws_X9_readActs_2 Q (wb_X9_readActs_2 Q tx_stop tx_signs n) tx_stop tx_signs x1 x_acts tx_place
      unfold ws_X9_readActs_2 at h ⊢
      refine And.intro (fun c1 => ?_) (fun c1 => ?_)
      · have h := And.left h c1
        rw [if_pos c1] at hq
        have dc1 := (fa_le _ _).mp c1
        exact hq _ _ _ rfl h
      · have h := And.right h c1
        rw [if_neg c1] at hq
        have dc1 := mt (fa_le _ _).mpr c1
        refine du_X9_readAct h ?_
        intro h
        refine And.intro (fun c2 => ?_) (fun c2 => ?_)
        · have h := And.left h c2
          rw [if_neg c2] at hq
          have dc2 := mt (fa_eq _ _).mpr c2
          refine And.intro (And.left h) ?_
          have h := And.right h
          refine du_X8_take h ?_
          intro h
          refine And.intro (fun c3 => ?_) (fun c3 => ?_)
          · have h := And.left h c3
            rw [if_neg c3] at hq
            have dc3 := mt (fa_eq _ _).mpr c3
            refine ae ?_
            have h := h _ rfl
            have f9 := ta_add x1 1 (by omega)
            exact ih m _ _ _ (by omega) (by omega) h hq
          · have h := And.right h c3
            rw [if_pos c3] at hq
            have dc3 := (fa_eq _ _).mp c3
            exact hq _ _ _ rfl h
        · have h := And.right h c2
          rw [if_pos c2] at hq
          have dc2 := (fa_eq _ _).mp c2
          exact hq _ _ _ rfl h
noncomputable def F_X9_readActs (x_acts : Nat → Int32) (tx_place : Int32) (tx_stop : Int32) (tx_signs : Nat → Int32) : Int32 × (Nat → Int32) × Int32 := flp (fs_X9_readActs_2 (fun o0 o1 o2 => (o0, o1, o2)) tx_stop tx_signs) (fun _ _ _ => (0, (fun _ => 0), 0)) 31 0 x_acts tx_place
set_option maxHeartbeats 200000 in
set_option maxRecDepth 10000 in
theorem dt_X9_readActs {P Q : Int32 → (Nat → Int32) → Int32 → Prop} {x_acts : Nat → Int32} {tx_place : Int32} {tx_stop : Int32} {tx_signs : Nat → Int32} (h : wp_X9_readActs P x_acts tx_place tx_stop tx_signs) (hq : ∀ o : Int32 × (Nat → Int32) × Int32, o = F_X9_readActs x_acts tx_place tx_stop tx_signs → P o.1 o.2.1 o.2.2 → Q o.1 o.2.1 o.2.2) : wp_X9_readActs Q x_acts tx_place tx_stop tx_signs := by
  rw [F_X9_readActs] at hq
  obtain ⟨n1, h⟩ := h
  exact ⟨n1, dl_X9_readActs_2 n1 31 _ _ _ (by decide) (by decide) h (fun b0 b1 b2 e9 h9 => hq (b0, b1, b2) e9 h9)⟩
theorem du_X9_readActs {P Q : Int32 → (Nat → Int32) → Int32 → Prop} {x_acts : Nat → Int32} {tx_place : Int32} {tx_stop : Int32} {tx_signs : Nat → Int32} (h : wp_X9_readActs P x_acts tx_place tx_stop tx_signs) (hq : P (F_X9_readActs x_acts tx_place tx_stop tx_signs).1 (F_X9_readActs x_acts tx_place tx_stop tx_signs).2.1 (F_X9_readActs x_acts tx_place tx_stop tx_signs).2.2 → Q (F_X9_readActs x_acts tx_place tx_stop tx_signs).1 (F_X9_readActs x_acts tx_place tx_stop tx_signs).2.1 (F_X9_readActs x_acts tx_place tx_stop tx_signs).2.2) : wp_X9_readActs Q x_acts tx_place tx_stop tx_signs := dt_X9_readActs h (fun o eo => by rw [eo]; exact hq)
theorem dw_X9_readActs {Q : Int32 → (Nat → Int32) → Int32 → Prop} {x_acts : Nat → Int32} {tx_place : Int32} {tx_stop : Int32} {tx_signs : Nat → Int32} (h : wp_X9_readActs (fun o0 o1 o2 => (o0, o1, o2) = F_X9_readActs x_acts tx_place tx_stop tx_signs → Q o0 o1 o2) x_acts tx_place tx_stop tx_signs) : wp_X9_readActs Q x_acts tx_place tx_stop tx_signs := dt_X9_readActs h (fun o eo hp => hp eo)
noncomputable def j_X9_day_68 {R : Type} (po : Int32 → (Nat → Int32) → Int32 → Int32 → Int32 → Int32 → Int32 → Int32 → Int32 → Int32 → Int32 → Int32 → Int32 → (Nat → Int32) → (Nat → Int32) → Int32 → Int32 → (Nat → Int32) → Int32 → (Nat → Int32) → R) (tx_signs : Nat → Int32) (tr_fruits : Int32) (tr_standings : Int32) (tr_x : Nat → Int32) (tr_height : Nat → Int32) (tr_worth : Nat → Int32) (tr_ripe : Nat → Int32) (tr_foot : Nat → Int32) (tr_fork : Nat → Int32) (tr_settings : Nat → Int32) (ru_length : Int32) (ru_program : Nat → Int32) (k0 : Int32) (x_acts : Nat → Int32) (tx_length : Int32) (tx_place : Int32) (tx_stop : Int32) (no_apron : Int32) (no_basket : Int32) (no_ground : Int32) (no_bruised : Int32) (no_ladder : Int32) (no_helper : Int32) (no_today : Int32) (no_clock : Int32) (ru_given : Nat → Int32) (ru_stack : Nat → Int32) (pa_undoable : Int32) (pa_free : Int32) (pa_cells : Nat → Int32) (ro_size : Int32) (ro_numbers : Nat → Int32) : R := po k0 x_acts (F_X8_clear tx_length) tx_place tx_stop no_apron no_basket no_ground no_bruised no_ladder no_helper no_today no_clock ru_given ru_stack pa_undoable pa_free pa_cells ro_size ro_numbers
noncomputable def j_X9_day_48 {R : Type} (po : Int32 → (Nat → Int32) → Int32 → Int32 → Int32 → Int32 → Int32 → Int32 → Int32 → Int32 → Int32 → Int32 → Int32 → (Nat → Int32) → (Nat → Int32) → Int32 → Int32 → (Nat → Int32) → Int32 → (Nat → Int32) → R) (tx_signs : Nat → Int32) (tr_fruits : Int32) (tr_standings : Int32) (tr_x : Nat → Int32) (tr_height : Nat → Int32) (tr_worth : Nat → Int32) (tr_ripe : Nat → Int32) (tr_foot : Nat → Int32) (tr_fork : Nat → Int32) (tr_settings : Nat → Int32) (ru_length : Int32) (ru_program : Nat → Int32) (x1 : Int32) (k0 : Int32) (x_acts : Nat → Int32) (tx_length : Int32) (tx_place : Int32) (tx_stop : Int32) (no_apron : Int32) (no_basket : Int32) (no_ground : Int32) (no_bruised : Int32) (no_ladder : Int32) (no_helper : Int32) (no_today : Int32) (no_clock : Int32) (ru_given : Nat → Int32) (ru_stack : Nat → Int32) (pa_undoable : Int32) (pa_free : Int32) (pa_cells : Nat → Int32) (ro_size : Int32) (ro_numbers : Nat → Int32) : R := if k0 = 0 then (j_X9_day_68 po tx_signs tr_fruits tr_standings tr_x tr_height tr_worth tr_ripe tr_foot tr_fork tr_settings ru_length ru_program (F_X8_wrong tx_place) x_acts tx_length tx_place tx_stop no_apron no_basket no_ground no_bruised no_ladder no_helper no_today no_clock ru_given ru_stack pa_undoable pa_free pa_cells ro_size ro_numbers) else (j_X9_day_68 po tx_signs tr_fruits tr_standings tr_x tr_height tr_worth tr_ripe tr_foot tr_fork tr_settings ru_length ru_program ((F_X9_doActs x1 x_acts tr_fruits tr_standings tr_x tr_height tr_worth tr_ripe tr_foot tr_fork tr_settings no_apron no_basket no_ground no_bruised no_ladder no_helper no_today no_clock ru_length ru_given ru_stack ru_program pa_undoable pa_free pa_cells ro_size ro_numbers).1) x_acts tx_length tx_place tx_stop ((F_X9_doActs x1 x_acts tr_fruits tr_standings tr_x tr_height tr_worth tr_ripe tr_foot tr_fork tr_settings no_apron no_basket no_ground no_bruised no_ladder no_helper no_today no_clock ru_length ru_given ru_stack ru_program pa_undoable pa_free pa_cells ro_size ro_numbers).2.1) ((F_X9_doActs x1 x_acts tr_fruits tr_standings tr_x tr_height tr_worth tr_ripe tr_foot tr_fork tr_settings no_apron no_basket no_ground no_bruised no_ladder no_helper no_today no_clock ru_length ru_given ru_stack ru_program pa_undoable pa_free pa_cells ro_size ro_numbers).2.2.1) ((F_X9_doActs x1 x_acts tr_fruits tr_standings tr_x tr_height tr_worth tr_ripe tr_foot tr_fork tr_settings no_apron no_basket no_ground no_bruised no_ladder no_helper no_today no_clock ru_length ru_given ru_stack ru_program pa_undoable pa_free pa_cells ro_size ro_numbers).2.2.2.1) ((F_X9_doActs x1 x_acts tr_fruits tr_standings tr_x tr_height tr_worth tr_ripe tr_foot tr_fork tr_settings no_apron no_basket no_ground no_bruised no_ladder no_helper no_today no_clock ru_length ru_given ru_stack ru_program pa_undoable pa_free pa_cells ro_size ro_numbers).2.2.2.2.1) ((F_X9_doActs x1 x_acts tr_fruits tr_standings tr_x tr_height tr_worth tr_ripe tr_foot tr_fork tr_settings no_apron no_basket no_ground no_bruised no_ladder no_helper no_today no_clock ru_length ru_given ru_stack ru_program pa_undoable pa_free pa_cells ro_size ro_numbers).2.2.2.2.2.1) ((F_X9_doActs x1 x_acts tr_fruits tr_standings tr_x tr_height tr_worth tr_ripe tr_foot tr_fork tr_settings no_apron no_basket no_ground no_bruised no_ladder no_helper no_today no_clock ru_length ru_given ru_stack ru_program pa_undoable pa_free pa_cells ro_size ro_numbers).2.2.2.2.2.2.1) ((F_X9_doActs x1 x_acts tr_fruits tr_standings tr_x tr_height tr_worth tr_ripe tr_foot tr_fork tr_settings no_apron no_basket no_ground no_bruised no_ladder no_helper no_today no_clock ru_length ru_given ru_stack ru_program pa_undoable pa_free pa_cells ro_size ro_numbers).2.2.2.2.2.2.2.1) ((F_X9_doActs x1 x_acts tr_fruits tr_standings tr_x tr_height tr_worth tr_ripe tr_foot tr_fork tr_settings no_apron no_basket no_ground no_bruised no_ladder no_helper no_today no_clock ru_length ru_given ru_stack ru_program pa_undoable pa_free pa_cells ro_size ro_numbers).2.2.2.2.2.2.2.2.1) ((F_X9_doActs x1 x_acts tr_fruits tr_standings tr_x tr_height tr_worth tr_ripe tr_foot tr_fork tr_settings no_apron no_basket no_ground no_bruised no_ladder no_helper no_today no_clock ru_length ru_given ru_stack ru_program pa_undoable pa_free pa_cells ro_size ro_numbers).2.2.2.2.2.2.2.2.2.1) ((F_X9_doActs x1 x_acts tr_fruits tr_standings tr_x tr_height tr_worth tr_ripe tr_foot tr_fork tr_settings no_apron no_basket no_ground no_bruised no_ladder no_helper no_today no_clock ru_length ru_given ru_stack ru_program pa_undoable pa_free pa_cells ro_size ro_numbers).2.2.2.2.2.2.2.2.2.2.1) ((F_X9_doActs x1 x_acts tr_fruits tr_standings tr_x tr_height tr_worth tr_ripe tr_foot tr_fork tr_settings no_apron no_basket no_ground no_bruised no_ladder no_helper no_today no_clock ru_length ru_given ru_stack ru_program pa_undoable pa_free pa_cells ro_size ro_numbers).2.2.2.2.2.2.2.2.2.2.2.1) ((F_X9_doActs x1 x_acts tr_fruits tr_standings tr_x tr_height tr_worth tr_ripe tr_foot tr_fork tr_settings no_apron no_basket no_ground no_bruised no_ladder no_helper no_today no_clock ru_length ru_given ru_stack ru_program pa_undoable pa_free pa_cells ro_size ro_numbers).2.2.2.2.2.2.2.2.2.2.2.2.1) ((F_X9_doActs x1 x_acts tr_fruits tr_standings tr_x tr_height tr_worth tr_ripe tr_foot tr_fork tr_settings no_apron no_basket no_ground no_bruised no_ladder no_helper no_today no_clock ru_length ru_given ru_stack ru_program pa_undoable pa_free pa_cells ro_size ro_numbers).2.2.2.2.2.2.2.2.2.2.2.2.2.1) ((F_X9_doActs x1 x_acts tr_fruits tr_standings tr_x tr_height tr_worth tr_ripe tr_foot tr_fork tr_settings no_apron no_basket no_ground no_bruised no_ladder no_helper no_today no_clock ru_length ru_given ru_stack ru_program pa_undoable pa_free pa_cells ro_size ro_numbers).2.2.2.2.2.2.2.2.2.2.2.2.2.2.1) ((F_X9_doActs x1 x_acts tr_fruits tr_standings tr_x tr_height tr_worth tr_ripe tr_foot tr_fork tr_settings no_apron no_basket no_ground no_bruised no_ladder no_helper no_today no_clock ru_length ru_given ru_stack ru_program pa_undoable pa_free pa_cells ro_size ro_numbers).2.2.2.2.2.2.2.2.2.2.2.2.2.2.2))
noncomputable def j_X9_day_47 {R : Type} (po : Int32 → (Nat → Int32) → Int32 → Int32 → Int32 → Int32 → Int32 → Int32 → Int32 → Int32 → Int32 → Int32 → Int32 → (Nat → Int32) → (Nat → Int32) → Int32 → Int32 → (Nat → Int32) → Int32 → (Nat → Int32) → R) (tx_signs : Nat → Int32) (tr_fruits : Int32) (tr_standings : Int32) (tr_x : Nat → Int32) (tr_height : Nat → Int32) (tr_worth : Nat → Int32) (tr_ripe : Nat → Int32) (tr_foot : Nat → Int32) (tr_fork : Nat → Int32) (tr_settings : Nat → Int32) (ru_length : Int32) (ru_program : Nat → Int32) (x1 : Int32) (x_acts : Nat → Int32) (tx_length : Int32) (tx_place : Int32) (tx_stop : Int32) (no_apron : Int32) (no_basket : Int32) (no_ground : Int32) (no_bruised : Int32) (no_ladder : Int32) (no_helper : Int32) (no_today : Int32) (no_clock : Int32) (ru_given : Nat → Int32) (ru_stack : Nat → Int32) (pa_undoable : Int32) (pa_free : Int32) (pa_cells : Nat → Int32) (ro_size : Int32) (ro_numbers : Nat → Int32) : R := j_X9_day_48 po tx_signs tr_fruits tr_standings tr_x tr_height tr_worth tr_ripe tr_foot tr_fork tr_settings ru_length ru_program x1 0 x_acts tx_length tx_place tx_stop no_apron no_basket no_ground no_bruised no_ladder no_helper no_today no_clock ru_given ru_stack pa_undoable pa_free pa_cells ro_size ro_numbers
noncomputable def j_X9_day_27 {R : Type} (po : Int32 → (Nat → Int32) → Int32 → Int32 → Int32 → Int32 → Int32 → Int32 → Int32 → Int32 → Int32 → Int32 → Int32 → (Nat → Int32) → (Nat → Int32) → Int32 → Int32 → (Nat → Int32) → Int32 → (Nat → Int32) → R) (tx_signs : Nat → Int32) (tr_fruits : Int32) (tr_standings : Int32) (tr_x : Nat → Int32) (tr_height : Nat → Int32) (tr_worth : Nat → Int32) (tr_ripe : Nat → Int32) (tr_foot : Nat → Int32) (tr_fork : Nat → Int32) (tr_settings : Nat → Int32) (ru_length : Int32) (ru_program : Nat → Int32) (k0 : Int32) (x_acts : Nat → Int32) (tx_length : Int32) (tx_place : Int32) (tx_stop : Int32) (no_apron : Int32) (no_basket : Int32) (no_ground : Int32) (no_bruised : Int32) (no_ladder : Int32) (no_helper : Int32) (no_today : Int32) (no_clock : Int32) (ru_given : Nat → Int32) (ru_stack : Nat → Int32) (pa_undoable : Int32) (pa_free : Int32) (pa_cells : Nat → Int32) (ro_size : Int32) (ro_numbers : Nat → Int32) : R := if k0 = (-1) then (j_X9_day_47 po tx_signs tr_fruits tr_standings tr_x tr_height tr_worth tr_ripe tr_foot tr_fork tr_settings ru_length ru_program k0 x_acts tx_length tx_place tx_stop no_apron no_basket no_ground no_bruised no_ladder no_helper no_today no_clock ru_given ru_stack pa_undoable pa_free pa_cells ro_size ro_numbers) else (if (F_X8_isThrough tx_length tx_place) = 0 then (j_X9_day_47 po tx_signs tr_fruits tr_standings tr_x tr_height tr_worth tr_ripe tr_foot tr_fork tr_settings ru_length ru_program k0 x_acts tx_length tx_place tx_stop no_apron no_basket no_ground no_bruised no_ladder no_helper no_today no_clock ru_given ru_stack pa_undoable pa_free pa_cells ro_size ro_numbers) else (j_X9_day_48 po tx_signs tr_fruits tr_standings tr_x tr_height tr_worth tr_ripe tr_foot tr_fork tr_settings ru_length ru_program k0 1 x_acts tx_length tx_place tx_stop no_apron no_basket no_ground no_bruised no_ladder no_helper no_today no_clock ru_given ru_stack pa_undoable pa_free pa_cells ro_size ro_numbers))
noncomputable def F_X9_day (x_acts : Nat → Int32) (tx_length : Int32) (tx_place : Int32) (tx_stop : Int32) (tx_signs : Nat → Int32) (tr_fruits : Int32) (tr_standings : Int32) (tr_x : Nat → Int32) (tr_height : Nat → Int32) (tr_worth : Nat → Int32) (tr_ripe : Nat → Int32) (tr_foot : Nat → Int32) (tr_fork : Nat → Int32) (tr_settings : Nat → Int32) (no_apron : Int32) (no_basket : Int32) (no_ground : Int32) (no_bruised : Int32) (no_ladder : Int32) (no_helper : Int32) (no_today : Int32) (no_clock : Int32) (ru_length : Int32) (ru_given : Nat → Int32) (ru_stack : Nat → Int32) (ru_program : Nat → Int32) (pa_undoable : Int32) (pa_free : Int32) (pa_cells : Nat → Int32) (ro_size : Int32) (ro_numbers : Nat → Int32) : Int32 × (Nat → Int32) × Int32 × Int32 × Int32 × Int32 × Int32 × Int32 × Int32 × Int32 × Int32 × Int32 × Int32 × (Nat → Int32) × (Nat → Int32) × Int32 × Int32 × (Nat → Int32) × Int32 × (Nat → Int32) := if tx_length = 0 then (j_X9_day_27 (fun o0 o1 o2 o3 o4 o5 o6 o7 o8 o9 o10 o11 o12 o13 o14 o15 o16 o17 o18 o19 => (o0, o1, o2, o3, o4, o5, o6, o7, o8, o9, o10, o11, o12, o13, o14, o15, o16, o17, o18, o19)) tx_signs tr_fruits tr_standings tr_x tr_height tr_worth tr_ripe tr_foot tr_fork tr_settings ru_length ru_program 0 x_acts tx_length ((F_X8_open 60 tx_length tx_place tx_stop).1) ((F_X8_open 60 tx_length tx_place tx_stop).2) no_apron no_basket no_ground no_bruised no_ladder no_helper no_today no_clock ru_given ru_stack pa_undoable pa_free pa_cells ro_size ro_numbers) else (j_X9_day_27 (fun o0 o1 o2 o3 o4 o5 o6 o7 o8 o9 o10 o11 o12 o13 o14 o15 o16 o17 o18 o19 => (o0, o1, o2, o3, o4, o5, o6, o7, o8, o9, o10, o11, o12, o13, o14, o15, o16, o17, o18, o19)) tx_signs tr_fruits tr_standings tr_x tr_height tr_worth tr_ripe tr_foot tr_fork tr_settings ru_length ru_program ((F_X9_readActs x_acts (F_X8_open 60 tx_length tx_place tx_stop).1 (F_X8_open 60 tx_length tx_place tx_stop).2 tx_signs).1) ((F_X9_readActs x_acts (F_X8_open 60 tx_length tx_place tx_stop).1 (F_X8_open 60 tx_length tx_place tx_stop).2 tx_signs).2.1) tx_length ((F_X9_readActs x_acts (F_X8_open 60 tx_length tx_place tx_stop).1 (F_X8_open 60 tx_length tx_place tx_stop).2 tx_signs).2.2) ((F_X8_open 60 tx_length tx_place tx_stop).2) no_apron no_basket no_ground no_bruised no_ladder no_helper no_today no_clock ru_given ru_stack pa_undoable pa_free pa_cells ro_size ro_numbers)
set_option maxHeartbeats 200000 in
set_option maxRecDepth 10000 in
theorem dt_X9_day {P Q : Int32 → (Nat → Int32) → Int32 → Int32 → Int32 → Int32 → Int32 → Int32 → Int32 → Int32 → Int32 → Int32 → Int32 → (Nat → Int32) → (Nat → Int32) → Int32 → Int32 → (Nat → Int32) → Int32 → (Nat → Int32) → Prop} {x_acts : Nat → Int32} {tx_length : Int32} {tx_place : Int32} {tx_stop : Int32} {tx_signs : Nat → Int32} {tr_fruits : Int32} {tr_standings : Int32} {tr_x : Nat → Int32} {tr_height : Nat → Int32} {tr_worth : Nat → Int32} {tr_ripe : Nat → Int32} {tr_foot : Nat → Int32} {tr_fork : Nat → Int32} {tr_settings : Nat → Int32} {no_apron : Int32} {no_basket : Int32} {no_ground : Int32} {no_bruised : Int32} {no_ladder : Int32} {no_helper : Int32} {no_today : Int32} {no_clock : Int32} {ru_length : Int32} {ru_given : Nat → Int32} {ru_stack : Nat → Int32} {ru_program : Nat → Int32} {pa_undoable : Int32} {pa_free : Int32} {pa_cells : Nat → Int32} {ro_size : Int32} {ro_numbers : Nat → Int32} (h : wp_X9_day P x_acts tx_length tx_place tx_stop tx_signs tr_fruits tr_standings tr_x tr_height tr_worth tr_ripe tr_foot tr_fork tr_settings no_apron no_basket no_ground no_bruised no_ladder no_helper no_today no_clock ru_length ru_given ru_stack ru_program pa_undoable pa_free pa_cells ro_size ro_numbers) (hq : ∀ o : Int32 × (Nat → Int32) × Int32 × Int32 × Int32 × Int32 × Int32 × Int32 × Int32 × Int32 × Int32 × Int32 × Int32 × (Nat → Int32) × (Nat → Int32) × Int32 × Int32 × (Nat → Int32) × Int32 × (Nat → Int32), o = F_X9_day x_acts tx_length tx_place tx_stop tx_signs tr_fruits tr_standings tr_x tr_height tr_worth tr_ripe tr_foot tr_fork tr_settings no_apron no_basket no_ground no_bruised no_ladder no_helper no_today no_clock ru_length ru_given ru_stack ru_program pa_undoable pa_free pa_cells ro_size ro_numbers → P o.1 o.2.1 o.2.2.1 o.2.2.2.1 o.2.2.2.2.1 o.2.2.2.2.2.1 o.2.2.2.2.2.2.1 o.2.2.2.2.2.2.2.1 o.2.2.2.2.2.2.2.2.1 o.2.2.2.2.2.2.2.2.2.1 o.2.2.2.2.2.2.2.2.2.2.1 o.2.2.2.2.2.2.2.2.2.2.2.1 o.2.2.2.2.2.2.2.2.2.2.2.2.1 o.2.2.2.2.2.2.2.2.2.2.2.2.2.1 o.2.2.2.2.2.2.2.2.2.2.2.2.2.2.1 o.2.2.2.2.2.2.2.2.2.2.2.2.2.2.2.1 o.2.2.2.2.2.2.2.2.2.2.2.2.2.2.2.2.1 o.2.2.2.2.2.2.2.2.2.2.2.2.2.2.2.2.2.1 o.2.2.2.2.2.2.2.2.2.2.2.2.2.2.2.2.2.2.1 o.2.2.2.2.2.2.2.2.2.2.2.2.2.2.2.2.2.2.2 → Q o.1 o.2.1 o.2.2.1 o.2.2.2.1 o.2.2.2.2.1 o.2.2.2.2.2.1 o.2.2.2.2.2.2.1 o.2.2.2.2.2.2.2.1 o.2.2.2.2.2.2.2.2.1 o.2.2.2.2.2.2.2.2.2.1 o.2.2.2.2.2.2.2.2.2.2.1 o.2.2.2.2.2.2.2.2.2.2.2.1 o.2.2.2.2.2.2.2.2.2.2.2.2.1 o.2.2.2.2.2.2.2.2.2.2.2.2.2.1 o.2.2.2.2.2.2.2.2.2.2.2.2.2.2.1 o.2.2.2.2.2.2.2.2.2.2.2.2.2.2.2.1 o.2.2.2.2.2.2.2.2.2.2.2.2.2.2.2.2.1 o.2.2.2.2.2.2.2.2.2.2.2.2.2.2.2.2.2.1 o.2.2.2.2.2.2.2.2.2.2.2.2.2.2.2.2.2.2.1 o.2.2.2.2.2.2.2.2.2.2.2.2.2.2.2.2.2.2.2) : wp_X9_day Q x_acts tx_length tx_place tx_stop tx_signs tr_fruits tr_standings tr_x tr_height tr_worth tr_ripe tr_foot tr_fork tr_settings no_apron no_basket no_ground no_bruised no_ladder no_helper no_today no_clock ru_length ru_given ru_stack ru_program pa_undoable pa_free pa_cells ro_size ro_numbers := by
  rw [F_X9_day] at hq
  refine du_X8_open h ?_
  intro h
  refine And.intro (fun c1 => ?_) (fun c1 => ?_)
  · have h := And.left h c1
    rw [if_neg c1] at hq
    refine du_X9_readActs h ?_
    intro h
    rw [j_X9_day_27] at hq
    unfold ws_X9_day_27 at h ⊢
    refine And.intro (fun c2 => ?_) (fun c2 => ?_)
    · have h := And.left h c2
      rw [if_pos c2] at hq
      rw [j_X9_day_47] at hq
      unfold ws_X9_day_47 at h ⊢
      rw [j_X9_day_48] at hq
      unfold ws_X9_day_48 at h ⊢
      refine And.intro (fun c3 => ?_) (fun c3 => ?_)
      · have h := And.left h c3
        rw [if_pos c3] at hq
        refine du_X8_wrong h ?_
        intro h
        rw [j_X9_day_68] at hq
        unfold ws_X9_day_68 at h ⊢
        refine du_X8_clear h ?_
        intro h
        have q9 := hq _ rfl
        dsimp only at q9
        exact q9 h
      · have h := And.right h c3
        rw [if_neg c3] at hq
        refine du_X9_doActs h ?_
        intro h
        rw [j_X9_day_68] at hq
        unfold ws_X9_day_68 at h ⊢
        refine du_X8_clear h ?_
        intro h
        have q9 := hq _ rfl
        dsimp only at q9
        exact q9 h
    · have h := And.right h c2
      rw [if_neg c2] at hq
      refine du_X8_isThrough h ?_
      intro h
      refine And.intro (fun c4 => ?_) (fun c4 => ?_)
      · have h := And.left h c4
        rw [if_pos c4] at hq
        rw [j_X9_day_47] at hq
        unfold ws_X9_day_47 at h ⊢
        rw [j_X9_day_48] at hq
        unfold ws_X9_day_48 at h ⊢
        refine And.intro (fun c5 => ?_) (fun c5 => ?_)
        · have h := And.left h c5
          rw [if_pos c5] at hq
          refine du_X8_wrong h ?_
          intro h
          rw [j_X9_day_68] at hq
          unfold ws_X9_day_68 at h ⊢
          refine du_X8_clear h ?_
          intro h
          have q9 := hq _ rfl
          dsimp only at q9
          exact q9 h
        · have h := And.right h c5
          rw [if_neg c5] at hq
          refine du_X9_doActs h ?_
          intro h
          rw [j_X9_day_68] at hq
          unfold ws_X9_day_68 at h ⊢
          refine du_X8_clear h ?_
          intro h
          have q9 := hq _ rfl
          dsimp only at q9
          exact q9 h
      · have h := And.right h c4
        rw [if_neg c4] at hq
        rw [j_X9_day_48] at hq
        unfold ws_X9_day_48 at h ⊢
        refine And.intro (fun c6 => ?_) (fun c6 => ?_)
        · have h := And.left h c6
          rw [if_pos c6] at hq
          refine du_X8_wrong h ?_
          intro h
          rw [j_X9_day_68] at hq
          unfold ws_X9_day_68 at h ⊢
          refine du_X8_clear h ?_
          intro h
          have q9 := hq _ rfl
          dsimp only at q9
          exact q9 h
        · have h := And.right h c6
          rw [if_neg c6] at hq
          refine du_X9_doActs h ?_
          intro h
          rw [j_X9_day_68] at hq
          unfold ws_X9_day_68 at h ⊢
          refine du_X8_clear h ?_
          intro h
          have q9 := hq _ rfl
          dsimp only at q9
          exact q9 h
  · have h := And.right h c1
    rw [if_pos c1] at hq
    rw [j_X9_day_27] at hq
    unfold ws_X9_day_27 at h ⊢
    refine And.intro (fun c7 => ?_) (fun c7 => ?_)
    · have h := And.left h c7
      rw [if_pos c7] at hq
      rw [j_X9_day_47] at hq
      unfold ws_X9_day_47 at h ⊢
      rw [j_X9_day_48] at hq
      unfold ws_X9_day_48 at h ⊢
      refine And.intro (fun c8 => ?_) (fun c8 => ?_)
      · have h := And.left h c8
        rw [if_pos c8] at hq
        refine du_X8_wrong h ?_
        intro h
        rw [j_X9_day_68] at hq
        unfold ws_X9_day_68 at h ⊢
        refine du_X8_clear h ?_
        intro h
        have q9 := hq _ rfl
        dsimp only at q9
        exact q9 h
      · have h := And.right h c8
        rw [if_neg c8] at hq
        refine du_X9_doActs h ?_
        intro h
        rw [j_X9_day_68] at hq
        unfold ws_X9_day_68 at h ⊢
        refine du_X8_clear h ?_
        intro h
        have q9 := hq _ rfl
        dsimp only at q9
        exact q9 h
    · have h := And.right h c7
      rw [if_neg c7] at hq
      refine du_X8_isThrough h ?_
      intro h
      refine And.intro (fun c9 => ?_) (fun c9 => ?_)
      · have h := And.left h c9
        rw [if_pos c9] at hq
        rw [j_X9_day_47] at hq
        unfold ws_X9_day_47 at h ⊢
        rw [j_X9_day_48] at hq
        unfold ws_X9_day_48 at h ⊢
        refine And.intro (fun c10 => ?_) (fun c10 => ?_)
        · have h := And.left h c10
          rw [if_pos c10] at hq
          refine du_X8_wrong h ?_
          intro h
          rw [j_X9_day_68] at hq
          unfold ws_X9_day_68 at h ⊢
          refine du_X8_clear h ?_
          intro h
          have q9 := hq _ rfl
          dsimp only at q9
          exact q9 h
        · have h := And.right h c10
          rw [if_neg c10] at hq
          refine du_X9_doActs h ?_
          intro h
          rw [j_X9_day_68] at hq
          unfold ws_X9_day_68 at h ⊢
          refine du_X8_clear h ?_
          intro h
          have q9 := hq _ rfl
          dsimp only at q9
          exact q9 h
      · have h := And.right h c9
        rw [if_neg c9] at hq
        rw [j_X9_day_48] at hq
        unfold ws_X9_day_48 at h ⊢
        refine And.intro (fun c11 => ?_) (fun c11 => ?_)
        · have h := And.left h c11
          rw [if_pos c11] at hq
          refine du_X8_wrong h ?_
          intro h
          rw [j_X9_day_68] at hq
          unfold ws_X9_day_68 at h ⊢
          refine du_X8_clear h ?_
          intro h
          have q9 := hq _ rfl
          dsimp only at q9
          exact q9 h
        · have h := And.right h c11
          rw [if_neg c11] at hq
          refine du_X9_doActs h ?_
          intro h
          rw [j_X9_day_68] at hq
          unfold ws_X9_day_68 at h ⊢
          refine du_X8_clear h ?_
          intro h
          have q9 := hq _ rfl
          dsimp only at q9
          exact q9 h
theorem du_X9_day {P Q : Int32 → (Nat → Int32) → Int32 → Int32 → Int32 → Int32 → Int32 → Int32 → Int32 → Int32 → Int32 → Int32 → Int32 → (Nat → Int32) → (Nat → Int32) → Int32 → Int32 → (Nat → Int32) → Int32 → (Nat → Int32) → Prop} {x_acts : Nat → Int32} {tx_length : Int32} {tx_place : Int32} {tx_stop : Int32} {tx_signs : Nat → Int32} {tr_fruits : Int32} {tr_standings : Int32} {tr_x : Nat → Int32} {tr_height : Nat → Int32} {tr_worth : Nat → Int32} {tr_ripe : Nat → Int32} {tr_foot : Nat → Int32} {tr_fork : Nat → Int32} {tr_settings : Nat → Int32} {no_apron : Int32} {no_basket : Int32} {no_ground : Int32} {no_bruised : Int32} {no_ladder : Int32} {no_helper : Int32} {no_today : Int32} {no_clock : Int32} {ru_length : Int32} {ru_given : Nat → Int32} {ru_stack : Nat → Int32} {ru_program : Nat → Int32} {pa_undoable : Int32} {pa_free : Int32} {pa_cells : Nat → Int32} {ro_size : Int32} {ro_numbers : Nat → Int32} (h : wp_X9_day P x_acts tx_length tx_place tx_stop tx_signs tr_fruits tr_standings tr_x tr_height tr_worth tr_ripe tr_foot tr_fork tr_settings no_apron no_basket no_ground no_bruised no_ladder no_helper no_today no_clock ru_length ru_given ru_stack ru_program pa_undoable pa_free pa_cells ro_size ro_numbers) (hq : P (F_X9_day x_acts tx_length tx_place tx_stop tx_signs tr_fruits tr_standings tr_x tr_height tr_worth tr_ripe tr_foot tr_fork tr_settings no_apron no_basket no_ground no_bruised no_ladder no_helper no_today no_clock ru_length ru_given ru_stack ru_program pa_undoable pa_free pa_cells ro_size ro_numbers).1 (F_X9_day x_acts tx_length tx_place tx_stop tx_signs tr_fruits tr_standings tr_x tr_height tr_worth tr_ripe tr_foot tr_fork tr_settings no_apron no_basket no_ground no_bruised no_ladder no_helper no_today no_clock ru_length ru_given ru_stack ru_program pa_undoable pa_free pa_cells ro_size ro_numbers).2.1 (F_X9_day x_acts tx_length tx_place tx_stop tx_signs tr_fruits tr_standings tr_x tr_height tr_worth tr_ripe tr_foot tr_fork tr_settings no_apron no_basket no_ground no_bruised no_ladder no_helper no_today no_clock ru_length ru_given ru_stack ru_program pa_undoable pa_free pa_cells ro_size ro_numbers).2.2.1 (F_X9_day x_acts tx_length tx_place tx_stop tx_signs tr_fruits tr_standings tr_x tr_height tr_worth tr_ripe tr_foot tr_fork tr_settings no_apron no_basket no_ground no_bruised no_ladder no_helper no_today no_clock ru_length ru_given ru_stack ru_program pa_undoable pa_free pa_cells ro_size ro_numbers).2.2.2.1 (F_X9_day x_acts tx_length tx_place tx_stop tx_signs tr_fruits tr_standings tr_x tr_height tr_worth tr_ripe tr_foot tr_fork tr_settings no_apron no_basket no_ground no_bruised no_ladder no_helper no_today no_clock ru_length ru_given ru_stack ru_program pa_undoable pa_free pa_cells ro_size ro_numbers).2.2.2.2.1 (F_X9_day x_acts tx_length tx_place tx_stop tx_signs tr_fruits tr_standings tr_x tr_height tr_worth tr_ripe tr_foot tr_fork tr_settings no_apron no_basket no_ground no_bruised no_ladder no_helper no_today no_clock ru_length ru_given ru_stack ru_program pa_undoable pa_free pa_cells ro_size ro_numbers).2.2.2.2.2.1 (F_X9_day x_acts tx_length tx_place tx_stop tx_signs tr_fruits tr_standings tr_x tr_height tr_worth tr_ripe tr_foot tr_fork tr_settings no_apron no_basket no_ground no_bruised no_ladder no_helper no_today no_clock ru_length ru_given ru_stack ru_program pa_undoable pa_free pa_cells ro_size ro_numbers).2.2.2.2.2.2.1 (F_X9_day x_acts tx_length tx_place tx_stop tx_signs tr_fruits tr_standings tr_x tr_height tr_worth tr_ripe tr_foot tr_fork tr_settings no_apron no_basket no_ground no_bruised no_ladder no_helper no_today no_clock ru_length ru_given ru_stack ru_program pa_undoable pa_free pa_cells ro_size ro_numbers).2.2.2.2.2.2.2.1 (F_X9_day x_acts tx_length tx_place tx_stop tx_signs tr_fruits tr_standings tr_x tr_height tr_worth tr_ripe tr_foot tr_fork tr_settings no_apron no_basket no_ground no_bruised no_ladder no_helper no_today no_clock ru_length ru_given ru_stack ru_program pa_undoable pa_free pa_cells ro_size ro_numbers).2.2.2.2.2.2.2.2.1 (F_X9_day x_acts tx_length tx_place tx_stop tx_signs tr_fruits tr_standings tr_x tr_height tr_worth tr_ripe tr_foot tr_fork tr_settings no_apron no_basket no_ground no_bruised no_ladder no_helper no_today no_clock ru_length ru_given ru_stack ru_program pa_undoable pa_free pa_cells ro_size ro_numbers).2.2.2.2.2.2.2.2.2.1 (F_X9_day x_acts tx_length tx_place tx_stop tx_signs tr_fruits tr_standings tr_x tr_height tr_worth tr_ripe tr_foot tr_fork tr_settings no_apron no_basket no_ground no_bruised no_ladder no_helper no_today no_clock ru_length ru_given ru_stack ru_program pa_undoable pa_free pa_cells ro_size ro_numbers).2.2.2.2.2.2.2.2.2.2.1 (F_X9_day x_acts tx_length tx_place tx_stop tx_signs tr_fruits tr_standings tr_x tr_height tr_worth tr_ripe tr_foot tr_fork tr_settings no_apron no_basket no_ground no_bruised no_ladder no_helper no_today no_clock ru_length ru_given ru_stack ru_program pa_undoable pa_free pa_cells ro_size ro_numbers).2.2.2.2.2.2.2.2.2.2.2.1 (F_X9_day x_acts tx_length tx_place tx_stop tx_signs tr_fruits tr_standings tr_x tr_height tr_worth tr_ripe tr_foot tr_fork tr_settings no_apron no_basket no_ground no_bruised no_ladder no_helper no_today no_clock ru_length ru_given ru_stack ru_program pa_undoable pa_free pa_cells ro_size ro_numbers).2.2.2.2.2.2.2.2.2.2.2.2.1 (F_X9_day x_acts tx_length tx_place tx_stop tx_signs tr_fruits tr_standings tr_x tr_height tr_worth tr_ripe tr_foot tr_fork tr_settings no_apron no_basket no_ground no_bruised no_ladder no_helper no_today no_clock ru_length ru_given ru_stack ru_program pa_undoable pa_free pa_cells ro_size ro_numbers).2.2.2.2.2.2.2.2.2.2.2.2.2.1 (F_X9_day x_acts tx_length tx_place tx_stop tx_signs tr_fruits tr_standings tr_x tr_height tr_worth tr_ripe tr_foot tr_fork tr_settings no_apron no_basket no_ground no_bruised no_ladder no_helper no_today no_clock ru_length ru_given ru_stack ru_program pa_undoable pa_free pa_cells ro_size ro_numbers).2.2.2.2.2.2.2.2.2.2.2.2.2.2.1 (F_X9_day x_acts tx_length tx_place tx_stop tx_signs tr_fruits tr_standings tr_x tr_height tr_worth tr_ripe tr_foot tr_fork tr_settings no_apron no_basket no_ground no_bruised no_ladder no_helper no_today no_clock ru_length ru_given ru_stack ru_program pa_undoable pa_free pa_cells ro_size ro_numbers).2.2.2.2.2.2.2.2.2.2.2.2.2.2.2.1 (F_X9_day x_acts tx_length tx_place tx_stop tx_signs tr_fruits tr_standings tr_x tr_height tr_worth tr_ripe tr_foot tr_fork tr_settings no_apron no_basket no_ground no_bruised no_ladder no_helper no_today no_clock ru_length ru_given ru_stack ru_program pa_undoable pa_free pa_cells ro_size ro_numbers).2.2.2.2.2.2.2.2.2.2.2.2.2.2.2.2.1 (F_X9_day x_acts tx_length tx_place tx_stop tx_signs tr_fruits tr_standings tr_x tr_height tr_worth tr_ripe tr_foot tr_fork tr_settings no_apron no_basket no_ground no_bruised no_ladder no_helper no_today no_clock ru_length ru_given ru_stack ru_program pa_undoable pa_free pa_cells ro_size ro_numbers).2.2.2.2.2.2.2.2.2.2.2.2.2.2.2.2.2.1 (F_X9_day x_acts tx_length tx_place tx_stop tx_signs tr_fruits tr_standings tr_x tr_height tr_worth tr_ripe tr_foot tr_fork tr_settings no_apron no_basket no_ground no_bruised no_ladder no_helper no_today no_clock ru_length ru_given ru_stack ru_program pa_undoable pa_free pa_cells ro_size ro_numbers).2.2.2.2.2.2.2.2.2.2.2.2.2.2.2.2.2.2.1 (F_X9_day x_acts tx_length tx_place tx_stop tx_signs tr_fruits tr_standings tr_x tr_height tr_worth tr_ripe tr_foot tr_fork tr_settings no_apron no_basket no_ground no_bruised no_ladder no_helper no_today no_clock ru_length ru_given ru_stack ru_program pa_undoable pa_free pa_cells ro_size ro_numbers).2.2.2.2.2.2.2.2.2.2.2.2.2.2.2.2.2.2.2 → Q (F_X9_day x_acts tx_length tx_place tx_stop tx_signs tr_fruits tr_standings tr_x tr_height tr_worth tr_ripe tr_foot tr_fork tr_settings no_apron no_basket no_ground no_bruised no_ladder no_helper no_today no_clock ru_length ru_given ru_stack ru_program pa_undoable pa_free pa_cells ro_size ro_numbers).1 (F_X9_day x_acts tx_length tx_place tx_stop tx_signs tr_fruits tr_standings tr_x tr_height tr_worth tr_ripe tr_foot tr_fork tr_settings no_apron no_basket no_ground no_bruised no_ladder no_helper no_today no_clock ru_length ru_given ru_stack ru_program pa_undoable pa_free pa_cells ro_size ro_numbers).2.1 (F_X9_day x_acts tx_length tx_place tx_stop tx_signs tr_fruits tr_standings tr_x tr_height tr_worth tr_ripe tr_foot tr_fork tr_settings no_apron no_basket no_ground no_bruised no_ladder no_helper no_today no_clock ru_length ru_given ru_stack ru_program pa_undoable pa_free pa_cells ro_size ro_numbers).2.2.1 (F_X9_day x_acts tx_length tx_place tx_stop tx_signs tr_fruits tr_standings tr_x tr_height tr_worth tr_ripe tr_foot tr_fork tr_settings no_apron no_basket no_ground no_bruised no_ladder no_helper no_today no_clock ru_length ru_given ru_stack ru_program pa_undoable pa_free pa_cells ro_size ro_numbers).2.2.2.1 (F_X9_day x_acts tx_length tx_place tx_stop tx_signs tr_fruits tr_standings tr_x tr_height tr_worth tr_ripe tr_foot tr_fork tr_settings no_apron no_basket no_ground no_bruised no_ladder no_helper no_today no_clock ru_length ru_given ru_stack ru_program pa_undoable pa_free pa_cells ro_size ro_numbers).2.2.2.2.1 (F_X9_day x_acts tx_length tx_place tx_stop tx_signs tr_fruits tr_standings tr_x tr_height tr_worth tr_ripe tr_foot tr_fork tr_settings no_apron no_basket no_ground no_bruised no_ladder no_helper no_today no_clock ru_length ru_given ru_stack ru_program pa_undoable pa_free pa_cells ro_size ro_numbers).2.2.2.2.2.1 (F_X9_day x_acts tx_length tx_place tx_stop tx_signs tr_fruits tr_standings tr_x tr_height tr_worth tr_ripe tr_foot tr_fork tr_settings no_apron no_basket no_ground no_bruised no_ladder no_helper no_today no_clock ru_length ru_given ru_stack ru_program pa_undoable pa_free pa_cells ro_size ro_numbers).2.2.2.2.2.2.1 (F_X9_day x_acts tx_length tx_place tx_stop tx_signs tr_fruits tr_standings tr_x tr_height tr_worth tr_ripe tr_foot tr_fork tr_settings no_apron no_basket no_ground no_bruised no_ladder no_helper no_today no_clock ru_length ru_given ru_stack ru_program pa_undoable pa_free pa_cells ro_size ro_numbers).2.2.2.2.2.2.2.1 (F_X9_day x_acts tx_length tx_place tx_stop tx_signs tr_fruits tr_standings tr_x tr_height tr_worth tr_ripe tr_foot tr_fork tr_settings no_apron no_basket no_ground no_bruised no_ladder no_helper no_today no_clock ru_length ru_given ru_stack ru_program pa_undoable pa_free pa_cells ro_size ro_numbers).2.2.2.2.2.2.2.2.1 (F_X9_day x_acts tx_length tx_place tx_stop tx_signs tr_fruits tr_standings tr_x tr_height tr_worth tr_ripe tr_foot tr_fork tr_settings no_apron no_basket no_ground no_bruised no_ladder no_helper no_today no_clock ru_length ru_given ru_stack ru_program pa_undoable pa_free pa_cells ro_size ro_numbers).2.2.2.2.2.2.2.2.2.1 (F_X9_day x_acts tx_length tx_place tx_stop tx_signs tr_fruits tr_standings tr_x tr_height tr_worth tr_ripe tr_foot tr_fork tr_settings no_apron no_basket no_ground no_bruised no_ladder no_helper no_today no_clock ru_length ru_given ru_stack ru_program pa_undoable pa_free pa_cells ro_size ro_numbers).2.2.2.2.2.2.2.2.2.2.1 (F_X9_day x_acts tx_length tx_place tx_stop tx_signs tr_fruits tr_standings tr_x tr_height tr_worth tr_ripe tr_foot tr_fork tr_settings no_apron no_basket no_ground no_bruised no_ladder no_helper no_today no_clock ru_length ru_given ru_stack ru_program pa_undoable pa_free pa_cells ro_size ro_numbers).2.2.2.2.2.2.2.2.2.2.2.1 (F_X9_day x_acts tx_length tx_place tx_stop tx_signs tr_fruits tr_standings tr_x tr_height tr_worth tr_ripe tr_foot tr_fork tr_settings no_apron no_basket no_ground no_bruised no_ladder no_helper no_today no_clock ru_length ru_given ru_stack ru_program pa_undoable pa_free pa_cells ro_size ro_numbers).2.2.2.2.2.2.2.2.2.2.2.2.1 (F_X9_day x_acts tx_length tx_place tx_stop tx_signs tr_fruits tr_standings tr_x tr_height tr_worth tr_ripe tr_foot tr_fork tr_settings no_apron no_basket no_ground no_bruised no_ladder no_helper no_today no_clock ru_length ru_given ru_stack ru_program pa_undoable pa_free pa_cells ro_size ro_numbers).2.2.2.2.2.2.2.2.2.2.2.2.2.1 (F_X9_day x_acts tx_length tx_place tx_stop tx_signs tr_fruits tr_standings tr_x tr_height tr_worth tr_ripe tr_foot tr_fork tr_settings no_apron no_basket no_ground no_bruised no_ladder no_helper no_today no_clock ru_length ru_given ru_stack ru_program pa_undoable pa_free pa_cells ro_size ro_numbers).2.2.2.2.2.2.2.2.2.2.2.2.2.2.1 (F_X9_day x_acts tx_length tx_place tx_stop tx_signs tr_fruits tr_standings tr_x tr_height tr_worth tr_ripe tr_foot tr_fork tr_settings no_apron no_basket no_ground no_bruised no_ladder no_helper no_today no_clock ru_length ru_given ru_stack ru_program pa_undoable pa_free pa_cells ro_size ro_numbers).2.2.2.2.2.2.2.2.2.2.2.2.2.2.2.1 (F_X9_day x_acts tx_length tx_place tx_stop tx_signs tr_fruits tr_standings tr_x tr_height tr_worth tr_ripe tr_foot tr_fork tr_settings no_apron no_basket no_ground no_bruised no_ladder no_helper no_today no_clock ru_length ru_given ru_stack ru_program pa_undoable pa_free pa_cells ro_size ro_numbers).2.2.2.2.2.2.2.2.2.2.2.2.2.2.2.2.1 (F_X9_day x_acts tx_length tx_place tx_stop tx_signs tr_fruits tr_standings tr_x tr_height tr_worth tr_ripe tr_foot tr_fork tr_settings no_apron no_basket no_ground no_bruised no_ladder no_helper no_today no_clock ru_length ru_given ru_stack ru_program pa_undoable pa_free pa_cells ro_size ro_numbers).2.2.2.2.2.2.2.2.2.2.2.2.2.2.2.2.2.1 (F_X9_day x_acts tx_length tx_place tx_stop tx_signs tr_fruits tr_standings tr_x tr_height tr_worth tr_ripe tr_foot tr_fork tr_settings no_apron no_basket no_ground no_bruised no_ladder no_helper no_today no_clock ru_length ru_given ru_stack ru_program pa_undoable pa_free pa_cells ro_size ro_numbers).2.2.2.2.2.2.2.2.2.2.2.2.2.2.2.2.2.2.1 (F_X9_day x_acts tx_length tx_place tx_stop tx_signs tr_fruits tr_standings tr_x tr_height tr_worth tr_ripe tr_foot tr_fork tr_settings no_apron no_basket no_ground no_bruised no_ladder no_helper no_today no_clock ru_length ru_given ru_stack ru_program pa_undoable pa_free pa_cells ro_size ro_numbers).2.2.2.2.2.2.2.2.2.2.2.2.2.2.2.2.2.2.2) : wp_X9_day Q x_acts tx_length tx_place tx_stop tx_signs tr_fruits tr_standings tr_x tr_height tr_worth tr_ripe tr_foot tr_fork tr_settings no_apron no_basket no_ground no_bruised no_ladder no_helper no_today no_clock ru_length ru_given ru_stack ru_program pa_undoable pa_free pa_cells ro_size ro_numbers := dt_X9_day h (fun o eo => by rw [eo]; exact hq)
theorem dw_X9_day {Q : Int32 → (Nat → Int32) → Int32 → Int32 → Int32 → Int32 → Int32 → Int32 → Int32 → Int32 → Int32 → Int32 → Int32 → (Nat → Int32) → (Nat → Int32) → Int32 → Int32 → (Nat → Int32) → Int32 → (Nat → Int32) → Prop} {x_acts : Nat → Int32} {tx_length : Int32} {tx_place : Int32} {tx_stop : Int32} {tx_signs : Nat → Int32} {tr_fruits : Int32} {tr_standings : Int32} {tr_x : Nat → Int32} {tr_height : Nat → Int32} {tr_worth : Nat → Int32} {tr_ripe : Nat → Int32} {tr_foot : Nat → Int32} {tr_fork : Nat → Int32} {tr_settings : Nat → Int32} {no_apron : Int32} {no_basket : Int32} {no_ground : Int32} {no_bruised : Int32} {no_ladder : Int32} {no_helper : Int32} {no_today : Int32} {no_clock : Int32} {ru_length : Int32} {ru_given : Nat → Int32} {ru_stack : Nat → Int32} {ru_program : Nat → Int32} {pa_undoable : Int32} {pa_free : Int32} {pa_cells : Nat → Int32} {ro_size : Int32} {ro_numbers : Nat → Int32} (h : wp_X9_day (fun o0 o1 o2 o3 o4 o5 o6 o7 o8 o9 o10 o11 o12 o13 o14 o15 o16 o17 o18 o19 => (o0, o1, o2, o3, o4, o5, o6, o7, o8, o9, o10, o11, o12, o13, o14, o15, o16, o17, o18, o19) = F_X9_day x_acts tx_length tx_place tx_stop tx_signs tr_fruits tr_standings tr_x tr_height tr_worth tr_ripe tr_foot tr_fork tr_settings no_apron no_basket no_ground no_bruised no_ladder no_helper no_today no_clock ru_length ru_given ru_stack ru_program pa_undoable pa_free pa_cells ro_size ro_numbers → Q o0 o1 o2 o3 o4 o5 o6 o7 o8 o9 o10 o11 o12 o13 o14 o15 o16 o17 o18 o19) x_acts tx_length tx_place tx_stop tx_signs tr_fruits tr_standings tr_x tr_height tr_worth tr_ripe tr_foot tr_fork tr_settings no_apron no_basket no_ground no_bruised no_ladder no_helper no_today no_clock ru_length ru_given ru_stack ru_program pa_undoable pa_free pa_cells ro_size ro_numbers) : wp_X9_day Q x_acts tx_length tx_place tx_stop tx_signs tr_fruits tr_standings tr_x tr_height tr_worth tr_ripe tr_foot tr_fork tr_settings no_apron no_basket no_ground no_bruised no_ladder no_helper no_today no_clock ru_length ru_given ru_stack ru_program pa_undoable pa_free pa_cells ro_size ro_numbers := dt_X9_day h (fun o eo hp => hp eo)
noncomputable def F_X2_read (p1 : Int32) (no_apron : Int32) (no_basket : Int32) (no_ground : Int32) (no_bruised : Int32) (no_ladder : Int32) (no_helper : Int32) (no_today : Int32) (no_clock : Int32) (pa_cells : Nat → Int32) : Int32 × Int32 × Int32 × Int32 × Int32 × Int32 × Int32 × Int32 := if p1 < 0 then (no_apron, no_basket, no_ground, no_bruised, no_ladder, no_helper, no_today, no_clock) else (if p1 ≤ (104 - 8) then ((pa_cells p1.toNatClampNeg), (pa_cells (p1 + 1).toNatClampNeg), (pa_cells (p1 + 2).toNatClampNeg), (pa_cells (p1 + 3).toNatClampNeg), (pa_cells (p1 + 4).toNatClampNeg), (pa_cells (p1 + 5).toNatClampNeg), (pa_cells (p1 + 6).toNatClampNeg), (pa_cells (p1 + 7).toNatClampNeg)) else (no_apron, no_basket, no_ground, no_bruised, no_ladder, no_helper, no_today, no_clock))
set_option maxHeartbeats 200000 in
set_option maxRecDepth 10000 in
theorem dt_X2_read {P Q : Int32 → Int32 → Int32 → Int32 → Int32 → Int32 → Int32 → Int32 → Prop} {p1 : Int32} {no_apron : Int32} {no_basket : Int32} {no_ground : Int32} {no_bruised : Int32} {no_ladder : Int32} {no_helper : Int32} {no_today : Int32} {no_clock : Int32} {pa_cells : Nat → Int32} (h : wp_X2_read P p1 no_apron no_basket no_ground no_bruised no_ladder no_helper no_today no_clock pa_cells) (hq : ∀ o : Int32 × Int32 × Int32 × Int32 × Int32 × Int32 × Int32 × Int32, o = F_X2_read p1 no_apron no_basket no_ground no_bruised no_ladder no_helper no_today no_clock pa_cells → P o.1 o.2.1 o.2.2.1 o.2.2.2.1 o.2.2.2.2.1 o.2.2.2.2.2.1 o.2.2.2.2.2.2.1 o.2.2.2.2.2.2.2 → Q o.1 o.2.1 o.2.2.1 o.2.2.2.1 o.2.2.2.2.1 o.2.2.2.2.2.1 o.2.2.2.2.2.2.1 o.2.2.2.2.2.2.2) : wp_X2_read Q p1 no_apron no_basket no_ground no_bruised no_ladder no_helper no_today no_clock pa_cells := by
  rw [F_X2_read] at hq
  refine And.intro (fun c1 => ?_) (fun c1 => ?_)
  · have h := And.left h c1
    rw [if_pos c1] at hq
    have q9 := hq _ rfl
    dsimp only at q9
    exact q9 h
  · have h := And.right h c1
    rw [if_neg c1] at hq
    refine And.intro (fun c2 => ?_) (fun c2 => ?_)
    · have h := And.left h c2
      rw [if_pos c2] at hq
      refine And.intro (And.left h) ?_
      have h := And.right h
      refine ae ?_
      have h := h _ rfl
      refine ae ?_
      have h := h _ rfl
      refine And.intro (And.left h) ?_
      have h := And.right h
      refine ae ?_
      have h := h _ rfl
      refine ae ?_
      have h := h _ rfl
      refine And.intro (And.left h) ?_
      have h := And.right h
      refine ae ?_
      have h := h _ rfl
      refine ae ?_
      have h := h _ rfl
      refine And.intro (And.left h) ?_
      have h := And.right h
      refine ae ?_
      have h := h _ rfl
      refine ae ?_
      have h := h _ rfl
      refine And.intro (And.left h) ?_
      have h := And.right h
      refine ae ?_
      have h := h _ rfl
      refine ae ?_
      have h := h _ rfl
      refine And.intro (And.left h) ?_
      have h := And.right h
      refine ae ?_
      have h := h _ rfl
      refine ae ?_
      have h := h _ rfl
      refine And.intro (And.left h) ?_
      have h := And.right h
      refine ae ?_
      have h := h _ rfl
      refine ae ?_
      have h := h _ rfl
      refine And.intro (And.left h) ?_
      have h := And.right h
      refine ae ?_
      have h := h _ rfl
      have q9 := hq _ rfl
      dsimp only at q9
      exact q9 h
    · have h := And.right h c2
      rw [if_neg c2] at hq
      have q9 := hq _ rfl
      dsimp only at q9
      exact q9 h
theorem du_X2_read {P Q : Int32 → Int32 → Int32 → Int32 → Int32 → Int32 → Int32 → Int32 → Prop} {p1 : Int32} {no_apron : Int32} {no_basket : Int32} {no_ground : Int32} {no_bruised : Int32} {no_ladder : Int32} {no_helper : Int32} {no_today : Int32} {no_clock : Int32} {pa_cells : Nat → Int32} (h : wp_X2_read P p1 no_apron no_basket no_ground no_bruised no_ladder no_helper no_today no_clock pa_cells) (hq : P (F_X2_read p1 no_apron no_basket no_ground no_bruised no_ladder no_helper no_today no_clock pa_cells).1 (F_X2_read p1 no_apron no_basket no_ground no_bruised no_ladder no_helper no_today no_clock pa_cells).2.1 (F_X2_read p1 no_apron no_basket no_ground no_bruised no_ladder no_helper no_today no_clock pa_cells).2.2.1 (F_X2_read p1 no_apron no_basket no_ground no_bruised no_ladder no_helper no_today no_clock pa_cells).2.2.2.1 (F_X2_read p1 no_apron no_basket no_ground no_bruised no_ladder no_helper no_today no_clock pa_cells).2.2.2.2.1 (F_X2_read p1 no_apron no_basket no_ground no_bruised no_ladder no_helper no_today no_clock pa_cells).2.2.2.2.2.1 (F_X2_read p1 no_apron no_basket no_ground no_bruised no_ladder no_helper no_today no_clock pa_cells).2.2.2.2.2.2.1 (F_X2_read p1 no_apron no_basket no_ground no_bruised no_ladder no_helper no_today no_clock pa_cells).2.2.2.2.2.2.2 → Q (F_X2_read p1 no_apron no_basket no_ground no_bruised no_ladder no_helper no_today no_clock pa_cells).1 (F_X2_read p1 no_apron no_basket no_ground no_bruised no_ladder no_helper no_today no_clock pa_cells).2.1 (F_X2_read p1 no_apron no_basket no_ground no_bruised no_ladder no_helper no_today no_clock pa_cells).2.2.1 (F_X2_read p1 no_apron no_basket no_ground no_bruised no_ladder no_helper no_today no_clock pa_cells).2.2.2.1 (F_X2_read p1 no_apron no_basket no_ground no_bruised no_ladder no_helper no_today no_clock pa_cells).2.2.2.2.1 (F_X2_read p1 no_apron no_basket no_ground no_bruised no_ladder no_helper no_today no_clock pa_cells).2.2.2.2.2.1 (F_X2_read p1 no_apron no_basket no_ground no_bruised no_ladder no_helper no_today no_clock pa_cells).2.2.2.2.2.2.1 (F_X2_read p1 no_apron no_basket no_ground no_bruised no_ladder no_helper no_today no_clock pa_cells).2.2.2.2.2.2.2) : wp_X2_read Q p1 no_apron no_basket no_ground no_bruised no_ladder no_helper no_today no_clock pa_cells := dt_X2_read h (fun o eo => by rw [eo]; exact hq)
noncomputable def F_X4_goBack (no_apron : Int32) (no_basket : Int32) (no_ground : Int32) (no_bruised : Int32) (no_ladder : Int32) (no_helper : Int32) (no_today : Int32) (no_clock : Int32) (pa_undoable : Int32) (pa_free : Int32) (pa_cells : Nat → Int32) : Int32 × Int32 × Int32 × Int32 × Int32 × Int32 × Int32 × Int32 × Int32 × Int32 := ((F_X2_read ((((pa_free + 13) - 1) - ((pa_free + 13) - 1) / 13 * 13) * 8) no_apron no_basket no_ground no_bruised no_ladder no_helper no_today no_clock pa_cells).1, (F_X2_read ((((pa_free + 13) - 1) - ((pa_free + 13) - 1) / 13 * 13) * 8) no_apron no_basket no_ground no_bruised no_ladder no_helper no_today no_clock pa_cells).2.1, (F_X2_read ((((pa_free + 13) - 1) - ((pa_free + 13) - 1) / 13 * 13) * 8) no_apron no_basket no_ground no_bruised no_ladder no_helper no_today no_clock pa_cells).2.2.1, (F_X2_read ((((pa_free + 13) - 1) - ((pa_free + 13) - 1) / 13 * 13) * 8) no_apron no_basket no_ground no_bruised no_ladder no_helper no_today no_clock pa_cells).2.2.2.1, (F_X2_read ((((pa_free + 13) - 1) - ((pa_free + 13) - 1) / 13 * 13) * 8) no_apron no_basket no_ground no_bruised no_ladder no_helper no_today no_clock pa_cells).2.2.2.2.1, (F_X2_read ((((pa_free + 13) - 1) - ((pa_free + 13) - 1) / 13 * 13) * 8) no_apron no_basket no_ground no_bruised no_ladder no_helper no_today no_clock pa_cells).2.2.2.2.2.1, (F_X2_read ((((pa_free + 13) - 1) - ((pa_free + 13) - 1) / 13 * 13) * 8) no_apron no_basket no_ground no_bruised no_ladder no_helper no_today no_clock pa_cells).2.2.2.2.2.2.1, (F_X2_read ((((pa_free + 13) - 1) - ((pa_free + 13) - 1) / 13 * 13) * 8) no_apron no_basket no_ground no_bruised no_ladder no_helper no_today no_clock pa_cells).2.2.2.2.2.2.2, (pa_undoable - 1), (((pa_free + 13) - 1) - ((pa_free + 13) - 1) / 13 * 13))
set_option maxHeartbeats 200000 in
set_option maxRecDepth 10000 in
theorem dt_X4_goBack {P Q : Int32 → Int32 → Int32 → Int32 → Int32 → Int32 → Int32 → Int32 → Int32 → Int32 → Prop} {no_apron : Int32} {no_basket : Int32} {no_ground : Int32} {no_bruised : Int32} {no_ladder : Int32} {no_helper : Int32} {no_today : Int32} {no_clock : Int32} {pa_undoable : Int32} {pa_free : Int32} {pa_cells : Nat → Int32} (h : wp_X4_goBack P no_apron no_basket no_ground no_bruised no_ladder no_helper no_today no_clock pa_undoable pa_free pa_cells) (hq : ∀ o : Int32 × Int32 × Int32 × Int32 × Int32 × Int32 × Int32 × Int32 × Int32 × Int32, o = F_X4_goBack no_apron no_basket no_ground no_bruised no_ladder no_helper no_today no_clock pa_undoable pa_free pa_cells → P o.1 o.2.1 o.2.2.1 o.2.2.2.1 o.2.2.2.2.1 o.2.2.2.2.2.1 o.2.2.2.2.2.2.1 o.2.2.2.2.2.2.2.1 o.2.2.2.2.2.2.2.2.1 o.2.2.2.2.2.2.2.2.2 → Q o.1 o.2.1 o.2.2.1 o.2.2.2.1 o.2.2.2.2.1 o.2.2.2.2.2.1 o.2.2.2.2.2.2.1 o.2.2.2.2.2.2.2.1 o.2.2.2.2.2.2.2.2.1 o.2.2.2.2.2.2.2.2.2) : wp_X4_goBack Q no_apron no_basket no_ground no_bruised no_ladder no_helper no_today no_clock pa_undoable pa_free pa_cells := by
  rw [F_X4_goBack] at hq
  refine ae ?_
  have h := h _ rfl
  refine ae ?_
  have h := h _ rfl
  refine ae ?_
  have h := h _ rfl
  refine ae ?_
  have h := h _ rfl
  refine ae ?_
  have h := h _ rfl
  refine du_X2_read h ?_
  intro h
  have q9 := hq _ rfl
  dsimp only at q9
  exact q9 h
theorem du_X4_goBack {P Q : Int32 → Int32 → Int32 → Int32 → Int32 → Int32 → Int32 → Int32 → Int32 → Int32 → Prop} {no_apron : Int32} {no_basket : Int32} {no_ground : Int32} {no_bruised : Int32} {no_ladder : Int32} {no_helper : Int32} {no_today : Int32} {no_clock : Int32} {pa_undoable : Int32} {pa_free : Int32} {pa_cells : Nat → Int32} (h : wp_X4_goBack P no_apron no_basket no_ground no_bruised no_ladder no_helper no_today no_clock pa_undoable pa_free pa_cells) (hq : P (F_X4_goBack no_apron no_basket no_ground no_bruised no_ladder no_helper no_today no_clock pa_undoable pa_free pa_cells).1 (F_X4_goBack no_apron no_basket no_ground no_bruised no_ladder no_helper no_today no_clock pa_undoable pa_free pa_cells).2.1 (F_X4_goBack no_apron no_basket no_ground no_bruised no_ladder no_helper no_today no_clock pa_undoable pa_free pa_cells).2.2.1 (F_X4_goBack no_apron no_basket no_ground no_bruised no_ladder no_helper no_today no_clock pa_undoable pa_free pa_cells).2.2.2.1 (F_X4_goBack no_apron no_basket no_ground no_bruised no_ladder no_helper no_today no_clock pa_undoable pa_free pa_cells).2.2.2.2.1 (F_X4_goBack no_apron no_basket no_ground no_bruised no_ladder no_helper no_today no_clock pa_undoable pa_free pa_cells).2.2.2.2.2.1 (F_X4_goBack no_apron no_basket no_ground no_bruised no_ladder no_helper no_today no_clock pa_undoable pa_free pa_cells).2.2.2.2.2.2.1 (F_X4_goBack no_apron no_basket no_ground no_bruised no_ladder no_helper no_today no_clock pa_undoable pa_free pa_cells).2.2.2.2.2.2.2.1 (F_X4_goBack no_apron no_basket no_ground no_bruised no_ladder no_helper no_today no_clock pa_undoable pa_free pa_cells).2.2.2.2.2.2.2.2.1 (F_X4_goBack no_apron no_basket no_ground no_bruised no_ladder no_helper no_today no_clock pa_undoable pa_free pa_cells).2.2.2.2.2.2.2.2.2 → Q (F_X4_goBack no_apron no_basket no_ground no_bruised no_ladder no_helper no_today no_clock pa_undoable pa_free pa_cells).1 (F_X4_goBack no_apron no_basket no_ground no_bruised no_ladder no_helper no_today no_clock pa_undoable pa_free pa_cells).2.1 (F_X4_goBack no_apron no_basket no_ground no_bruised no_ladder no_helper no_today no_clock pa_undoable pa_free pa_cells).2.2.1 (F_X4_goBack no_apron no_basket no_ground no_bruised no_ladder no_helper no_today no_clock pa_undoable pa_free pa_cells).2.2.2.1 (F_X4_goBack no_apron no_basket no_ground no_bruised no_ladder no_helper no_today no_clock pa_undoable pa_free pa_cells).2.2.2.2.1 (F_X4_goBack no_apron no_basket no_ground no_bruised no_ladder no_helper no_today no_clock pa_undoable pa_free pa_cells).2.2.2.2.2.1 (F_X4_goBack no_apron no_basket no_ground no_bruised no_ladder no_helper no_today no_clock pa_undoable pa_free pa_cells).2.2.2.2.2.2.1 (F_X4_goBack no_apron no_basket no_ground no_bruised no_ladder no_helper no_today no_clock pa_undoable pa_free pa_cells).2.2.2.2.2.2.2.1 (F_X4_goBack no_apron no_basket no_ground no_bruised no_ladder no_helper no_today no_clock pa_undoable pa_free pa_cells).2.2.2.2.2.2.2.2.1 (F_X4_goBack no_apron no_basket no_ground no_bruised no_ladder no_helper no_today no_clock pa_undoable pa_free pa_cells).2.2.2.2.2.2.2.2.2) : wp_X4_goBack Q no_apron no_basket no_ground no_bruised no_ladder no_helper no_today no_clock pa_undoable pa_free pa_cells := dt_X4_goBack h (fun o eo => by rw [eo]; exact hq)
noncomputable def F_X9_undo (no_apron : Int32) (no_basket : Int32) (no_ground : Int32) (no_bruised : Int32) (no_ladder : Int32) (no_helper : Int32) (no_today : Int32) (no_clock : Int32) (pa_undoable : Int32) (pa_free : Int32) (pa_cells : Nat → Int32) : Int32 × Int32 × Int32 × Int32 × Int32 × Int32 × Int32 × Int32 × Int32 × Int32 × Int32 := if pa_undoable = 0 then ((-1), no_apron, no_basket, no_ground, no_bruised, no_ladder, no_helper, no_today, no_clock, pa_undoable, pa_free) else ((F_X4_goBack no_apron no_basket no_ground no_bruised no_ladder no_helper no_today no_clock pa_undoable pa_free pa_cells).2.2.2.2.2.2.2.2.1, (F_X4_goBack no_apron no_basket no_ground no_bruised no_ladder no_helper no_today no_clock pa_undoable pa_free pa_cells).1, (F_X4_goBack no_apron no_basket no_ground no_bruised no_ladder no_helper no_today no_clock pa_undoable pa_free pa_cells).2.1, (F_X4_goBack no_apron no_basket no_ground no_bruised no_ladder no_helper no_today no_clock pa_undoable pa_free pa_cells).2.2.1, (F_X4_goBack no_apron no_basket no_ground no_bruised no_ladder no_helper no_today no_clock pa_undoable pa_free pa_cells).2.2.2.1, (F_X4_goBack no_apron no_basket no_ground no_bruised no_ladder no_helper no_today no_clock pa_undoable pa_free pa_cells).2.2.2.2.1, (F_X4_goBack no_apron no_basket no_ground no_bruised no_ladder no_helper no_today no_clock pa_undoable pa_free pa_cells).2.2.2.2.2.1, (F_X4_goBack no_apron no_basket no_ground no_bruised no_ladder no_helper no_today no_clock pa_undoable pa_free pa_cells).2.2.2.2.2.2.1, (F_X4_goBack no_apron no_basket no_ground no_bruised no_ladder no_helper no_today no_clock pa_undoable pa_free pa_cells).2.2.2.2.2.2.2.1, (F_X4_goBack no_apron no_basket no_ground no_bruised no_ladder no_helper no_today no_clock pa_undoable pa_free pa_cells).2.2.2.2.2.2.2.2.1, (F_X4_goBack no_apron no_basket no_ground no_bruised no_ladder no_helper no_today no_clock pa_undoable pa_free pa_cells).2.2.2.2.2.2.2.2.2)
set_option maxHeartbeats 200000 in
set_option maxRecDepth 10000 in
theorem dt_X9_undo {P Q : Int32 → Int32 → Int32 → Int32 → Int32 → Int32 → Int32 → Int32 → Int32 → Int32 → Int32 → Prop} {no_apron : Int32} {no_basket : Int32} {no_ground : Int32} {no_bruised : Int32} {no_ladder : Int32} {no_helper : Int32} {no_today : Int32} {no_clock : Int32} {pa_undoable : Int32} {pa_free : Int32} {pa_cells : Nat → Int32} (h : wp_X9_undo P no_apron no_basket no_ground no_bruised no_ladder no_helper no_today no_clock pa_undoable pa_free pa_cells) (hq : ∀ o : Int32 × Int32 × Int32 × Int32 × Int32 × Int32 × Int32 × Int32 × Int32 × Int32 × Int32, o = F_X9_undo no_apron no_basket no_ground no_bruised no_ladder no_helper no_today no_clock pa_undoable pa_free pa_cells → P o.1 o.2.1 o.2.2.1 o.2.2.2.1 o.2.2.2.2.1 o.2.2.2.2.2.1 o.2.2.2.2.2.2.1 o.2.2.2.2.2.2.2.1 o.2.2.2.2.2.2.2.2.1 o.2.2.2.2.2.2.2.2.2.1 o.2.2.2.2.2.2.2.2.2.2 → Q o.1 o.2.1 o.2.2.1 o.2.2.2.1 o.2.2.2.2.1 o.2.2.2.2.2.1 o.2.2.2.2.2.2.1 o.2.2.2.2.2.2.2.1 o.2.2.2.2.2.2.2.2.1 o.2.2.2.2.2.2.2.2.2.1 o.2.2.2.2.2.2.2.2.2.2) : wp_X9_undo Q no_apron no_basket no_ground no_bruised no_ladder no_helper no_today no_clock pa_undoable pa_free pa_cells := by
  rw [F_X9_undo] at hq
  refine And.intro (fun c1 => ?_) (fun c1 => ?_)
  · have h := And.left h c1
    rw [if_neg c1] at hq
    refine du_X4_goBack h ?_
    intro h
    have q9 := hq _ rfl
    dsimp only at q9
    exact q9 h
  · have h := And.right h c1
    rw [if_pos c1] at hq
    have q9 := hq _ rfl
    dsimp only at q9
    exact q9 h
