theorem du_X9_tellMembers {P Q : Int32 → Int32 → (Nat → Int32) → Prop} {p0 : Int32} {ro_size : Int32} {ro_numbers : Nat → Int32} (h : wp_X9_tellMembers P p0 ro_size ro_numbers) (hq : P (F_X9_tellMembers p0 ro_size ro_numbers).1 (F_X9_tellMembers p0 ro_size ro_numbers).2.1 (F_X9_tellMembers p0 ro_size ro_numbers).2.2 → Q (F_X9_tellMembers p0 ro_size ro_numbers).1 (F_X9_tellMembers p0 ro_size ro_numbers).2.1 (F_X9_tellMembers p0 ro_size ro_numbers).2.2) : wp_X9_tellMembers Q p0 ro_size ro_numbers := dt_X9_tellMembers h (fun o eo => by rw [eo]; exact hq)
theorem dw_X9_tellMembers {Q : Int32 → Int32 → (Nat → Int32) → Prop} {p0 : Int32} {ro_size : Int32} {ro_numbers : Nat → Int32} (h : wp_X9_tellMembers (fun o0 o1 o2 => (o0, o1, o2) = F_X9_tellMembers p0 ro_size ro_numbers → Q o0 o1 o2) p0 ro_size ro_numbers) : wp_X9_tellMembers Q p0 ro_size ro_numbers := dt_X9_tellMembers h (fun o eo hp => hp eo)
noncomputable def F_X9_fewest (pl_wanted : Int32) (pl_near : Nat → Int32) (tr_fruits : Int32) (tr_standings : Int32) (tr_x : Nat → Int32) (tr_height : Nat → Int32) (tr_ripe : Nat → Int32) (tr_foot : Nat → Int32) (tr_fork : Nat → Int32) (tr_settings : Nat → Int32) (no_apron : Int32) (no_basket : Int32) (no_ground : Int32) (no_helper : Int32) (no_today : Int32) (ro_size : Int32) (ro_numbers : Nat → Int32) : Int32 × Int32 × (Nat → Int32) × Int32 × (Nat → Int32) := ((F_X9_tellMembers (F_X5_smallestCover (F_X5_look pl_wanted pl_near tr_fruits tr_standings tr_x tr_height tr_ripe tr_foot tr_fork tr_settings no_apron no_basket no_ground no_helper no_today).1 (F_X3_allStandings tr_standings) (F_X5_look pl_wanted pl_near tr_fruits tr_standings tr_x tr_height tr_ripe tr_foot tr_fork tr_settings no_apron no_basket no_ground no_helper no_today).2 tr_standings) ro_size ro_numbers).1, (F_X5_look pl_wanted pl_near tr_fruits tr_standings tr_x tr_height tr_ripe tr_foot tr_fork tr_settings no_apron no_basket no_ground no_helper no_today).1, (F_X5_look pl_wanted pl_near tr_fruits tr_standings tr_x tr_height tr_ripe tr_foot tr_fork tr_settings no_apron no_basket no_ground no_helper no_today).2, (F_X9_tellMembers (F_X5_smallestCover (F_X5_look pl_wanted pl_near tr_fruits tr_standings tr_x tr_height tr_ripe tr_foot tr_fork tr_settings no_apron no_basket no_ground no_helper no_today).1 (F_X3_allStandings tr_standings) (F_X5_look pl_wanted pl_near tr_fruits tr_standings tr_x tr_height tr_ripe tr_foot tr_fork tr_settings no_apron no_basket no_ground no_helper no_today).2 tr_standings) ro_size ro_numbers).2.1, (F_X9_tellMembers (F_X5_smallestCover (F_X5_look pl_wanted pl_near tr_fruits tr_standings tr_x tr_height tr_ripe tr_foot tr_fork tr_settings no_apron no_basket no_ground no_helper no_today).1 (F_X3_allStandings tr_standings) (F_X5_look pl_wanted pl_near tr_fruits tr_standings tr_x tr_height tr_ripe tr_foot tr_fork tr_settings no_apron no_basket no_ground no_helper no_today).2 tr_standings) ro_size ro_numbers).2.2)
set_option maxHeartbeats 200000 in
set_option maxRecDepth 10000 in
theorem dt_X9_fewest {P Q : Int32 → Int32 → (Nat → Int32) → Int32 → (Nat → Int32) → Prop} {pl_wanted : Int32} {pl_near : Nat → Int32} {tr_fruits : Int32} {tr_standings : Int32} {tr_x : Nat → Int32} {tr_height : Nat → Int32} {tr_ripe : Nat → Int32} {tr_foot : Nat → Int32} {tr_fork : Nat → Int32} {tr_settings : Nat → Int32} {no_apron : Int32} {no_basket : Int32} {no_ground : Int32} {no_helper : Int32} {no_today : Int32} {ro_size : Int32} {ro_numbers : Nat → Int32} (h : wp_X9_fewest P pl_wanted pl_near tr_fruits tr_standings tr_x tr_height tr_ripe tr_foot tr_fork tr_settings no_apron no_basket no_ground no_helper no_today ro_size ro_numbers) (hq : ∀ o : Int32 × Int32 × (Nat → Int32) × Int32 × (Nat → Int32), o = F_X9_fewest pl_wanted pl_near tr_fruits tr_standings tr_x tr_height tr_ripe tr_foot tr_fork tr_settings no_apron no_basket no_ground no_helper no_today ro_size ro_numbers → P o.1 o.2.1 o.2.2.1 o.2.2.2.1 o.2.2.2.2 → Q o.1 o.2.1 o.2.2.1 o.2.2.2.1 o.2.2.2.2) : wp_X9_fewest Q pl_wanted pl_near tr_fruits tr_standings tr_x tr_height tr_ripe tr_foot tr_fork tr_settings no_apron no_basket no_ground no_helper no_today ro_size ro_numbers := by
  rw [F_X9_fewest] at hq
  refine du_X5_look h ?_
  intro h
  refine du_X3_allStandings h ?_
  intro h
  refine du_X5_smallestCover h ?_
  intro h
  refine du_X9_tellMembers h ?_
  intro h
  have q9 := hq _ rfl
  dsimp only at q9
  exact q9 h
theorem du_X9_fewest {P Q : Int32 → Int32 → (Nat → Int32) → Int32 → (Nat → Int32) → Prop} {pl_wanted : Int32} {pl_near : Nat → Int32} {tr_fruits : Int32} {tr_standings : Int32} {tr_x : Nat → Int32} {tr_height : Nat → Int32} {tr_ripe : Nat → Int32} {tr_foot : Nat → Int32} {tr_fork : Nat → Int32} {tr_settings : Nat → Int32} {no_apron : Int32} {no_basket : Int32} {no_ground : Int32} {no_helper : Int32} {no_today : Int32} {ro_size : Int32} {ro_numbers : Nat → Int32} (h : wp_X9_fewest P pl_wanted pl_near tr_fruits tr_standings tr_x tr_height tr_ripe tr_foot tr_fork tr_settings no_apron no_basket no_ground no_helper no_today ro_size ro_numbers) (hq : P (F_X9_fewest pl_wanted pl_near tr_fruits tr_standings tr_x tr_height tr_ripe tr_foot tr_fork tr_settings no_apron no_basket no_ground no_helper no_today ro_size ro_numbers).1 (F_X9_fewest pl_wanted pl_near tr_fruits tr_standings tr_x tr_height tr_ripe tr_foot tr_fork tr_settings no_apron no_basket no_ground no_helper no_today ro_size ro_numbers).2.1 (F_X9_fewest pl_wanted pl_near tr_fruits tr_standings tr_x tr_height tr_ripe tr_foot tr_fork tr_settings no_apron no_basket no_ground no_helper no_today ro_size ro_numbers).2.2.1 (F_X9_fewest pl_wanted pl_near tr_fruits tr_standings tr_x tr_height tr_ripe tr_foot tr_fork tr_settings no_apron no_basket no_ground no_helper no_today ro_size ro_numbers).2.2.2.1 (F_X9_fewest pl_wanted pl_near tr_fruits tr_standings tr_x tr_height tr_ripe tr_foot tr_fork tr_settings no_apron no_basket no_ground no_helper no_today ro_size ro_numbers).2.2.2.2 → Q (F_X9_fewest pl_wanted pl_near tr_fruits tr_standings tr_x tr_height tr_ripe tr_foot tr_fork tr_settings no_apron no_basket no_ground no_helper no_today ro_size ro_numbers).1 (F_X9_fewest pl_wanted pl_near tr_fruits tr_standings tr_x tr_height tr_ripe tr_foot tr_fork tr_settings no_apron no_basket no_ground no_helper no_today ro_size ro_numbers).2.1 (F_X9_fewest pl_wanted pl_near tr_fruits tr_standings tr_x tr_height tr_ripe tr_foot tr_fork tr_settings no_apron no_basket no_ground no_helper no_today ro_size ro_numbers).2.2.1 (F_X9_fewest pl_wanted pl_near tr_fruits tr_standings tr_x tr_height tr_ripe tr_foot tr_fork tr_settings no_apron no_basket no_ground no_helper no_today ro_size ro_numbers).2.2.2.1 (F_X9_fewest pl_wanted pl_near tr_fruits tr_standings tr_x tr_height tr_ripe tr_foot tr_fork tr_settings no_apron no_basket no_ground no_helper no_today ro_size ro_numbers).2.2.2.2) : wp_X9_fewest Q pl_wanted pl_near tr_fruits tr_standings tr_x tr_height tr_ripe tr_foot tr_fork tr_settings no_apron no_basket no_ground no_helper no_today ro_size ro_numbers := dt_X9_fewest h (fun o eo => by rw [eo]; exact hq)
theorem dw_X9_fewest {Q : Int32 → Int32 → (Nat → Int32) → Int32 → (Nat → Int32) → Prop} {pl_wanted : Int32} {pl_near : Nat → Int32} {tr_fruits : Int32} {tr_standings : Int32} {tr_x : Nat → Int32} {tr_height : Nat → Int32} {tr_ripe : Nat → Int32} {tr_foot : Nat → Int32} {tr_fork : Nat → Int32} {tr_settings : Nat → Int32} {no_apron : Int32} {no_basket : Int32} {no_ground : Int32} {no_helper : Int32} {no_today : Int32} {ro_size : Int32} {ro_numbers : Nat → Int32} (h : wp_X9_fewest (fun o0 o1 o2 o3 o4 => (o0, o1, o2, o3, o4) = F_X9_fewest pl_wanted pl_near tr_fruits tr_standings tr_x tr_height tr_ripe tr_foot tr_fork tr_settings no_apron no_basket no_ground no_helper no_today ro_size ro_numbers → Q o0 o1 o2 o3 o4) pl_wanted pl_near tr_fruits tr_standings tr_x tr_height tr_ripe tr_foot tr_fork tr_settings no_apron no_basket no_ground no_helper no_today ro_size ro_numbers) : wp_X9_fewest Q pl_wanted pl_near tr_fruits tr_standings tr_x tr_height tr_ripe tr_foot tr_fork tr_settings no_apron no_basket no_ground no_helper no_today ro_size ro_numbers := dt_X9_fewest h (fun o eo hp => hp eo)
noncomputable def j_X9_needed_76 {R : Type} (k13 : Int32 → Int32 → Int32 → Int32 → (Nat → Int32) → Int32 → (Nat → Int32) → R) (tr_fruits : Int32) (tr_standings : Int32) (tr_x : Nat → Int32) (tr_height : Nat → Int32) (tr_ripe : Nat → Int32) (tr_foot : Nat → Int32) (tr_fork : Nat → Int32) (tr_settings : Nat → Int32) (no_apron : Int32) (no_basket : Int32) (no_ground : Int32) (no_helper : Int32) (no_today : Int32) (x1 : Int32) (x2 : Int32) (x3 : Int32) (pl_wanted : Int32) (pl_near : Nat → Int32) (ro_size : Int32) (ro_numbers : Nat → Int32) : R := k13 x1 x2 (x3 + 1) pl_wanted pl_near ro_size ro_numbers
noncomputable def bd_X9_needed_13 (tr_fruits : Int32) (tr_standings : Int32) (tr_x : Nat → Int32) (tr_height : Nat → Int32) (tr_ripe : Nat → Int32) (tr_foot : Nat → Int32) (tr_fork : Nat → Int32) (tr_settings : Nat → Int32) (no_apron : Int32) (no_basket : Int32) (no_ground : Int32) (no_helper : Int32) (no_today : Int32) (pl_wanted : Int32) (pl_near : Nat → Int32) (ro_size : Int32) (ro_numbers : Nat → Int32) (c : Int32) (s : Int32 × Int32) : Int32 × Int32 := if (pl_wanted &&& ((F_X5_reachedBy ((F_X3_allStandings tr_standings) &&& ((1 <<< (c &&& 31)) ^^^ (-1))) pl_near tr_standings) ^^^ (-1))) = 0 then (j_X9_needed_76 (fun q0 q1 q2 q3 q4 q5 q6 => (q0, q1)) tr_fruits tr_standings tr_x tr_height tr_ripe tr_foot tr_fork tr_settings no_apron no_basket no_ground no_helper no_today s.1 s.2 c pl_wanted pl_near ro_size ro_numbers) else (j_X9_needed_76 (fun q0 q1 q2 q3 q4 q5 q6 => (q0, q1)) tr_fruits tr_standings tr_x tr_height tr_ripe tr_foot tr_fork tr_settings no_apron no_basket no_ground no_helper no_today (s.1 ||| (1 <<< (c &&& 31))) (s.2 ||| (pl_wanted &&& ((F_X5_reachedBy ((F_X3_allStandings tr_standings) &&& ((1 <<< (c &&& 31)) ^^^ (-1))) pl_near tr_standings) ^^^ (-1)))) c pl_wanted pl_near ro_size ro_numbers)
noncomputable def ex_X9_needed_13 {R : Type} (po : Int32 → Int32 → (Nat → Int32) → Int32 → (Nat → Int32) → R) (tr_fruits : Int32) (tr_standings : Int32) (tr_x : Nat → Int32) (tr_height : Nat → Int32) (tr_ripe : Nat → Int32) (tr_foot : Nat → Int32) (tr_fork : Nat → Int32) (tr_settings : Nat → Int32) (no_apron : Int32) (no_basket : Int32) (no_ground : Int32) (no_helper : Int32) (no_today : Int32) (pl_wanted : Int32) (pl_near : Nat → Int32) (ro_size : Int32) (ro_numbers : Nat → Int32) (c : Int32) (s : Int32 × Int32) : R := po s.1 pl_wanted pl_near ((F_X9_tell s.2 ro_size ro_numbers).1) ((F_X9_tell s.2 ro_size ro_numbers).2)
set_option maxHeartbeats 200000 in
set_option maxRecDepth 10000 in
theorem dl_X9_needed_13 {P Q : Int32 → Int32 → (Nat → Int32) → Int32 → (Nat → Int32) → Prop} {tr_fruits : Int32} {tr_standings : Int32} {tr_x : Nat → Int32} {tr_height : Nat → Int32} {tr_ripe : Nat → Int32} {tr_foot : Nat → Int32} {tr_fork : Nat → Int32} {tr_settings : Nat → Int32} {no_apron : Int32} {no_basket : Int32} {no_ground : Int32} {no_helper : Int32} {no_today : Int32} {pl_wanted : Int32} {pl_near : Nat → Int32} {ro_size : Int32} {ro_numbers : Nat → Int32} {a : Int32 × Int32} {i : Nat} (hi0 : i < 2147483648) (hE : ∀ (c : Int32) (s : Int32 × Int32), c = nI (i + (Int32.toInt tr_standings - ((i : Nat) : Int)).toNat) → s = itr (bd_X9_needed_13 tr_fruits tr_standings tr_x tr_height tr_ripe tr_foot tr_fork tr_settings no_apron no_basket no_ground no_helper no_today pl_wanted pl_near ro_size ro_numbers) a i (Int32.toInt tr_standings - ((i : Nat) : Int)).toNat → (wp_X9_tell (fun ro_size_3 ro_numbers_4 => P s.1 pl_wanted pl_near ro_size_3 ro_numbers_4) s.2 ro_size ro_numbers) → (wp_X9_tell (fun ro_size_3 ro_numbers_4 => Q s.1 pl_wanted pl_near ro_size_3 ro_numbers_4) s.2 ro_size ro_numbers)) : ∀ (n k : Nat) (c : Int32), c = nI (i + k) → k ≤ (Int32.toInt tr_standings - ((i : Nat) : Int)).toNat → wb_X9_needed_13 P tr_fruits tr_standings tr_x tr_height tr_ripe tr_foot tr_fork tr_settings no_apron no_basket no_ground no_helper no_today n (itr (bd_X9_needed_13 tr_fruits tr_standings tr_x tr_height tr_ripe tr_foot tr_fork tr_settings no_apron no_basket no_ground no_helper no_today pl_wanted pl_near ro_size ro_numbers) a i k).1 (itr (bd_X9_needed_13 tr_fruits tr_standings tr_x tr_height tr_ripe tr_foot tr_fork tr_settings no_apron no_basket no_ground no_helper no_today pl_wanted pl_near ro_size ro_numbers) a i k).2 c pl_wanted pl_near ro_size ro_numbers → wb_X9_needed_13 Q tr_fruits tr_standings tr_x tr_height tr_ripe tr_foot tr_fork tr_settings no_apron no_basket no_ground no_helper no_today n (itr (bd_X9_needed_13 tr_fruits tr_standings tr_x tr_height tr_ripe tr_foot tr_fork tr_settings no_apron no_basket no_ground no_helper no_today pl_wanted pl_near ro_size ro_numbers) a i k).1 (itr (bd_X9_needed_13 tr_fruits tr_standings tr_x tr_height tr_ripe tr_foot tr_fork tr_settings no_apron no_basket no_ground no_helper no_today pl_wanted pl_near ro_size ro_numbers) a i k).2 c pl_wanted pl_near ro_size ro_numbers := by
  intro n
  induction n with
  | zero => intro k c hc hk h; exact False.elim h
  | succ n ih =>
    intro k c hc hk h
    have hr := tp_r tr_standings
    have hi : Int32.toInt c = ((i + k : Nat) : Int) := by rw [hc]; exact nI_toInt (by omega)
    refine And.intro (fun t0 => ?_) (fun t0 => ?_)
    · have h := And.left h t0
      have t1 := (fa_le _ _).mp t0
      have hk2 : k = (Int32.toInt tr_standings - ((i : Nat) : Int)).toNat := by omega
      subst hk2
      exact hE _ _ hc rfl h
    · have h := And.right h t0
      have t1 := mt (fa_le _ _).mpr t0
      have hs : ∀ o : Int32 × Int32, o = itr (bd_X9_needed_13 tr_fruits tr_standings tr_x tr_height tr_ripe tr_foot tr_fork tr_settings no_apron no_basket no_ground no_helper no_today pl_wanted pl_near ro_size ro_numbers) a i (k + 1) → wb_X9_needed_13 P tr_fruits tr_standings tr_x tr_height tr_ripe tr_foot tr_fork tr_settings no_apron no_basket no_ground no_helper no_today n o.1 o.2 (c + 1) pl_wanted pl_near ro_size ro_numbers → wb_X9_needed_13 Q tr_fruits tr_standings tr_x tr_height tr_ripe tr_foot tr_fork tr_settings no_apron no_basket no_ground no_helper no_today n o.1 o.2 (c + 1) pl_wanted pl_near ro_size ro_numbers := by
        intro o eo h9
        have q := ih (k + 1) (c + 1) (by rw [hc]; exact nI_1 _) (by omega)
        rw [← eo] at q
        exact q h9
      rw [itr_s, ← hc, bd_X9_needed_13] at hs
      refine du_X3_allStandings h ?_
      intro h
      refine ae ?_
      have h := h _ rfl
      refine ae ?_
      have h := h _ rfl
      refine du_X5_reachedBy h ?_
      intro h
      refine ae ?_
      have h := h _ rfl
      refine And.intro (fun c1 => ?_) (fun c1 => ?_)
      · have h := And.left h c1
        rw [if_pos c1] at hs
        rw [j_X9_needed_76] at hs
        unfold ws_X9_needed_76 at h ⊢
        refine ae ?_
        have h := h _ rfl
        have q9 := hs _ rfl
        dsimp only at q9
        exact q9 h
      · have h := And.right h c1
        rw [if_neg c1] at hs
        refine ae ?_
        have h := h _ rfl
        refine ae ?_
        have h := h _ rfl
        rw [j_X9_needed_76] at hs
        unfold ws_X9_needed_76 at h ⊢
        refine ae ?_
        have h := h _ rfl
        have q9 := hs _ rfl
        dsimp only at q9
        exact q9 h
noncomputable def F_X9_needed (pl_wanted : Int32) (pl_near : Nat → Int32) (tr_fruits : Int32) (tr_standings : Int32) (tr_x : Nat → Int32) (tr_height : Nat → Int32) (tr_ripe : Nat → Int32) (tr_foot : Nat → Int32) (tr_fork : Nat → Int32) (tr_settings : Nat → Int32) (no_apron : Int32) (no_basket : Int32) (no_ground : Int32) (no_helper : Int32) (no_today : Int32) (ro_size : Int32) (ro_numbers : Nat → Int32) : Int32 × Int32 × (Nat → Int32) × Int32 × (Nat → Int32) := ex_X9_needed_13 (fun o0 o1 o2 o3 o4 => (o0, o1, o2, o3, o4)) tr_fruits tr_standings tr_x tr_height tr_ripe tr_foot tr_fork tr_settings no_apron no_basket no_ground no_helper no_today ((F_X5_look pl_wanted pl_near tr_fruits tr_standings tr_x tr_height tr_ripe tr_foot tr_fork tr_settings no_apron no_basket no_ground no_helper no_today).1) ((F_X5_look pl_wanted pl_near tr_fruits tr_standings tr_x tr_height tr_ripe tr_foot tr_fork tr_settings no_apron no_basket no_ground no_helper no_today).2) ro_size ro_numbers (nI (0 + (Int32.toInt tr_standings - ((0 : Nat) : Int)).toNat)) (itr (bd_X9_needed_13 tr_fruits tr_standings tr_x tr_height tr_ripe tr_foot tr_fork tr_settings no_apron no_basket no_ground no_helper no_today ((F_X5_look pl_wanted pl_near tr_fruits tr_standings tr_x tr_height tr_ripe tr_foot tr_fork tr_settings no_apron no_basket no_ground no_helper no_today).1) ((F_X5_look pl_wanted pl_near tr_fruits tr_standings tr_x tr_height tr_ripe tr_foot tr_fork tr_settings no_apron no_basket no_ground no_helper no_today).2) ro_size ro_numbers) (0, 0) 0 (Int32.toInt tr_standings - ((0 : Nat) : Int)).toNat)
set_option maxHeartbeats 200000 in
set_option maxRecDepth 10000 in
theorem dt_X9_needed {P Q : Int32 → Int32 → (Nat → Int32) → Int32 → (Nat → Int32) → Prop} {pl_wanted : Int32} {pl_near : Nat → Int32} {tr_fruits : Int32} {tr_standings : Int32} {tr_x : Nat → Int32} {tr_height : Nat → Int32} {tr_ripe : Nat → Int32} {tr_foot : Nat → Int32} {tr_fork : Nat → Int32} {tr_settings : Nat → Int32} {no_apron : Int32} {no_basket : Int32} {no_ground : Int32} {no_helper : Int32} {no_today : Int32} {ro_size : Int32} {ro_numbers : Nat → Int32} (h : wp_X9_needed P pl_wanted pl_near tr_fruits tr_standings tr_x tr_height tr_ripe tr_foot tr_fork tr_settings no_apron no_basket no_ground no_helper no_today ro_size ro_numbers) (hq : ∀ o : Int32 × Int32 × (Nat → Int32) × Int32 × (Nat → Int32), o = F_X9_needed pl_wanted pl_near tr_fruits tr_standings tr_x tr_height tr_ripe tr_foot tr_fork tr_settings no_apron no_basket no_ground no_helper no_today ro_size ro_numbers → P o.1 o.2.1 o.2.2.1 o.2.2.2.1 o.2.2.2.2 → Q o.1 o.2.1 o.2.2.1 o.2.2.2.1 o.2.2.2.2) : wp_X9_needed Q pl_wanted pl_near tr_fruits tr_standings tr_x tr_height tr_ripe tr_foot tr_fork tr_settings no_apron no_basket no_ground no_helper no_today ro_size ro_numbers := by
  rw [F_X9_needed] at hq
  refine du_X5_look h ?_
  intro h
  obtain ⟨n1, h⟩ := h
  refine ⟨n1, dl_X9_needed_13 (a := (0, 0)) (i := 0) (by decide) ?_ n1 0 0 (by decide) (Nat.zero_le _) h⟩
  intro cc2 s3 ec4 es5 h
  rw [← ec4, ← es5, ex_X9_needed_13] at hq
  refine du_X9_tell h ?_
  intro h
  have q9 := hq _ rfl
  dsimp only at q9
  exact q9 h
theorem du_X9_needed {P Q : Int32 → Int32 → (Nat → Int32) → Int32 → (Nat → Int32) → Prop} {pl_wanted : Int32} {pl_near : Nat → Int32} {tr_fruits : Int32} {tr_standings : Int32} {tr_x : Nat → Int32} {tr_height : Nat → Int32} {tr_ripe : Nat → Int32} {tr_foot : Nat → Int32} {tr_fork : Nat → Int32} {tr_settings : Nat → Int32} {no_apron : Int32} {no_basket : Int32} {no_ground : Int32} {no_helper : Int32} {no_today : Int32} {ro_size : Int32} {ro_numbers : Nat → Int32} (h : wp_X9_needed P pl_wanted pl_near tr_fruits tr_standings tr_x tr_height tr_ripe tr_foot tr_fork tr_settings no_apron no_basket no_ground no_helper no_today ro_size ro_numbers) (hq : P (F_X9_needed pl_wanted pl_near tr_fruits tr_standings tr_x tr_height tr_ripe tr_foot tr_fork tr_settings no_apron no_basket no_ground no_helper no_today ro_size ro_numbers).1 (F_X9_needed pl_wanted pl_near tr_fruits tr_standings tr_x tr_height tr_ripe tr_foot tr_fork tr_settings no_apron no_basket no_ground no_helper no_today ro_size ro_numbers).2.1 (F_X9_needed pl_wanted pl_near tr_fruits tr_standings tr_x tr_height tr_ripe tr_foot tr_fork tr_settings no_apron no_basket no_ground no_helper no_today ro_size ro_numbers).2.2.1 (F_X9_needed pl_wanted pl_near tr_fruits tr_standings tr_x tr_height tr_ripe tr_foot tr_fork tr_settings no_apron no_basket no_ground no_helper no_today ro_size ro_numbers).2.2.2.1 (F_X9_needed pl_wanted pl_near tr_fruits tr_standings tr_x tr_height tr_ripe tr_foot tr_fork tr_settings no_apron no_basket no_ground no_helper no_today ro_size ro_numbers).2.2.2.2 → Q (F_X9_needed pl_wanted pl_near tr_fruits tr_standings tr_x tr_height tr_ripe tr_foot tr_fork tr_settings no_apron no_basket no_ground no_helper no_today ro_size ro_numbers).1 (F_X9_needed pl_wanted pl_near tr_fruits tr_standings tr_x tr_height tr_ripe tr_foot tr_fork tr_settings no_apron no_basket no_ground no_helper no_today ro_size ro_numbers).2.1 (F_X9_needed pl_wanted pl_near tr_fruits tr_standings tr_x tr_height tr_ripe tr_foot tr_fork tr_settings no_apron no_basket no_ground no_helper no_today ro_size ro_numbers).2.2.1 (F_X9_needed pl_wanted pl_near tr_fruits tr_standings tr_x tr_height tr_ripe tr_foot tr_fork tr_settings no_apron no_basket no_ground no_helper no_today ro_size ro_numbers).2.2.2.1 (F_X9_needed pl_wanted pl_near tr_fruits tr_standings tr_x tr_height tr_ripe tr_foot tr_fork tr_settings no_apron no_basket no_ground no_helper no_today ro_size ro_numbers).2.2.2.2) : wp_X9_needed Q pl_wanted pl_near tr_fruits tr_standings tr_x tr_height tr_ripe tr_foot tr_fork tr_settings no_apron no_basket no_ground no_helper no_today ro_size ro_numbers := dt_X9_needed h (fun o eo => by rw [eo]; exact hq)
theorem dw_X9_needed {Q : Int32 → Int32 → (Nat → Int32) → Int32 → (Nat → Int32) → Prop} {pl_wanted : Int32} {pl_near : Nat → Int32} {tr_fruits : Int32} {tr_standings : Int32} {tr_x : Nat → Int32} {tr_height : Nat → Int32} {tr_ripe : Nat → Int32} {tr_foot : Nat → Int32} {tr_fork : Nat → Int32} {tr_settings : Nat → Int32} {no_apron : Int32} {no_basket : Int32} {no_ground : Int32} {no_helper : Int32} {no_today : Int32} {ro_size : Int32} {ro_numbers : Nat → Int32} (h : wp_X9_needed (fun o0 o1 o2 o3 o4 => (o0, o1, o2, o3, o4) = F_X9_needed pl_wanted pl_near tr_fruits tr_standings tr_x tr_height tr_ripe tr_foot tr_fork tr_settings no_apron no_basket no_ground no_helper no_today ro_size ro_numbers → Q o0 o1 o2 o3 o4) pl_wanted pl_near tr_fruits tr_standings tr_x tr_height tr_ripe tr_foot tr_fork tr_settings no_apron no_basket no_ground no_helper no_today ro_size ro_numbers) : wp_X9_needed Q pl_wanted pl_near tr_fruits tr_standings tr_x tr_height tr_ripe tr_foot tr_fork tr_settings no_apron no_basket no_ground no_helper no_today ro_size ro_numbers := dt_X9_needed h (fun o eo hp => hp eo)
noncomputable def F_X5_worthLeft (p0 : Int32) (pl_wanted : Int32) (pl_near : Nat → Int32) (tr_fruits : Int32) (tr_standings : Int32) (tr_worth : Nat → Int32) (no_bruised : Int32) : Int32 := (F_X0_worthOf (pl_wanted &&& ((F_X5_reachedBy p0 pl_near tr_standings) ^^^ (-1))) tr_fruits tr_worth no_bruised)
set_option maxHeartbeats 200000 in
set_option maxRecDepth 10000 in
theorem dt_X5_worthLeft {P Q : Int32 → Prop} {p0 : Int32} {pl_wanted : Int32} {pl_near : Nat → Int32} {tr_fruits : Int32} {tr_standings : Int32} {tr_worth : Nat → Int32} {no_bruised : Int32} (h : wp_X5_worthLeft P p0 pl_wanted pl_near tr_fruits tr_standings tr_worth no_bruised) (hq : ∀ o : Int32, o = F_X5_worthLeft p0 pl_wanted pl_near tr_fruits tr_standings tr_worth no_bruised → P o → Q o) : wp_X5_worthLeft Q p0 pl_wanted pl_near tr_fruits tr_standings tr_worth no_bruised := by
  rw [F_X5_worthLeft] at hq
  refine du_X5_reachedBy h ?_
  intro h
  refine ae ?_
  have h := h _ rfl
  refine du_X0_worthOf h ?_
  intro h
  have q9 := hq _ rfl
  exact q9 h
theorem du_X5_worthLeft {P Q : Int32 → Prop} {p0 : Int32} {pl_wanted : Int32} {pl_near : Nat → Int32} {tr_fruits : Int32} {tr_standings : Int32} {tr_worth : Nat → Int32} {no_bruised : Int32} (h : wp_X5_worthLeft P p0 pl_wanted pl_near tr_fruits tr_standings tr_worth no_bruised) (hq : P (F_X5_worthLeft p0 pl_wanted pl_near tr_fruits tr_standings tr_worth no_bruised) → Q (F_X5_worthLeft p0 pl_wanted pl_near tr_fruits tr_standings tr_worth no_bruised)) : wp_X5_worthLeft Q p0 pl_wanted pl_near tr_fruits tr_standings tr_worth no_bruised := dt_X5_worthLeft h (fun o eo => by rw [eo]; exact hq)
noncomputable def j_X9_isFewer_23 {R : Type} (po : Int32 → R) : R := po 1
noncomputable def F_X9_isFewer (p0 : Int32) (p1 : Int32) : Int32 := if ((F_J6_bitCount_0f7a4 p0) - (F_J6_bitCount_0f7a4 p1)) < 0 then (j_X9_isFewer_23 (fun o0 => o0)) else (if ((F_J6_bitCount_0f7a4 p0) - (F_J6_bitCount_0f7a4 p1)) = 0 then (if p1 ≤ p0 then 0 else (j_X9_isFewer_23 (fun o0 => o0))) else 0)
set_option maxHeartbeats 200000 in
set_option maxRecDepth 10000 in
theorem dt_X9_isFewer {P Q : Int32 → Prop} {p0 : Int32} {p1 : Int32} (h : wp_X9_isFewer P p0 p1) (hq : ∀ o : Int32, o = F_X9_isFewer p0 p1 → P o → Q o) : wp_X9_isFewer Q p0 p1 := by
  rw [F_X9_isFewer] at hq
  refine du_J6_bitCount_0f7a4 h ?_
  intro h
  refine du_J6_bitCount_0f7a4 h ?_
  intro h
  refine ae ?_
  have h := h _ rfl
  refine And.intro (fun c1 => ?_) (fun c1 => ?_)
  · have h := And.left h c1
    rw [if_pos c1] at hq
    rw [j_X9_isFewer_23] at hq
    unfold ws_X9_isFewer_23 at h ⊢
    have q9 := hq _ rfl
    exact q9 h
  · have h := And.right h c1
    rw [if_neg c1] at hq
    refine And.intro (fun c2 => ?_) (fun c2 => ?_)
    · have h := And.left h c2
      rw [if_neg c2] at hq
      have q9 := hq _ rfl
      exact q9 h
    · have h := And.right h c2
      rw [if_pos c2] at hq
      refine And.intro (fun c3 => ?_) (fun c3 => ?_)
      · have h := And.left h c3
        rw [if_pos c3] at hq
        have q9 := hq _ rfl
        exact q9 h
      · have h := And.right h c3
        rw [if_neg c3] at hq
        rw [j_X9_isFewer_23] at hq
        unfold ws_X9_isFewer_23 at h ⊢
        have q9 := hq _ rfl
        exact q9 h
theorem du_X9_isFewer {P Q : Int32 → Prop} {p0 : Int32} {p1 : Int32} (h : wp_X9_isFewer P p0 p1) (hq : P (F_X9_isFewer p0 p1) → Q (F_X9_isFewer p0 p1)) : wp_X9_isFewer Q p0 p1 := dt_X9_isFewer h (fun o eo => by rw [eo]; exact hq)
theorem dw_X9_isFewer {Q : Int32 → Prop} {p0 : Int32} {p1 : Int32} (h : wp_X9_isFewer (fun o0 => o0 = F_X9_isFewer p0 p1 → Q o0) p0 p1) : wp_X9_isFewer Q p0 p1 := dt_X9_isFewer h (fun o eo hp => hp eo)
noncomputable def j_X9_birds_92 {R : Type} (k33 : Int32 → Int32 → Int32 → Int32 → Int32 → (Nat → Int32) → Int32 → (Nat → Int32) → R) (tr_fruits : Int32) (tr_standings : Int32) (tr_x : Nat → Int32) (tr_height : Nat → Int32) (tr_worth : Nat → Int32) (tr_ripe : Nat → Int32) (tr_foot : Nat → Int32) (tr_fork : Nat → Int32) (tr_settings : Nat → Int32) (no_apron : Int32) (no_basket : Int32) (no_ground : Int32) (no_bruised : Int32) (no_helper : Int32) (no_today : Int32) (x1 : Int32) (x2 : Int32) (x3 : Int32) (x4 : Int32) (pl_wanted : Int32) (pl_near : Nat → Int32) (ro_size : Int32) (ro_numbers : Nat → Int32) : R := k33 x1 x2 x3 (x4 + 1) pl_wanted pl_near ro_size ro_numbers
noncomputable def j_X9_birds_86 {R : Type} (k33 : Int32 → Int32 → Int32 → Int32 → Int32 → (Nat → Int32) → Int32 → (Nat → Int32) → R) (tr_fruits : Int32) (tr_standings : Int32) (tr_x : Nat → Int32) (tr_height : Nat → Int32) (tr_worth : Nat → Int32) (tr_ripe : Nat → Int32) (tr_foot : Nat → Int32) (tr_fork : Nat → Int32) (tr_settings : Nat → Int32) (no_apron : Int32) (no_basket : Int32) (no_ground : Int32) (no_bruised : Int32) (no_helper : Int32) (no_today : Int32) (x1 : Int32) (x4 : Int32) (x5 : Int32) (pl_wanted : Int32) (pl_near : Nat → Int32) (ro_size : Int32) (ro_numbers : Nat → Int32) : R := j_X9_birds_92 k33 tr_fruits tr_standings tr_x tr_height tr_worth tr_ripe tr_foot tr_fork tr_settings no_apron no_basket no_ground no_bruised no_helper no_today x1 x4 x5 x4 pl_wanted pl_near ro_size ro_numbers
noncomputable def bd_X9_birds_33 (tr_fruits : Int32) (tr_standings : Int32) (tr_x : Nat → Int32) (tr_height : Nat → Int32) (tr_worth : Nat → Int32) (tr_ripe : Nat → Int32) (tr_foot : Nat → Int32) (tr_fork : Nat → Int32) (tr_settings : Nat → Int32) (no_apron : Int32) (no_basket : Int32) (no_ground : Int32) (no_bruised : Int32) (no_helper : Int32) (no_today : Int32) (x1 : Int32) (pl_wanted : Int32) (pl_near : Nat → Int32) (ro_size : Int32) (ro_numbers : Nat → Int32) (c : Int32) (s : Int32 × Int32) : Int32 × Int32 := if x1 < (F_J6_bitCount_0f7a4 c) then (j_X9_birds_92 (fun q0 q1 q2 q3 q4 q5 q6 q7 => (q1, q2)) tr_fruits tr_standings tr_x tr_height tr_worth tr_ripe tr_foot tr_fork tr_settings no_apron no_basket no_ground no_bruised no_helper no_today x1 s.1 s.2 c pl_wanted pl_near ro_size ro_numbers) else (if (F_X5_worthLeft c pl_wanted pl_near tr_fruits tr_standings tr_worth no_bruised) < s.2 then (j_X9_birds_86 (fun q0 q1 q2 q3 q4 q5 q6 q7 => (q1, q2)) tr_fruits tr_standings tr_x tr_height tr_worth tr_ripe tr_foot tr_fork tr_settings no_apron no_basket no_ground no_bruised no_helper no_today x1 c (F_X5_worthLeft c pl_wanted pl_near tr_fruits tr_standings tr_worth no_bruised) pl_wanted pl_near ro_size ro_numbers) else (if (F_X5_worthLeft c pl_wanted pl_near tr_fruits tr_standings tr_worth no_bruised) = s.2 then (if (F_X9_isFewer c s.1) = 0 then (j_X9_birds_92 (fun q0 q1 q2 q3 q4 q5 q6 q7 => (q1, q2)) tr_fruits tr_standings tr_x tr_height tr_worth tr_ripe tr_foot tr_fork tr_settings no_apron no_basket no_ground no_bruised no_helper no_today x1 s.1 s.2 c pl_wanted pl_near ro_size ro_numbers) else (j_X9_birds_86 (fun q0 q1 q2 q3 q4 q5 q6 q7 => (q1, q2)) tr_fruits tr_standings tr_x tr_height tr_worth tr_ripe tr_foot tr_fork tr_settings no_apron no_basket no_ground no_bruised no_helper no_today x1 c (F_X5_worthLeft c pl_wanted pl_near tr_fruits tr_standings tr_worth no_bruised) pl_wanted pl_near ro_size ro_numbers)) else (j_X9_birds_92 (fun q0 q1 q2 q3 q4 q5 q6 q7 => (q1, q2)) tr_fruits tr_standings tr_x tr_height tr_worth tr_ripe tr_foot tr_fork tr_settings no_apron no_basket no_ground no_bruised no_helper no_today x1 s.1 s.2 c pl_wanted pl_near ro_size ro_numbers)))
noncomputable def ex_X9_birds_33 {R : Type} (po : Int32 → Int32 → (Nat → Int32) → Int32 → (Nat → Int32) → R) (tr_fruits : Int32) (tr_standings : Int32) (tr_x : Nat → Int32) (tr_height : Nat → Int32) (tr_worth : Nat → Int32) (tr_ripe : Nat → Int32) (tr_foot : Nat → Int32) (tr_fork : Nat → Int32) (tr_settings : Nat → Int32) (no_apron : Int32) (no_basket : Int32) (no_ground : Int32) (no_bruised : Int32) (no_helper : Int32) (no_today : Int32) (x1 : Int32) (pl_wanted : Int32) (pl_near : Nat → Int32) (ro_size : Int32) (ro_numbers : Nat → Int32) (c : Int32) (s : Int32 × Int32) : R := po s.2 pl_wanted pl_near ((F_X9_tell_ s.1 (pl_wanted &&& ((F_X5_reachedBy s.1 pl_near tr_standings) ^^^ (-1))) ro_size ro_numbers).1) ((F_X9_tell_ s.1 (pl_wanted &&& ((F_X5_reachedBy s.1 pl_near tr_standings) ^^^ (-1))) ro_size ro_numbers).2)
set_option maxHeartbeats 200000 in
set_option maxRecDepth 10000 in
theorem dl_X9_birds_33 {P Q : Int32 → Int32 → (Nat → Int32) → Int32 → (Nat → Int32) → Prop} {tr_fruits : Int32} {tr_standings : Int32} {tr_x : Nat → Int32} {tr_height : Nat → Int32} {tr_worth : Nat → Int32} {tr_ripe : Nat → Int32} {tr_foot : Nat → Int32} {tr_fork : Nat → Int32} {tr_settings : Nat → Int32} {no_apron : Int32} {no_basket : Int32} {no_ground : Int32} {no_bruised : Int32} {no_helper : Int32} {no_today : Int32} {x1 : Int32} {pl_wanted : Int32} {pl_near : Nat → Int32} {ro_size : Int32} {ro_numbers : Nat → Int32} {a : Int32 × Int32} {i : Nat} (hi0 : i < 2147483648) (hz0 : Int32.toInt (F_X3_allStandings tr_standings) < 2147483647) (hE : ∀ (c : Int32) (s : Int32 × Int32), c = nI (i + (Int32.toInt (F_X3_allStandings tr_standings) + 1 - ((i : Nat) : Int)).toNat) → s = itr (bd_X9_birds_33 tr_fruits tr_standings tr_x tr_height tr_worth tr_ripe tr_foot tr_fork tr_settings no_apron no_basket no_ground no_bruised no_helper no_today x1 pl_wanted pl_near ro_size ro_numbers) a i (Int32.toInt (F_X3_allStandings tr_standings) + 1 - ((i : Nat) : Int)).toNat → (wp_X5_reachedBy (fun r_5 => ∀ v_6 : Int32, v_6 = pl_wanted &&& (r_5 ^^^ (-1)) → wp_X9_tell_ (fun ro_size_7 ro_numbers_8 => P s.2 pl_wanted pl_near ro_size_7 ro_numbers_8) s.1 v_6 ro_size ro_numbers) s.1 pl_near tr_standings) → (wp_X5_reachedBy (fun r_5 => ∀ v_6 : Int32, v_6 = pl_wanted &&& (r_5 ^^^ (-1)) → wp_X9_tell_ (fun ro_size_7 ro_numbers_8 => Q s.2 pl_wanted pl_near ro_size_7 ro_numbers_8) s.1 v_6 ro_size ro_numbers) s.1 pl_near tr_standings)) : ∀ (n k : Nat) (c : Int32), c = nI (i + k) → k ≤ (Int32.toInt (F_X3_allStandings tr_standings) + 1 - ((i : Nat) : Int)).toNat → wb_X9_birds_33 P tr_fruits tr_standings tr_x tr_height tr_worth tr_ripe tr_foot tr_fork tr_settings no_apron no_basket no_ground no_bruised no_helper no_today n x1 (itr (bd_X9_birds_33 tr_fruits tr_standings tr_x tr_height tr_worth tr_ripe tr_foot tr_fork tr_settings no_apron no_basket no_ground no_bruised no_helper no_today x1 pl_wanted pl_near ro_size ro_numbers) a i k).1 (itr (bd_X9_birds_33 tr_fruits tr_standings tr_x tr_height tr_worth tr_ripe tr_foot tr_fork tr_settings no_apron no_basket no_ground no_bruised no_helper no_today x1 pl_wanted pl_near ro_size ro_numbers) a i k).2 c pl_wanted pl_near ro_size ro_numbers → wb_X9_birds_33 Q tr_fruits tr_standings tr_x tr_height tr_worth tr_ripe tr_foot tr_fork tr_settings no_apron no_basket no_ground no_bruised no_helper no_today n x1 (itr (bd_X9_birds_33 tr_fruits tr_standings tr_x tr_height tr_worth tr_ripe tr_foot tr_fork tr_settings no_apron no_basket no_ground no_bruised no_helper no_today x1 pl_wanted pl_near ro_size ro_numbers) a i k).1 (itr (bd_X9_birds_33 tr_fruits tr_standings tr_x tr_height tr_worth tr_ripe tr_foot tr_fork tr_settings no_apron no_basket no_ground no_bruised no_helper no_today x1 pl_wanted pl_near ro_size ro_numbers) a i k).2 c pl_wanted pl_near ro_size ro_numbers := by
  intro n
  induction n with
  | zero => intro k c hc hk h; exact False.elim h
  | succ n ih =>
    intro k c hc hk h
    have hr := tp_r (F_X3_allStandings tr_standings)
    have hi : Int32.toInt c = ((i + k : Nat) : Int) := by rw [hc]; exact nI_toInt (by omega)
    have h : ws_X9_birds_33 P (wb_X9_birds_33 P tr_fruits tr_standings tr_x tr_height tr_worth tr_ripe tr_foot tr_fork tr_settings no_apron no_basket no_ground no_bruised no_helper no_today n) tr_fruits tr_standings tr_x tr_height tr_worth tr_ripe tr_foot tr_fork tr_settings no_apron no_basket no_ground no_bruised no_helper no_today x1 (itr (bd_X9_birds_33 tr_fruits tr_standings tr_x tr_height tr_worth tr_ripe tr_foot tr_fork tr_settings no_apron no_basket no_ground no_bruised no_helper no_today x1 pl_wanted pl_near ro_size ro_numbers) a i k).1 (itr (bd_X9_birds_33 tr_fruits tr_standings tr_x tr_height tr_worth tr_ripe tr_foot tr_fork tr_settings no_apron no_basket no_ground no_bruised no_helper no_today x1 pl_wanted pl_near ro_size ro_numbers) a i k).2 c pl_wanted pl_near ro_size ro_numbers := h
    show ws_X9_birds_33 Q (wb_X9_birds_33 Q tr_fruits tr_standings tr_x tr_height tr_worth tr_ripe tr_foot tr_fork tr_settings no_apron no_basket no_ground no_bruised no_helper no_today n) tr_fruits tr_standings tr_x tr_height tr_worth tr_ripe tr_foot tr_fork tr_settings no_apron no_basket no_ground no_bruised no_helper no_today x1 (itr (bd_X9_birds_33 tr_fruits tr_standings tr_x tr_height tr_worth tr_ripe tr_foot tr_fork tr_settings no_apron no_basket no_ground no_bruised no_helper no_today x1 pl_wanted pl_near ro_size ro_numbers) a i k).1 (itr (bd_X9_birds_33 tr_fruits tr_standings tr_x tr_height tr_worth tr_ripe tr_foot tr_fork tr_settings no_apron no_basket no_ground no_bruised no_helper no_today x1 pl_wanted pl_near ro_size ro_numbers) a i k).2 c pl_wanted pl_near ro_size ro_numbers
    unfold ws_X9_birds_33 at h ⊢
    refine du_X3_allStandings h ?_
    intro h
    refine And.intro (fun t0 => ?_) (fun t0 => ?_)
    · have h := And.left h t0
      have t1 := (fa_lt _ _).mp t0
      have hk2 : k = (Int32.toInt (F_X3_allStandings tr_standings) + 1 - ((i : Nat) : Int)).toNat := by omega
      subst hk2
      exact hE _ _ hc rfl h
    · have h := And.right h t0
      have t1 := mt (fa_lt _ _).mpr t0
      have hs : ∀ o : Int32 × Int32, o = itr (bd_X9_birds_33 tr_fruits tr_standings tr_x tr_height tr_worth tr_ripe tr_foot tr_fork tr_settings no_apron no_basket no_ground no_bruised no_helper no_today x1 pl_wanted pl_near ro_size ro_numbers) a i (k + 1) → wb_X9_birds_33 P tr_fruits tr_standings tr_x tr_height tr_worth tr_ripe tr_foot tr_fork tr_settings no_apron no_basket no_ground no_bruised no_helper no_today n x1 o.1 o.2 (c + 1) pl_wanted pl_near ro_size ro_numbers → wb_X9_birds_33 Q tr_fruits tr_standings tr_x tr_height tr_worth tr_ripe tr_foot tr_fork tr_settings no_apron no_basket no_ground no_bruised no_helper no_today n x1 o.1 o.2 (c + 1) pl_wanted pl_near ro_size ro_numbers := by
        intro o eo h9
        have q := ih (k + 1) (c + 1) (by rw [hc]; exact nI_1 _) (by omega)
        rw [← eo] at q
        exact q h9
      rw [itr_s, ← hc, bd_X9_birds_33] at hs
      refine du_J6_bitCount_0f7a4 h ?_
      intro h
      refine And.intro (fun c1 => ?_) (fun c1 => ?_)
      · have h := And.left h c1
        rw [if_pos c1] at hs
        rw [j_X9_birds_92] at hs
        unfold ws_X9_birds_92 at h ⊢
        refine ae ?_
        have h := h _ rfl
        have q9 := hs _ rfl
        dsimp only at q9
        exact q9 h
      · have h := And.right h c1
        rw [if_neg c1] at hs
        refine du_X5_worthLeft h ?_
        intro h
        refine And.intro (fun c2 => ?_) (fun c2 => ?_)
        · have h := And.left h c2
          rw [if_pos c2] at hs
          rw [j_X9_birds_86] at hs
          unfold ws_X9_birds_86 at h ⊢
          rw [j_X9_birds_92] at hs
          unfold ws_X9_birds_92 at h ⊢
          refine ae ?_
          have h := h _ rfl
          have q9 := hs _ rfl
          dsimp only at q9
          exact q9 h
        · have h := And.right h c2
          rw [if_neg c2] at hs
          refine And.intro (fun c3 => ?_) (fun c3 => ?_)
          · have h := And.left h c3
            rw [if_neg c3] at hs
            rw [j_X9_birds_92] at hs
            unfold ws_X9_birds_92 at h ⊢
            refine ae ?_
            have h := h _ rfl
            have q9 := hs _ rfl
            dsimp only at q9
            exact q9 h
          · have h := And.right h c3
            rw [if_pos c3] at hs
            refine du_X9_isFewer h ?_
            intro h
            refine And.intro (fun c4 => ?_) (fun c4 => ?_)
            · have h := And.left h c4
              rw [if_pos c4] at hs
              rw [j_X9_birds_92] at hs
              unfold ws_X9_birds_92 at h ⊢
              refine ae ?_
              have h := h _ rfl
              have q9 := hs _ rfl
              dsimp only at q9
              exact q9 h
            · have h := And.right h c4
              rw [if_neg c4] at hs
              rw [j_X9_birds_86] at hs
              unfold ws_X9_birds_86 at h ⊢
              rw [j_X9_birds_92] at hs
              unfold ws_X9_birds_92 at h ⊢
              refine ae ?_
              have h := h _ rfl
              have q9 := hs _ rfl
              dsimp only at q9
              exact q9 h
noncomputable def F_X9_birds (p0 : Int32) (pl_wanted : Int32) (pl_near : Nat → Int32) (tr_fruits : Int32) (tr_standings : Int32) (tr_x : Nat → Int32) (tr_height : Nat → Int32) (tr_worth : Nat → Int32) (tr_ripe : Nat → Int32) (tr_foot : Nat → Int32) (tr_fork : Nat → Int32) (tr_settings : Nat → Int32) (no_apron : Int32) (no_basket : Int32) (no_ground : Int32) (no_bruised : Int32) (no_helper : Int32) (no_today : Int32) (ro_size : Int32) (ro_numbers : Nat → Int32) : Int32 × Int32 × (Nat → Int32) × Int32 × (Nat → Int32) := if p0 < 0 then ((-1), pl_wanted, pl_near, ro_size, ro_numbers) else (if p0 ≤ 8 then (ex_X9_birds_33 (fun o0 o1 o2 o3 o4 => (o0, o1, o2, o3, o4)) tr_fruits tr_standings tr_x tr_height tr_worth tr_ripe tr_foot tr_fork tr_settings no_apron no_basket no_ground no_bruised no_helper no_today p0 ((F_X5_look pl_wanted pl_near tr_fruits tr_standings tr_x tr_height tr_ripe tr_foot tr_fork tr_settings no_apron no_basket no_ground no_helper no_today).1) ((F_X5_look pl_wanted pl_near tr_fruits tr_standings tr_x tr_height tr_ripe tr_foot tr_fork tr_settings no_apron no_basket no_ground no_helper no_today).2) ro_size ro_numbers (nI (1 + (Int32.toInt (F_X3_allStandings tr_standings) + 1 - ((1 : Nat) : Int)).toNat)) (itr (bd_X9_birds_33 tr_fruits tr_standings tr_x tr_height tr_worth tr_ripe tr_foot tr_fork tr_settings no_apron no_basket no_ground no_bruised no_helper no_today p0 ((F_X5_look pl_wanted pl_near tr_fruits tr_standings tr_x tr_height tr_ripe tr_foot tr_fork tr_settings no_apron no_basket no_ground no_helper no_today).1) ((F_X5_look pl_wanted pl_near tr_fruits tr_standings tr_x tr_height tr_ripe tr_foot tr_fork tr_settings no_apron no_basket no_ground no_helper no_today).2) ro_size ro_numbers) (0, (F_X5_worthLeft 0 (F_X5_look pl_wanted pl_near tr_fruits tr_standings tr_x tr_height tr_ripe tr_foot tr_fork tr_settings no_apron no_basket no_ground no_helper no_today).1 (F_X5_look pl_wanted pl_near tr_fruits tr_standings tr_x tr_height tr_ripe tr_foot tr_fork tr_settings no_apron no_basket no_ground no_helper no_today).2 tr_fruits tr_standings tr_worth no_bruised)) 1 (Int32.toInt (F_X3_allStandings tr_standings) + 1 - ((1 : Nat) : Int)).toNat)) else ((-1), pl_wanted, pl_near, ro_size, ro_numbers))
set_option maxHeartbeats 200000 in
set_option maxRecDepth 10000 in
theorem dt_X9_birds {P Q : Int32 → Int32 → (Nat → Int32) → Int32 → (Nat → Int32) → Prop} {p0 : Int32} {pl_wanted : Int32} {pl_near : Nat → Int32} {tr_fruits : Int32} {tr_standings : Int32} {tr_x : Nat → Int32} {tr_height : Nat → Int32} {tr_worth : Nat → Int32} {tr_ripe : Nat → Int32} {tr_foot : Nat → Int32} {tr_fork : Nat → Int32} {tr_settings : Nat → Int32} {no_apron : Int32} {no_basket : Int32} {no_ground : Int32} {no_bruised : Int32} {no_helper : Int32} {no_today : Int32} {ro_size : Int32} {ro_numbers : Nat → Int32} (hy0 : Int32.toInt (F_X3_allStandings tr_standings) < 2147483647) (h : wp_X9_birds P p0 pl_wanted pl_near tr_fruits tr_standings tr_x tr_height tr_worth tr_ripe tr_foot tr_fork tr_settings no_apron no_basket no_ground no_bruised no_helper no_today ro_size ro_numbers) (hq : ∀ o : Int32 × Int32 × (Nat → Int32) × Int32 × (Nat → Int32), o = F_X9_birds p0 pl_wanted pl_near tr_fruits tr_standings tr_x tr_height tr_worth tr_ripe tr_foot tr_fork tr_settings no_apron no_basket no_ground no_bruised no_helper no_today ro_size ro_numbers → P o.1 o.2.1 o.2.2.1 o.2.2.2.1 o.2.2.2.2 → Q o.1 o.2.1 o.2.2.1 o.2.2.2.1 o.2.2.2.2) : wp_X9_birds Q p0 pl_wanted pl_near tr_fruits tr_standings tr_x tr_height tr_worth tr_ripe tr_foot tr_fork tr_settings no_apron no_basket no_ground no_bruised no_helper no_today ro_size ro_numbers := by
  rw [F_X9_birds] at hq
  refine And.intro (fun c1 => ?_) (fun c1 => ?_)
  · have h := And.left h c1
    rw [if_pos c1] at hq
    have q9 := hq _ rfl
    dsimp only at q9
    exact q9 h
  · have h := And.right h c1
    rw [if_neg c1] at hq
    refine And.intro (fun c2 => ?_) (fun c2 => ?_)
    · have h := And.left h c2
      rw [if_pos c2] at hq
      refine du_X5_look h ?_
      intro h
      refine du_X5_worthLeft h ?_
      intro h
      obtain ⟨n3, h⟩ := h
      refine ⟨n3, dl_X9_birds_33 (a := (0, (F_X5_worthLeft 0 (F_X5_look pl_wanted pl_near tr_fruits tr_standings tr_x tr_height tr_ripe tr_foot tr_fork tr_settings no_apron no_basket no_ground no_helper no_today).1 (F_X5_look pl_wanted pl_near tr_fruits tr_standings tr_x tr_height tr_ripe tr_foot tr_fork tr_settings no_apron no_basket no_ground no_helper no_today).2 tr_fruits tr_standings tr_worth no_bruised))) (i := 1) (by decide) hy0 ?_ n3 0 1 (by decide) (Nat.zero_le _) h⟩
      intro cc4 s5 ec6 es7 h
      rw [← ec6, ← es7, ex_X9_birds_33] at hq
      refine du_X5_reachedBy h ?_
      intro h
      refine ae ?_
      have h := h _ rfl
      refine du_X9_tell_ h ?_
      intro h
      have q9 := hq _ rfl
      dsimp only at q9
      exact q9 h
    · have h := And.right h c2
      rw [if_neg c2] at hq
      have q9 := hq _ rfl
      dsimp only at q9
      exact q9 h
theorem du_X9_birds {P Q : Int32 → Int32 → (Nat → Int32) → Int32 → (Nat → Int32) → Prop} {p0 : Int32} {pl_wanted : Int32} {pl_near : Nat → Int32} {tr_fruits : Int32} {tr_standings : Int32} {tr_x : Nat → Int32} {tr_height : Nat → Int32} {tr_worth : Nat → Int32} {tr_ripe : Nat → Int32} {tr_foot : Nat → Int32} {tr_fork : Nat → Int32} {tr_settings : Nat → Int32} {no_apron : Int32} {no_basket : Int32} {no_ground : Int32} {no_bruised : Int32} {no_helper : Int32} {no_today : Int32} {ro_size : Int32} {ro_numbers : Nat → Int32} (hy0 : Int32.toInt (F_X3_allStandings tr_standings) < 2147483647) (h : wp_X9_birds P p0 pl_wanted pl_near tr_fruits tr_standings tr_x tr_height tr_worth tr_ripe tr_foot tr_fork tr_settings no_apron no_basket no_ground no_bruised no_helper no_today ro_size ro_numbers) (hq : P (F_X9_birds p0 pl_wanted pl_near tr_fruits tr_standings tr_x tr_height tr_worth tr_ripe tr_foot tr_fork tr_settings no_apron no_basket no_ground no_bruised no_helper no_today ro_size ro_numbers).1 (F_X9_birds p0 pl_wanted pl_near tr_fruits tr_standings tr_x tr_height tr_worth tr_ripe tr_foot tr_fork tr_settings no_apron no_basket no_ground no_bruised no_helper no_today ro_size ro_numbers).2.1 (F_X9_birds p0 pl_wanted pl_near tr_fruits tr_standings tr_x tr_height tr_worth tr_ripe tr_foot tr_fork tr_settings no_apron no_basket no_ground no_bruised no_helper no_today ro_size ro_numbers).2.2.1 (F_X9_birds p0 pl_wanted pl_near tr_fruits tr_standings tr_x tr_height tr_worth tr_ripe tr_foot tr_fork tr_settings no_apron no_basket no_ground no_bruised no_helper no_today ro_size ro_numbers).2.2.2.1 (F_X9_birds p0 pl_wanted pl_near tr_fruits tr_standings tr_x tr_height tr_worth tr_ripe tr_foot tr_fork tr_settings no_apron no_basket no_ground no_bruised no_helper no_today ro_size ro_numbers).2.2.2.2 → Q (F_X9_birds p0 pl_wanted pl_near tr_fruits tr_standings tr_x tr_height tr_worth tr_ripe tr_foot tr_fork tr_settings no_apron no_basket no_ground no_bruised no_helper no_today ro_size ro_numbers).1 (F_X9_birds p0 pl_wanted pl_near tr_fruits tr_standings tr_x tr_height tr_worth tr_ripe tr_foot tr_fork tr_settings no_apron no_basket no_ground no_bruised no_helper no_today ro_size ro_numbers).2.1 (F_X9_birds p0 pl_wanted pl_near tr_fruits tr_standings tr_x tr_height tr_worth tr_ripe tr_foot tr_fork tr_settings no_apron no_basket no_ground no_bruised no_helper no_today ro_size ro_numbers).2.2.1 (F_X9_birds p0 pl_wanted pl_near tr_fruits tr_standings tr_x tr_height tr_worth tr_ripe tr_foot tr_fork tr_settings no_apron no_basket no_ground no_bruised no_helper no_today ro_size ro_numbers).2.2.2.1 (F_X9_birds p0 pl_wanted pl_near tr_fruits tr_standings tr_x tr_height tr_worth tr_ripe tr_foot tr_fork tr_settings no_apron no_basket no_ground no_bruised no_helper no_today ro_size ro_numbers).2.2.2.2) : wp_X9_birds Q p0 pl_wanted pl_near tr_fruits tr_standings tr_x tr_height tr_worth tr_ripe tr_foot tr_fork tr_settings no_apron no_basket no_ground no_bruised no_helper no_today ro_size ro_numbers := dt_X9_birds hy0 h (fun o eo => by rw [eo]; exact hq)
theorem dw_X9_birds {Q : Int32 → Int32 → (Nat → Int32) → Int32 → (Nat → Int32) → Prop} {p0 : Int32} {pl_wanted : Int32} {pl_near : Nat → Int32} {tr_fruits : Int32} {tr_standings : Int32} {tr_x : Nat → Int32} {tr_height : Nat → Int32} {tr_worth : Nat → Int32} {tr_ripe : Nat → Int32} {tr_foot : Nat → Int32} {tr_fork : Nat → Int32} {tr_settings : Nat → Int32} {no_apron : Int32} {no_basket : Int32} {no_ground : Int32} {no_bruised : Int32} {no_helper : Int32} {no_today : Int32} {ro_size : Int32} {ro_numbers : Nat → Int32} (hy0 : Int32.toInt (F_X3_allStandings tr_standings) < 2147483647) (h : wp_X9_birds (fun o0 o1 o2 o3 o4 => (o0, o1, o2, o3, o4) = F_X9_birds p0 pl_wanted pl_near tr_fruits tr_standings tr_x tr_height tr_worth tr_ripe tr_foot tr_fork tr_settings no_apron no_basket no_ground no_bruised no_helper no_today ro_size ro_numbers → Q o0 o1 o2 o3 o4) p0 pl_wanted pl_near tr_fruits tr_standings tr_x tr_height tr_worth tr_ripe tr_foot tr_fork tr_settings no_apron no_basket no_ground no_bruised no_helper no_today ro_size ro_numbers) : wp_X9_birds Q p0 pl_wanted pl_near tr_fruits tr_standings tr_x tr_height tr_worth tr_ripe tr_foot tr_fork tr_settings no_apron no_basket no_ground no_bruised no_helper no_today ro_size ro_numbers := dt_X9_birds hy0 h (fun o eo hp => hp eo)
noncomputable def F_X3_areStandings (p0 : Int32) (tr_standings : Int32) : Int32 := if (p0 &&& ((F_X3_allStandings tr_standings) ^^^ (-1))) = 0 then 1 else 0
set_option maxHeartbeats 200000 in
set_option maxRecDepth 10000 in
theorem dt_X3_areStandings {P Q : Int32 → Prop} {p0 : Int32} {tr_standings : Int32} (h : wp_X3_areStandings P p0 tr_standings) (hq : ∀ o : Int32, o = F_X3_areStandings p0 tr_standings → P o → Q o) : wp_X3_areStandings Q p0 tr_standings := by
  rw [F_X3_areStandings] at hq
  refine du_X3_allStandings h ?_
  intro h
  refine And.intro (fun c1 => ?_) (fun c1 => ?_)
  · have h := And.left h c1
    rw [if_neg c1] at hq
    have q9 := hq _ rfl
    exact q9 h
  · have h := And.right h c1
    rw [if_pos c1] at hq
    have q9 := hq _ rfl
    exact q9 h
theorem du_X3_areStandings {P Q : Int32 → Prop} {p0 : Int32} {tr_standings : Int32} (h : wp_X3_areStandings P p0 tr_standings) (hq : P (F_X3_areStandings p0 tr_standings) → Q (F_X3_areStandings p0 tr_standings)) : wp_X3_areStandings Q p0 tr_standings := dt_X3_areStandings h (fun o eo => by rw [eo]; exact hq)
noncomputable def j_X9_next_80 {R : Type} (k28 : Int32 → Int32 → Int32 → Int32 → Int32 → (Nat → Int32) → Int32 → (Nat → Int32) → R) (tr_fruits : Int32) (tr_standings : Int32) (tr_x : Nat → Int32) (tr_height : Nat → Int32) (tr_worth : Nat → Int32) (tr_ripe : Nat → Int32) (tr_foot : Nat → Int32) (tr_fork : Nat → Int32) (tr_settings : Nat → Int32) (no_apron : Int32) (no_basket : Int32) (no_ground : Int32) (no_bruised : Int32) (no_helper : Int32) (no_today : Int32) (x1 : Int32) (x2 : Int32) (x3 : Int32) (x4 : Int32) (pl_wanted : Int32) (pl_near : Nat → Int32) (ro_size : Int32) (ro_numbers : Nat → Int32) : R := k28 x1 x2 x3 (x4 + 1) pl_wanted pl_near ro_size ro_numbers
noncomputable def j_X9_next_74 {R : Type} (k28 : Int32 → Int32 → Int32 → Int32 → Int32 → (Nat → Int32) → Int32 → (Nat → Int32) → R) (tr_fruits : Int32) (tr_standings : Int32) (tr_x : Nat → Int32) (tr_height : Nat → Int32) (tr_worth : Nat → Int32) (tr_ripe : Nat → Int32) (tr_foot : Nat → Int32) (tr_fork : Nat → Int32) (tr_settings : Nat → Int32) (no_apron : Int32) (no_basket : Int32) (no_ground : Int32) (no_bruised : Int32) (no_helper : Int32) (no_today : Int32) (x1 : Int32) (x4 : Int32) (x5 : Int32) (pl_wanted : Int32) (pl_near : Nat → Int32) (ro_size : Int32) (ro_numbers : Nat → Int32) : R := j_X9_next_80 k28 tr_fruits tr_standings tr_x tr_height tr_worth tr_ripe tr_foot tr_fork tr_settings no_apron no_basket no_ground no_bruised no_helper no_today x1 x4 x5 x4 pl_wanted pl_near ro_size ro_numbers
noncomputable def bd_X9_next_28 (tr_fruits : Int32) (tr_standings : Int32) (tr_x : Nat → Int32) (tr_height : Nat → Int32) (tr_worth : Nat → Int32) (tr_ripe : Nat → Int32) (tr_foot : Nat → Int32) (tr_fork : Nat → Int32) (tr_settings : Nat → Int32) (no_apron : Int32) (no_basket : Int32) (no_ground : Int32) (no_bruised : Int32) (no_helper : Int32) (no_today : Int32) (x1 : Int32) (pl_wanted : Int32) (pl_near : Nat → Int32) (ro_size : Int32) (ro_numbers : Nat → Int32) (c : Int32) (s : Int32 × Int32) : Int32 × Int32 := if ((x1 >>> (c &&& 31)) &&& 1) = 0 then (if s.1 < 0 then (j_X9_next_74 (fun q0 q1 q2 q3 q4 q5 q6 q7 => (q1, q2)) tr_fruits tr_standings tr_x tr_height tr_worth tr_ripe tr_foot tr_fork tr_settings no_apron no_basket no_ground no_bruised no_helper no_today x1 c (F_X5_worthLeft (x1 ||| (1 <<< (c &&& 31))) pl_wanted pl_near tr_fruits tr_standings tr_worth no_bruised) pl_wanted pl_near ro_size ro_numbers) else (if s.2 ≤ (F_X5_worthLeft (x1 ||| (1 <<< (c &&& 31))) pl_wanted pl_near tr_fruits tr_standings tr_worth no_bruised) then (j_X9_next_80 (fun q0 q1 q2 q3 q4 q5 q6 q7 => (q1, q2)) tr_fruits tr_standings tr_x tr_height tr_worth tr_ripe tr_foot tr_fork tr_settings no_apron no_basket no_ground no_bruised no_helper no_today x1 s.1 s.2 c pl_wanted pl_near ro_size ro_numbers) else (j_X9_next_74 (fun q0 q1 q2 q3 q4 q5 q6 q7 => (q1, q2)) tr_fruits tr_standings tr_x tr_height tr_worth tr_ripe tr_foot tr_fork tr_settings no_apron no_basket no_ground no_bruised no_helper no_today x1 c (F_X5_worthLeft (x1 ||| (1 <<< (c &&& 31))) pl_wanted pl_near tr_fruits tr_standings tr_worth no_bruised) pl_wanted pl_near ro_size ro_numbers))) else (j_X9_next_80 (fun q0 q1 q2 q3 q4 q5 q6 q7 => (q1, q2)) tr_fruits tr_standings tr_x tr_height tr_worth tr_ripe tr_foot tr_fork tr_settings no_apron no_basket no_ground no_bruised no_helper no_today x1 s.1 s.2 c pl_wanted pl_near ro_size ro_numbers)
noncomputable def ex_X9_next_28 {R : Type} (po : Int32 → Int32 → (Nat → Int32) → Int32 → (Nat → Int32) → R) (tr_fruits : Int32) (tr_standings : Int32) (tr_x : Nat → Int32) (tr_height : Nat → Int32) (tr_worth : Nat → Int32) (tr_ripe : Nat → Int32) (tr_foot : Nat → Int32) (tr_fork : Nat → Int32) (tr_settings : Nat → Int32) (no_apron : Int32) (no_basket : Int32) (no_ground : Int32) (no_bruised : Int32) (no_helper : Int32) (no_today : Int32) (x1 : Int32) (pl_wanted : Int32) (pl_near : Nat → Int32) (ro_size : Int32) (ro_numbers : Nat → Int32) (c : Int32) (s : Int32 × Int32) : R := if s.1 < 0 then (po s.1 pl_wanted pl_near ro_size ro_numbers) else (po s.1 pl_wanted pl_near ((F_X9_tell_ s.2 (F_X5_worthLeft x1 pl_wanted pl_near tr_fruits tr_standings tr_worth no_bruised) ro_size ro_numbers).1) ((F_X9_tell_ s.2 (F_X5_worthLeft x1 pl_wanted pl_near tr_fruits tr_standings tr_worth no_bruised) ro_size ro_numbers).2))
set_option maxHeartbeats 200000 in
set_option maxRecDepth 10000 in
theorem dl_X9_next_28 {P Q : Int32 → Int32 → (Nat → Int32) → Int32 → (Nat → Int32) → Prop} {tr_fruits : Int32} {tr_standings : Int32} {tr_x : Nat → Int32} {tr_height : Nat → Int32} {tr_worth : Nat → Int32} {tr_ripe : Nat → Int32} {tr_foot : Nat → Int32} {tr_fork : Nat → Int32} {tr_settings : Nat → Int32} {no_apron : Int32} {no_basket : Int32} {no_ground : Int32} {no_bruised : Int32} {no_helper : Int32} {no_today : Int32} {x1 : Int32} {pl_wanted : Int32} {pl_near : Nat → Int32} {ro_size : Int32} {ro_numbers : Nat → Int32} {a : Int32 × Int32} {i : Nat} (hi0 : i < 2147483648) (hE : ∀ (c : Int32) (s : Int32 × Int32), c = nI (i + (Int32.toInt tr_standings - ((i : Nat) : Int)).toNat) → s = itr (bd_X9_next_28 tr_fruits tr_standings tr_x tr_height tr_worth tr_ripe tr_foot tr_fork tr_settings no_apron no_basket no_ground no_bruised no_helper no_today x1 pl_wanted pl_near ro_size ro_numbers) a i (Int32.toInt tr_standings - ((i : Nat) : Int)).toNat → ((s.1 < 0 → P s.1 pl_wanted pl_near ro_size ro_numbers) ∧ (¬ s.1 < 0 → wp_X5_worthLeft (fun r_4 => wp_X9_tell_ (fun ro_size_5 ro_numbers_6 => P s.1 pl_wanted pl_near ro_size_5 ro_numbers_6) s.2 r_4 ro_size ro_numbers) x1 pl_wanted pl_near tr_fruits tr_standings tr_worth no_bruised)) → ((s.1 < 0 → Q s.1 pl_wanted pl_near ro_size ro_numbers) ∧ (¬ s.1 < 0 → wp_X5_worthLeft (fun r_4 => wp_X9_tell_ (fun ro_size_5 ro_numbers_6 => Q s.1 pl_wanted pl_near ro_size_5 ro_numbers_6) s.2 r_4 ro_size ro_numbers) x1 pl_wanted pl_near tr_fruits tr_standings tr_worth no_bruised))) : ∀ (n k : Nat) (c : Int32), c = nI (i + k) → k ≤ (Int32.toInt tr_standings - ((i : Nat) : Int)).toNat → wb_X9_next_28 P tr_fruits tr_standings tr_x tr_height tr_worth tr_ripe tr_foot tr_fork tr_settings no_apron no_basket no_ground no_bruised no_helper no_today n x1 (itr (bd_X9_next_28 tr_fruits tr_standings tr_x tr_height tr_worth tr_ripe tr_foot tr_fork tr_settings no_apron no_basket no_ground no_bruised no_helper no_today x1 pl_wanted pl_near ro_size ro_numbers) a i k).1 (itr (bd_X9_next_28 tr_fruits tr_standings tr_x tr_height tr_worth tr_ripe tr_foot tr_fork tr_settings no_apron no_basket no_ground no_bruised no_helper no_today x1 pl_wanted pl_near ro_size ro_numbers) a i k).2 c pl_wanted pl_near ro_size ro_numbers → wb_X9_next_28 Q tr_fruits tr_standings tr_x tr_height tr_worth tr_ripe tr_foot tr_fork tr_settings no_apron no_basket no_ground no_bruised no_helper no_today n x1 (itr (bd_X9_next_28 tr_fruits tr_standings tr_x tr_height tr_worth tr_ripe tr_foot tr_fork tr_settings no_apron no_basket no_ground no_bruised no_helper no_today x1 pl_wanted pl_near ro_size ro_numbers) a i k).1 (itr (bd_X9_next_28 tr_fruits tr_standings tr_x tr_height tr_worth tr_ripe tr_foot tr_fork tr_settings no_apron no_basket no_ground no_bruised no_helper no_today x1 pl_wanted pl_near ro_size ro_numbers) a i k).2 c pl_wanted pl_near ro_size ro_numbers := by
  intro n
  induction n with
  | zero => intro k c hc hk h; exact False.elim h
  | succ n ih =>
    intro k c hc hk h
    have hr := tp_r tr_standings
    have hi : Int32.toInt c = ((i + k : Nat) : Int) := by rw [hc]; exact nI_toInt (by omega)
    refine And.intro (fun t0 => ?_) (fun t0 => ?_)
    · have h := And.left h t0
      have t1 := (fa_le _ _).mp t0
      have hk2 : k = (Int32.toInt tr_standings - ((i : Nat) : Int)).toNat := by omega
      subst hk2
      exact hE _ _ hc rfl h
    · have h := And.right h t0
      have t1 := mt (fa_le _ _).mpr t0
      have hs : ∀ o : Int32 × Int32, o = itr (bd_X9_next_28 tr_fruits tr_standings tr_x tr_height tr_worth tr_ripe tr_foot tr_fork tr_settings no_apron no_basket no_ground no_bruised no_helper no_today x1 pl_wanted pl_near ro_size ro_numbers) a i (k + 1) → wb_X9_next_28 P tr_fruits tr_standings tr_x tr_height tr_worth tr_ripe tr_foot tr_fork tr_settings no_apron no_basket no_ground no_bruised no_helper no_today n x1 o.1 o.2 (c + 1) pl_wanted pl_near ro_size ro_numbers → wb_X9_next_28 Q tr_fruits tr_standings tr_x tr_height tr_worth tr_ripe tr_foot tr_fork tr_settings no_apron no_basket no_ground no_bruised no_helper no_today n x1 o.1 o.2 (c + 1) pl_wanted pl_near ro_size ro_numbers := by
        intro o eo h9
        have q := ih (k + 1) (c + 1) (by rw [hc]; exact nI_1 _) (by omega)
        rw [← eo] at q
        exact q h9
      rw [itr_s, ← hc, bd_X9_next_28] at hs
      refine ae ?_
      have h := h _ rfl
      refine And.intro (fun c1 => ?_) (fun c1 => ?_)
      · have h := And.left h c1
        rw [if_neg c1] at hs
        rw [j_X9_next_80] at hs
        unfold ws_X9_next_80 at h ⊢
        refine ae ?_
        have h := h _ rfl
        have q9 := hs _ rfl
        dsimp only at q9
        exact q9 h
      · have h := And.right h c1
        rw [if_pos c1] at hs
        refine ae ?_
        have h := h _ rfl
        refine du_X5_worthLeft h ?_
        intro h
        refine And.intro (fun c2 => ?_) (fun c2 => ?_)
        · have h := And.left h c2
          rw [if_pos c2] at hs
          rw [j_X9_next_74] at hs
          unfold ws_X9_next_74 at h ⊢
          rw [j_X9_next_80] at hs
          unfold ws_X9_next_80 at h ⊢
          refine ae ?_
          have h := h _ rfl
          have q9 := hs _ rfl
          dsimp only at q9
          exact q9 h
        · have h := And.right h c2
          rw [if_neg c2] at hs
          refine And.intro (fun c3 => ?_) (fun c3 => ?_)
          · have h := And.left h c3
            rw [if_pos c3] at hs
            rw [j_X9_next_80] at hs
            unfold ws_X9_next_80 at h ⊢
            refine ae ?_
            have h := h _ rfl
            have q9 := hs _ rfl
            dsimp only at q9
            exact q9 h
          · have h := And.right h c3
            rw [if_neg c3] at hs
            rw [j_X9_next_74] at hs
            unfold ws_X9_next_74 at h ⊢
            rw [j_X9_next_80] at hs
            unfold ws_X9_next_80 at h ⊢
            refine ae ?_
            have h := h _ rfl
            have q9 := hs _ rfl
            dsimp only at q9
            exact q9 h
noncomputable def F_X9_next (p0 : Int32) (pl_wanted : Int32) (pl_near : Nat → Int32) (tr_fruits : Int32) (tr_standings : Int32) (tr_x : Nat → Int32) (tr_height : Nat → Int32) (tr_worth : Nat → Int32) (tr_ripe : Nat → Int32) (tr_foot : Nat → Int32) (tr_fork : Nat → Int32) (tr_settings : Nat → Int32) (no_apron : Int32) (no_basket : Int32) (no_ground : Int32) (no_bruised : Int32) (no_helper : Int32) (no_today : Int32) (ro_size : Int32) (ro_numbers : Nat → Int32) : Int32 × Int32 × (Nat → Int32) × Int32 × (Nat → Int32) := if (F_X3_areStandings p0 tr_standings) = 0 then ((-1), pl_wanted, pl_near, ro_size, ro_numbers) else (ex_X9_next_28 (fun o0 o1 o2 o3 o4 => (o0, o1, o2, o3, o4)) tr_fruits tr_standings tr_x tr_height tr_worth tr_ripe tr_foot tr_fork tr_settings no_apron no_basket no_ground no_bruised no_helper no_today p0 ((F_X5_look pl_wanted pl_near tr_fruits tr_standings tr_x tr_height tr_ripe tr_foot tr_fork tr_settings no_apron no_basket no_ground no_helper no_today).1) ((F_X5_look pl_wanted pl_near tr_fruits tr_standings tr_x tr_height tr_ripe tr_foot tr_fork tr_settings no_apron no_basket no_ground no_helper no_today).2) ro_size ro_numbers (nI (0 + (Int32.toInt tr_standings - ((0 : Nat) : Int)).toNat)) (itr (bd_X9_next_28 tr_fruits tr_standings tr_x tr_height tr_worth tr_ripe tr_foot tr_fork tr_settings no_apron no_basket no_ground no_bruised no_helper no_today p0 ((F_X5_look pl_wanted pl_near tr_fruits tr_standings tr_x tr_height tr_ripe tr_foot tr_fork tr_settings no_apron no_basket no_ground no_helper no_today).1) ((F_X5_look pl_wanted pl_near tr_fruits tr_standings tr_x tr_height tr_ripe tr_foot tr_fork tr_settings no_apron no_basket no_ground no_helper no_today).2) ro_size ro_numbers) ((-2), 0) 0 (Int32.toInt tr_standings - ((0 : Nat) : Int)).toNat))
set_option maxHeartbeats 200000 in
set_option maxRecDepth 10000 in
theorem dt_X9_next {P Q : Int32 → Int32 → (Nat → Int32) → Int32 → (Nat → Int32) → Prop} {p0 : Int32} {pl_wanted : Int32} {pl_near : Nat → Int32} {tr_fruits : Int32} {tr_standings : Int32} {tr_x : Nat → Int32} {tr_height : Nat → Int32} {tr_worth : Nat → Int32} {tr_ripe : Nat → Int32} {tr_foot : Nat → Int32} {tr_fork : Nat → Int32} {tr_settings : Nat → Int32} {no_apron : Int32} {no_basket : Int32} {no_ground : Int32} {no_bruised : Int32} {no_helper : Int32} {no_today : Int32} {ro_size : Int32} {ro_numbers : Nat → Int32} (h : wp_X9_next P p0 pl_wanted pl_near tr_fruits tr_standings tr_x tr_height tr_worth tr_ripe tr_foot tr_fork tr_settings no_apron no_basket no_ground no_bruised no_helper no_today ro_size ro_numbers) (hq : ∀ o : Int32 × Int32 × (Nat → Int32) × Int32 × (Nat → Int32), o = F_X9_next p0 pl_wanted pl_near tr_fruits tr_standings tr_x tr_height tr_worth tr_ripe tr_foot tr_fork tr_settings no_apron no_basket no_ground no_bruised no_helper no_today ro_size ro_numbers → P o.1 o.2.1 o.2.2.1 o.2.2.2.1 o.2.2.2.2 → Q o.1 o.2.1 o.2.2.1 o.2.2.2.1 o.2.2.2.2) : wp_X9_next Q p0 pl_wanted pl_near tr_fruits tr_standings tr_x tr_height tr_worth tr_ripe tr_foot tr_fork tr_settings no_apron no_basket no_ground no_bruised no_helper no_today ro_size ro_numbers := by
  rw [F_X9_next] at hq
  refine du_X3_areStandings h ?_
  intro h
  refine And.intro (fun c1 => ?_) (fun c1 => ?_)
  · have h := And.left h c1
    rw [if_neg c1] at hq
    refine du_X5_look h ?_
    intro h
    obtain ⟨n2, h⟩ := h
    refine ⟨n2, dl_X9_next_28 (a := ((-2), 0)) (i := 0) (by decide) ?_ n2 0 0 (by decide) (Nat.zero_le _) h⟩
    intro cc3 s4 ec5 es6 h
    rw [← ec5, ← es6, ex_X9_next_28] at hq
    refine And.intro (fun c7 => ?_) (fun c7 => ?_)
    · have h := And.left h c7
      rw [if_pos c7] at hq
      have q9 := hq _ rfl
      dsimp only at q9
      exact q9 h
    · have h := And.right h c7
      rw [if_neg c7] at hq
      refine du_X5_worthLeft h ?_
      intro h
      refine du_X9_tell_ h ?_
      intro h
      have q9 := hq _ rfl
      dsimp only at q9
      exact q9 h
  · have h := And.right h c1
    rw [if_pos c1] at hq
    have q9 := hq _ rfl
    dsimp only at q9
    exact q9 h
theorem du_X9_next {P Q : Int32 → Int32 → (Nat → Int32) → Int32 → (Nat → Int32) → Prop} {p0 : Int32} {pl_wanted : Int32} {pl_near : Nat → Int32} {tr_fruits : Int32} {tr_standings : Int32} {tr_x : Nat → Int32} {tr_height : Nat → Int32} {tr_worth : Nat → Int32} {tr_ripe : Nat → Int32} {tr_foot : Nat → Int32} {tr_fork : Nat → Int32} {tr_settings : Nat → Int32} {no_apron : Int32} {no_basket : Int32} {no_ground : Int32} {no_bruised : Int32} {no_helper : Int32} {no_today : Int32} {ro_size : Int32} {ro_numbers : Nat → Int32} (h : wp_X9_next P p0 pl_wanted pl_near tr_fruits tr_standings tr_x tr_height tr_worth tr_ripe tr_foot tr_fork tr_settings no_apron no_basket no_ground no_bruised no_helper no_today ro_size ro_numbers) (hq : P (F_X9_next p0 pl_wanted pl_near tr_fruits tr_standings tr_x tr_height tr_worth tr_ripe tr_foot tr_fork tr_settings no_apron no_basket no_ground no_bruised no_helper no_today ro_size ro_numbers).1 (F_X9_next p0 pl_wanted pl_near tr_fruits tr_standings tr_x tr_height tr_worth tr_ripe tr_foot tr_fork tr_settings no_apron no_basket no_ground no_bruised no_helper no_today ro_size ro_numbers).2.1 (F_X9_next p0 pl_wanted pl_near tr_fruits tr_standings tr_x tr_height tr_worth tr_ripe tr_foot tr_fork tr_settings no_apron no_basket no_ground no_bruised no_helper no_today ro_size ro_numbers).2.2.1 (F_X9_next p0 pl_wanted pl_near tr_fruits tr_standings tr_x tr_height tr_worth tr_ripe tr_foot tr_fork tr_settings no_apron no_basket no_ground no_bruised no_helper no_today ro_size ro_numbers).2.2.2.1 (F_X9_next p0 pl_wanted pl_near tr_fruits tr_standings tr_x tr_height tr_worth tr_ripe tr_foot tr_fork tr_settings no_apron no_basket no_ground no_bruised no_helper no_today ro_size ro_numbers).2.2.2.2 → Q (F_X9_next p0 pl_wanted pl_near tr_fruits tr_standings tr_x tr_height tr_worth tr_ripe tr_foot tr_fork tr_settings no_apron no_basket no_ground no_bruised no_helper no_today ro_size ro_numbers).1 (F_X9_next p0 pl_wanted pl_near tr_fruits tr_standings tr_x tr_height tr_worth tr_ripe tr_foot tr_fork tr_settings no_apron no_basket no_ground no_bruised no_helper no_today ro_size ro_numbers).2.1 (F_X9_next p0 pl_wanted pl_near tr_fruits tr_standings tr_x tr_height tr_worth tr_ripe tr_foot tr_fork tr_settings no_apron no_basket no_ground no_bruised no_helper no_today ro_size ro_numbers).2.2.1 (F_X9_next p0 pl_wanted pl_near tr_fruits tr_standings tr_x tr_height tr_worth tr_ripe tr_foot tr_fork tr_settings no_apron no_basket no_ground no_bruised no_helper no_today ro_size ro_numbers).2.2.2.1 (F_X9_next p0 pl_wanted pl_near tr_fruits tr_standings tr_x tr_height tr_worth tr_ripe tr_foot tr_fork tr_settings no_apron no_basket no_ground no_bruised no_helper no_today ro_size ro_numbers).2.2.2.2) : wp_X9_next Q p0 pl_wanted pl_near tr_fruits tr_standings tr_x tr_height tr_worth tr_ripe tr_foot tr_fork tr_settings no_apron no_basket no_ground no_bruised no_helper no_today ro_size ro_numbers := dt_X9_next h (fun o eo => by rw [eo]; exact hq)
theorem dw_X9_next {Q : Int32 → Int32 → (Nat → Int32) → Int32 → (Nat → Int32) → Prop} {p0 : Int32} {pl_wanted : Int32} {pl_near : Nat → Int32} {tr_fruits : Int32} {tr_standings : Int32} {tr_x : Nat → Int32} {tr_height : Nat → Int32} {tr_worth : Nat → Int32} {tr_ripe : Nat → Int32} {tr_foot : Nat → Int32} {tr_fork : Nat → Int32} {tr_settings : Nat → Int32} {no_apron : Int32} {no_basket : Int32} {no_ground : Int32} {no_bruised : Int32} {no_helper : Int32} {no_today : Int32} {ro_size : Int32} {ro_numbers : Nat → Int32} (h : wp_X9_next (fun o0 o1 o2 o3 o4 => (o0, o1, o2, o3, o4) = F_X9_next p0 pl_wanted pl_near tr_fruits tr_standings tr_x tr_height tr_worth tr_ripe tr_foot tr_fork tr_settings no_apron no_basket no_ground no_bruised no_helper no_today ro_size ro_numbers → Q o0 o1 o2 o3 o4) p0 pl_wanted pl_near tr_fruits tr_standings tr_x tr_height tr_worth tr_ripe tr_foot tr_fork tr_settings no_apron no_basket no_ground no_bruised no_helper no_today ro_size ro_numbers) : wp_X9_next Q p0 pl_wanted pl_near tr_fruits tr_standings tr_x tr_height tr_worth tr_ripe tr_foot tr_fork tr_settings no_apron no_basket no_ground no_bruised no_helper no_today ro_size ro_numbers := dt_X9_next h (fun o eo hp => hp eo)
noncomputable def F_X0_withoutLadder (p0 : Int32) (no_ladder : Int32) : Int32 := if no_ladder = (-1) then p0 else (p0 &&& ((1 <<< (no_ladder &&& 31)) ^^^ (-1)))
set_option maxHeartbeats 200000 in
set_option maxRecDepth 10000 in
theorem dt_X0_withoutLadder {P Q : Int32 → Prop} {p0 : Int32} {no_ladder : Int32} (h : wp_X0_withoutLadder P p0 no_ladder) (hq : ∀ o : Int32, o = F_X0_withoutLadder p0 no_ladder → P o → Q o) : wp_X0_withoutLadder Q p0 no_ladder := by
  rw [F_X0_withoutLadder] at hq
  refine And.intro (fun c1 => ?_) (fun c1 => ?_)
  · have h := And.left h c1
    rw [if_neg c1] at hq
    refine ae ?_
    have h := h _ rfl
    have q9 := hq _ rfl
    exact q9 h
  · have h := And.right h c1
    rw [if_pos c1] at hq
    have q9 := hq _ rfl
    exact q9 h
theorem du_X0_withoutLadder {P Q : Int32 → Prop} {p0 : Int32} {no_ladder : Int32} (h : wp_X0_withoutLadder P p0 no_ladder) (hq : P (F_X0_withoutLadder p0 no_ladder) → Q (F_X0_withoutLadder p0 no_ladder)) : wp_X0_withoutLadder Q p0 no_ladder := dt_X0_withoutLadder h (fun o eo => by rw [eo]; exact hq)
noncomputable def j_X3_waySeconds_67 {R : Type} (k21 : Int32 → Int32 → Int32 → Int32 → Int32 → Int32 → R) (tr_standings : Int32) (tr_foot : Nat → Int32) (tr_settings : Nat → Int32) (x1 : Int32) (x2 : Int32) (x3 : Int32) (x4 : Int32) (x5 : Int32) (x6 : Int32) : R := k21 x1 x2 x3 x4 x5 (x6 + 1)
noncomputable def bd_X3_waySeconds_21 (tr_standings : Int32) (tr_foot : Nat → Int32) (tr_settings : Nat → Int32) (x1 : Int32) (x2 : Int32) (x3 : Int32) (c : Int32) (s : Int32 × Int32) : Int32 × Int32 := if ((x2 >>> (c &&& 31)) &&& 1) = 0 then (j_X3_waySeconds_67 (fun q0 q1 q2 q3 q4 q5 => (q3, q4)) tr_standings tr_foot tr_settings x1 x2 x3 s.1 s.2 c) else (j_X3_waySeconds_67 (fun q0 q1 q2 q3 q4 q5 => (q3, q4)) tr_standings tr_foot tr_settings x1 x2 x3 (if (tr_foot c.toNatClampNeg) < s.1 then (tr_foot c.toNatClampNeg) else s.1) (if s.2 < (tr_foot c.toNatClampNeg) then (tr_foot c.toNatClampNeg) else s.2) c)
noncomputable def j_X3_waySeconds_117 {R : Type} (po : Int32 → R) (tr_standings : Int32) (tr_foot : Nat → Int32) (tr_settings : Nat → Int32) (x3 : Int32) (x6 : Int32) : R := po ((9 * x3) + ((tr_settings (3 : Int32).toNatClampNeg) * x6))
noncomputable def ex_X3_waySeconds_21 {R : Type} (po : Int32 → R) (tr_standings : Int32) (tr_foot : Nat → Int32) (tr_settings : Nat → Int32) (x1 : Int32) (x2 : Int32) (x3 : Int32) (c : Int32) (s : Int32 × Int32) : R := if x1 = (-1) then (j_X3_waySeconds_117 po tr_standings tr_foot tr_settings x3 (s.2 - s.1)) else (j_X3_waySeconds_117 po tr_standings tr_foot tr_settings x3 ((s.2 - s.1) + (if (if 0 ≤ ((tr_foot x1.toNatClampNeg) - s.2) then ((tr_foot x1.toNatClampNeg) - s.2) else 0 - ((tr_foot x1.toNatClampNeg) - s.2)) < (if 0 ≤ ((tr_foot x1.toNatClampNeg) - s.1) then ((tr_foot x1.toNatClampNeg) - s.1) else 0 - ((tr_foot x1.toNatClampNeg) - s.1)) then (if 0 ≤ ((tr_foot x1.toNatClampNeg) - s.2) then ((tr_foot x1.toNatClampNeg) - s.2) else 0 - ((tr_foot x1.toNatClampNeg) - s.2)) else (if 0 ≤ ((tr_foot x1.toNatClampNeg) - s.1) then ((tr_foot x1.toNatClampNeg) - s.1) else 0 - ((tr_foot x1.toNatClampNeg) - s.1)))))
set_option maxHeartbeats 200000 in
set_option maxRecDepth 10000 in
theorem dl_X3_waySeconds_21 {P Q : Int32 → Prop} {tr_standings : Int32} {tr_foot : Nat → Int32} {tr_settings : Nat → Int32} {x1 : Int32} {x2 : Int32} {x3 : Int32} {a : Int32 × Int32} {i : Nat} (hi0 : i < 2147483648) (hE : ∀ (c : Int32) (s : Int32 × Int32), c = nI (i + (Int32.toInt tr_standings - ((i : Nat) : Int)).toNat) → s = itr (bd_X3_waySeconds_21 tr_standings tr_foot tr_settings x1 x2 x3) a i (Int32.toInt tr_standings - ((i : Nat) : Int)).toNat → (∀ v_2 : Int32, v_2 = s.2 - s.1 → (x1 = (-1) → ws_X3_waySeconds_117 P tr_standings tr_foot tr_settings x3 v_2) ∧ (¬ x1 = (-1) → vp_in x1 8 ∧ (∀ v_5 : Int32, v_5 = tr_foot x1.toNatClampNeg → ∀ v_6 : Int32, v_6 = v_5 - s.1 → ∀ v_7 : Int32, v_7 = (if 0 ≤ v_6 then v_6 else 0 - v_6) → vp_in x1 8 ∧ (∀ v_8 : Int32, v_8 = tr_foot x1.toNatClampNeg → ∀ v_9 : Int32, v_9 = v_8 - s.2 → ∀ v_10 : Int32, v_10 = (if 0 ≤ v_9 then v_9 else 0 - v_9) → ∀ v_11 : Int32, v_11 = (if v_10 < v_7 then v_10 else v_7) → ∀ v_12 : Int32, v_12 = v_2 + v_11 → ws_X3_waySeconds_117 P tr_standings tr_foot tr_settings x3 v_12)))) → (∀ v_2 : Int32, v_2 = s.2 - s.1 → (x1 = (-1) → ws_X3_waySeconds_117 Q tr_standings tr_foot tr_settings x3 v_2) ∧ (¬ x1 = (-1) → vp_in x1 8 ∧ (∀ v_5 : Int32, v_5 = tr_foot x1.toNatClampNeg → ∀ v_6 : Int32, v_6 = v_5 - s.1 → ∀ v_7 : Int32, v_7 = (if 0 ≤ v_6 then v_6 else 0 - v_6) → vp_in x1 8 ∧ (∀ v_8 : Int32, v_8 = tr_foot x1.toNatClampNeg → ∀ v_9 : Int32, v_9 = v_8 - s.2 → ∀ v_10 : Int32, v_10 = (if 0 ≤ v_9 then v_9 else 0 - v_9) → ∀ v_11 : Int32, v_11 = (if v_10 < v_7 then v_10 else v_7) → ∀ v_12 : Int32, v_12 = v_2 + v_11 → ws_X3_waySeconds_117 Q tr_standings tr_foot tr_settings x3 v_12))))) : ∀ (n k : Nat) (c : Int32), c = nI (i + k) → k ≤ (Int32.toInt tr_standings - ((i : Nat) : Int)).toNat → wb_X3_waySeconds_21 P tr_standings tr_foot tr_settings n x1 x2 x3 (itr (bd_X3_waySeconds_21 tr_standings tr_foot tr_settings x1 x2 x3) a i k).1 (itr (bd_X3_waySeconds_21 tr_standings tr_foot tr_settings x1 x2 x3) a i k).2 c → wb_X3_waySeconds_21 Q tr_standings tr_foot tr_settings n x1 x2 x3 (itr (bd_X3_waySeconds_21 tr_standings tr_foot tr_settings x1 x2 x3) a i k).1 (itr (bd_X3_waySeconds_21 tr_standings tr_foot tr_settings x1 x2 x3) a i k).2 c := by
  intro n
  induction n with
  | zero => intro k c hc hk h; exact False.elim h
  | succ n ih =>
    intro k c hc hk h
    have hr := tp_r tr_standings
    have hi : Int32.toInt c = ((i + k : Nat) : Int) := by rw [hc]; exact nI_toInt (by omega)
    refine And.intro (fun t0 => ?_) (fun t0 => ?_)
    · have h := And.left h t0
      have t1 := (fa_le _ _).mp t0
      have hk2 : k = (Int32.toInt tr_standings - ((i : Nat) : Int)).toNat := by omega
      subst hk2
      exact hE _ _ hc rfl h
    · have h := And.right h t0
      have t1 := mt (fa_le _ _).mpr t0
      have hs : ∀ o : Int32 × Int32, o = itr (bd_X3_waySeconds_21 tr_standings tr_foot tr_settings x1 x2 x3) a i (k + 1) → wb_X3_waySeconds_21 P tr_standings tr_foot tr_settings n x1 x2 x3 o.1 o.2 (c + 1) → wb_X3_waySeconds_21 Q tr_standings tr_foot tr_settings n x1 x2 x3 o.1 o.2 (c + 1) := by
        intro o eo h9
        have q := ih (k + 1) (c + 1) (by rw [hc]; exact nI_1 _) (by omega)
        rw [← eo] at q
        exact q h9
      rw [itr_s, ← hc, bd_X3_waySeconds_21] at hs
      refine ae ?_
      have h := h _ rfl
      refine And.intro (fun c1 => ?_) (fun c1 => ?_)
      · have h := And.left h c1
        rw [if_pos c1] at hs
        rw [j_X3_waySeconds_67] at hs
        unfold ws_X3_waySeconds_67 at h ⊢
        refine ae ?_
        have h := h _ rfl
        have q9 := hs _ rfl
        dsimp only at q9
        exact q9 h
      · have h := And.right h c1
        rw [if_neg c1] at hs
        refine And.intro (And.left h) ?_
        have h := And.right h
        refine ae ?_
        have h := h _ rfl
        refine ae ?_
        have h := h _ rfl
        refine And.intro (And.left h) ?_
        have h := And.right h
        refine ae ?_
        have h := h _ rfl
        refine ae ?_
        have h := h _ rfl
        rw [j_X3_waySeconds_67] at hs
        unfold ws_X3_waySeconds_67 at h ⊢
        refine ae ?_
        have h := h _ rfl
        have q9 := hs _ rfl
        dsimp only at q9
        exact q9 h
noncomputable def F_X3_waySeconds (p0 : Int32) (p1 : Int32) (tr_standings : Int32) (tr_foot : Nat → Int32) (tr_settings : Nat → Int32) : Int32 := if (F_J6_bitCount_0f7a4 p1) = 0 then 0 else (ex_X3_waySeconds_21 (fun o0 => o0) tr_standings tr_foot tr_settings p0 p1 (F_J6_bitCount_0f7a4 p1) (nI (0 + (Int32.toInt tr_standings - ((0 : Nat) : Int)).toNat)) (itr (bd_X3_waySeconds_21 tr_standings tr_foot tr_settings p0 p1 (F_J6_bitCount_0f7a4 p1)) (99, 0) 0 (Int32.toInt tr_standings - ((0 : Nat) : Int)).toNat))
set_option maxHeartbeats 200000 in
set_option maxRecDepth 10000 in
theorem dt_X3_waySeconds {P Q : Int32 → Prop} {p0 : Int32} {p1 : Int32} {tr_standings : Int32} {tr_foot : Nat → Int32} {tr_settings : Nat → Int32} (h : wp_X3_waySeconds P p0 p1 tr_standings tr_foot tr_settings) (hq : ∀ o : Int32, o = F_X3_waySeconds p0 p1 tr_standings tr_foot tr_settings → P o → Q o) : wp_X3_waySeconds Q p0 p1 tr_standings tr_foot tr_settings := by
  rw [F_X3_waySeconds] at hq
  refine du_J6_bitCount_0f7a4 h ?_
  intro h
  refine And.intro (fun c1 => ?_) (fun c1 => ?_)
  · have h := And.left h c1
    rw [if_neg c1] at hq
    obtain ⟨n2, h⟩ := h
    refine ⟨n2, dl_X3_waySeconds_21 (a := (99, 0)) (i := 0) (by decide) ?_ n2 0 0 (by decide) (Nat.zero_le _) h⟩
    intro cc3 s4 ec5 es6 h
    rw [← ec5, ← es6, ex_X3_waySeconds_21] at hq
    refine ae ?_
    have h := h _ rfl
    refine And.intro (fun c7 => ?_) (fun c7 => ?_)
    · have h := And.left h c7
      rw [if_pos c7] at hq
      rw [j_X3_waySeconds_117] at hq
      unfold ws_X3_waySeconds_117 at h ⊢
      refine ae ?_
      have h := h _ rfl
      refine ae ?_
      have h := h _ rfl
      have q9 := hq _ rfl
      exact q9 h
    · have h := And.right h c7
      rw [if_neg c7] at hq
      refine And.intro (And.left h) ?_
      have h := And.right h
      refine ae ?_
      have h := h _ rfl
      refine ae ?_
      have h := h _ rfl
      refine ae ?_
      have h := h _ rfl
      refine And.intro (And.left h) ?_
      have h := And.right h
      refine ae ?_
      have h := h _ rfl
      refine ae ?_
      have h := h _ rfl
      refine ae ?_
      have h := h _ rfl
      refine ae ?_
      have h := h _ rfl
      refine ae ?_
      have h := h _ rfl
      rw [j_X3_waySeconds_117] at hq
      unfold ws_X3_waySeconds_117 at h ⊢
      refine ae ?_
      have h := h _ rfl
      refine ae ?_
      have h := h _ rfl
      have q9 := hq _ rfl
      exact q9 h
  · have h := And.right h c1
    rw [if_pos c1] at hq
    have q9 := hq _ rfl
    exact q9 h
theorem du_X3_waySeconds {P Q : Int32 → Prop} {p0 : Int32} {p1 : Int32} {tr_standings : Int32} {tr_foot : Nat → Int32} {tr_settings : Nat → Int32} (h : wp_X3_waySeconds P p0 p1 tr_standings tr_foot tr_settings) (hq : P (F_X3_waySeconds p0 p1 tr_standings tr_foot tr_settings) → Q (F_X3_waySeconds p0 p1 tr_standings tr_foot tr_settings)) : wp_X3_waySeconds Q p0 p1 tr_standings tr_foot tr_settings := dt_X3_waySeconds h (fun o eo => by rw [eo]; exact hq)
noncomputable def j_X3_firstOfWay_50 {R : Type} (k3 : Int32 → Int32 → Int32 → Int32 → R) (tr_standings : Int32) (tr_foot : Nat → Int32) (tr_settings : Nat → Int32) (x1 : Int32) (x2 : Int32) (x3 : Int32) (x4 : Int32) : R := k3 x1 x2 x3 (x4 + 1)
noncomputable def fs_X3_firstOfWay_3 {R : Type} (po : Int32 → R) (tr_standings : Int32) (tr_foot : Nat → Int32) (tr_settings : Nat → Int32) (nx : Int32 → Int32 → Int32 → Int32 → R) (x1 : Int32) (x2 : Int32) (x3 : Int32) (x4 : Int32) : R := if tr_standings ≤ x4 then (po (-1)) else (if ((x2 >>> (x4 &&& 31)) &&& 1) = 0 then (j_X3_firstOfWay_50 nx tr_standings tr_foot tr_settings x1 x2 x3 x4) else (if ((F_X3_moveSeconds x1 x4 tr_foot tr_settings) + (F_X3_waySeconds x4 (x2 &&& ((1 <<< (x4 &&& 31)) ^^^ (-1))) tr_standings tr_foot tr_settings)) = x3 then (po x4) else (j_X3_firstOfWay_50 nx tr_standings tr_foot tr_settings x1 x2 x3 x4)))
set_option maxHeartbeats 200000 in
set_option maxRecDepth 10000 in
theorem dl_X3_firstOfWay_3 {P Q : Int32 → Prop} {tr_standings : Int32} {tr_foot : Nat → Int32} {tr_settings : Nat → Int32} {R : Type} {po : Int32 → R} {d : Int32 → Int32 → Int32 → Int32 → R} : ∀ (n m : Nat) (x1 : Int32) (x2 : Int32) (x3 : Int32) (x4 : Int32), 0 ≤ Int32.toInt x4 ∧ Int32.toInt x4 ≤ 8 ∧ Int32.toInt tr_standings ≤ 8 → 8 - Int32.toInt x4 < (m : Int) → wb_X3_firstOfWay_3 P tr_standings tr_foot tr_settings n x1 x2 x3 x4 → (∀ (b0 : Int32), po b0 = flp (fs_X3_firstOfWay_3 po tr_standings tr_foot tr_settings) d m x1 x2 x3 x4 → P b0 → Q b0) → wb_X3_firstOfWay_3 Q tr_standings tr_foot tr_settings n x1 x2 x3 x4 := by
  have l1 : Int32.toInt (1 : Int32) = 1 := by decide
  intro n
  induction n with
  | zero => intro m x1 x2 x3 x4 hv hm h hq; exact False.elim h
  | succ n ih =>
    intro m x1 x2 x3 x4 hv hm h hq
    cases m with
    | zero => exfalso; omega
    | succ m =>
      rw [flp_s, fs_X3_firstOfWay_3] at hq
      have h : ws_X3_firstOfWay_3 P (wb_X3_firstOfWay_3 P tr_standings tr_foot tr_settings n) tr_standings tr_foot tr_settings x1 x2 x3 x4 := h
      show ws_X3_firstOfWay_3 Q (wb_X3_firstOfWay_3 Q tr_standings tr_foot tr_settings n) tr_standings tr_foot tr_settings x1 x2 x3 x4
      unfold ws_X3_firstOfWay_3 at h ⊢
      refine And.intro (fun c1 => ?_) (fun c1 => ?_)
      · have h := And.left h c1
        rw [if_pos c1] at hq
        have dc1 := (fa_le _ _).mp c1
        exact hq _ rfl h
      · have h := And.right h c1
        rw [if_neg c1] at hq
        have dc1 := mt (fa_le _ _).mpr c1
        refine ae ?_
        have h := h _ rfl
        refine And.intro (fun c2 => ?_) (fun c2 => ?_)
        · have h := And.left h c2
          rw [if_pos c2] at hq
          have dc2 := (fa_eq _ _).mp c2
          rw [j_X3_firstOfWay_50] at hq
          unfold ws_X3_firstOfWay_50 at h ⊢
          refine ae ?_
          have h := h _ rfl
          have f9 := ta_add x4 1 (by omega)
          exact ih m _ _ _ _ (by omega) (by omega) h hq
        · have h := And.right h c2
          rw [if_neg c2] at hq
          have dc2 := mt (fa_eq _ _).mpr c2
          refine du_X3_moveSeconds h ?_
          intro h
          refine ae ?_
          have h := h _ rfl
          refine ae ?_
          have h := h _ rfl
          refine du_X3_waySeconds h ?_
          intro h
          refine ae ?_
          have h := h _ rfl
          refine And.intro (fun c3 => ?_) (fun c3 => ?_)
          · have h := And.left h c3
            rw [if_neg c3] at hq
            have dc3 := mt (fa_eq _ _).mpr c3
            rw [j_X3_firstOfWay_50] at hq
            unfold ws_X3_firstOfWay_50 at h ⊢
            refine ae ?_
            have h := h _ rfl
            have f9 := ta_add x4 1 (by omega)
            exact ih m _ _ _ _ (by omega) (by omega) h hq
          · have h := And.right h c3
            rw [if_pos c3] at hq
            have dc3 := (fa_eq _ _).mp c3
            exact hq _ rfl h
noncomputable def F_X3_firstOfWay (p0 : Int32) (p1 : Int32) (p2 : Int32) (tr_standings : Int32) (tr_foot : Nat → Int32) (tr_settings : Nat → Int32) : Int32 := flp (fs_X3_firstOfWay_3 (fun o0 => o0) tr_standings tr_foot tr_settings) (fun _ _ _ _ => 0) 9 p0 p1 p2 0
set_option maxHeartbeats 200000 in
set_option maxRecDepth 10000 in
theorem dt_X3_firstOfWay {P Q : Int32 → Prop} {p0 : Int32} {p1 : Int32} {p2 : Int32} {tr_standings : Int32} {tr_foot : Nat → Int32} {tr_settings : Nat → Int32} (hy0 : Int32.toInt tr_standings ≤ 8) (h : wp_X3_firstOfWay P p0 p1 p2 tr_standings tr_foot tr_settings) (hq : ∀ o : Int32, o = F_X3_firstOfWay p0 p1 p2 tr_standings tr_foot tr_settings → P o → Q o) : wp_X3_firstOfWay Q p0 p1 p2 tr_standings tr_foot tr_settings := by
  rw [F_X3_firstOfWay] at hq
  obtain ⟨n1, h⟩ := h
  exact ⟨n1, dl_X3_firstOfWay_3 n1 9 _ _ _ _ ⟨by decide, by decide, hy0⟩ (by decide) h (fun b0 e9 h9 => hq b0 e9 h9)⟩
theorem du_X3_firstOfWay {P Q : Int32 → Prop} {p0 : Int32} {p1 : Int32} {p2 : Int32} {tr_standings : Int32} {tr_foot : Nat → Int32} {tr_settings : Nat → Int32} (hy0 : Int32.toInt tr_standings ≤ 8) (h : wp_X3_firstOfWay P p0 p1 p2 tr_standings tr_foot tr_settings) (hq : P (F_X3_firstOfWay p0 p1 p2 tr_standings tr_foot tr_settings) → Q (F_X3_firstOfWay p0 p1 p2 tr_standings tr_foot tr_settings)) : wp_X3_firstOfWay Q p0 p1 p2 tr_standings tr_foot tr_settings := dt_X3_firstOfWay hy0 h (fun o eo => by rw [eo]; exact hq)
noncomputable def fs_X9_route_55 {R : Type} (po : Int32 → Int32 → (Nat → Int32) → R) (tr_standings : Int32) (tr_foot : Nat → Int32) (tr_settings : Nat → Int32) (no_ladder : Int32) (nx : Int32 → Int32 → Int32 → Int32 → Int32 → Int32 → (Nat → Int32) → R) (x2 : Int32) (x3 : Int32) (x4 : Int32) (x5 : Int32) (x6 : Int32) (ro_size : Int32) (ro_numbers : Nat → Int32) : R := if 8 ≤ x6 then (po x4 ro_size ro_numbers) else (if x2 = 0 then (po x4 ro_size ro_numbers) else (if (F_X3_firstOfWay x3 x2 x5 tr_standings tr_foot tr_settings) = (-1) then (po x4 ro_size ro_numbers) else (nx (x2 &&& ((1 <<< ((F_X3_firstOfWay x3 x2 x5 tr_standings tr_foot tr_settings) &&& 31)) ^^^ (-1))) (F_X3_firstOfWay x3 x2 x5 tr_standings tr_foot tr_settings) x4 (x5 - (F_X3_moveSeconds x3 (F_X3_firstOfWay x3 x2 x5 tr_standings tr_foot tr_settings) tr_foot tr_settings)) (x6 + 1) ((F_X6_add (F_X3_firstOfWay x3 x2 x5 tr_standings tr_foot tr_settings) ro_size ro_numbers).1) ((F_X6_add (F_X3_firstOfWay x3 x2 x5 tr_standings tr_foot tr_settings) ro_size ro_numbers).2))))
set_option maxHeartbeats 200000 in
set_option maxRecDepth 10000 in
theorem dl_X9_route_55 {P Q : Int32 → Int32 → (Nat → Int32) → Prop} {tr_standings : Int32} {tr_foot : Nat → Int32} {tr_settings : Nat → Int32} {no_ladder : Int32} {R : Type} {po : Int32 → Int32 → (Nat → Int32) → R} {d : Int32 → Int32 → Int32 → Int32 → Int32 → Int32 → (Nat → Int32) → R} (hz0 : Int32.toInt tr_standings ≤ 8) : ∀ (n m : Nat) (x2 : Int32) (x3 : Int32) (x4 : Int32) (x5 : Int32) (x6 : Int32) (ro_size : Int32) (ro_numbers : Nat → Int32), 0 ≤ Int32.toInt x6 ∧ Int32.toInt x6 ≤ 8 → 8 - Int32.toInt x6 < (m : Int) → wb_X9_route_55 P tr_standings tr_foot tr_settings no_ladder n x2 x3 x4 x5 x6 ro_size ro_numbers → (∀ (b0 : Int32) (b1 : Int32) (b2 : Nat → Int32), po b0 b1 b2 = flp (fs_X9_route_55 po tr_standings tr_foot tr_settings no_ladder) d m x2 x3 x4 x5 x6 ro_size ro_numbers → P b0 b1 b2 → Q b0 b1 b2) → wb_X9_route_55 Q tr_standings tr_foot tr_settings no_ladder n x2 x3 x4 x5 x6 ro_size ro_numbers := by
  have l1 : Int32.toInt (1 : Int32) = 1 := by decide
  have l8 : Int32.toInt (8 : Int32) = 8 := by decide
  intro n
  induction n with
  | zero => intro m x2 x3 x4 x5 x6 ro_size ro_numbers hv hm h hq; exact False.elim h
  | succ n ih =>
    intro m x2 x3 x4 x5 x6 ro_size ro_numbers hv hm h hq
    cases m with
    | zero => exfalso; omega
    | succ m =>
      rw [flp_s, fs_X9_route_55] at hq
      have h : ws_X9_route_55 P (wb_X9_route_55 P tr_standings tr_foot tr_settings no_ladder n) tr_standings tr_foot tr_settings no_ladder x2 x3 x4 x5 x6 ro_size ro_numbers := h
      show ws_X9_route_55 Q (wb_X9_route_55 Q tr_standings tr_foot tr_settings no_ladder n) tr_standings tr_foot tr_settings no_ladder x2 x3 x4 x5 x6 ro_size ro_numbers
      unfold ws_X9_route_55 at h ⊢
      refine And.intro (fun c1 => ?_) (fun c1 => ?_)
      · have h := And.left h c1
        rw [if_pos c1] at hq
        have dc1 := (fa_le _ _).mp c1
        exact hq _ _ _ rfl h
      · have h := And.right h c1
        rw [if_neg c1] at hq
        have dc1 := mt (fa_le _ _).mpr c1
        refine And.intro (fun c2 => ?_) (fun c2 => ?_)
        · have h := And.left h c2
          rw [if_pos c2] at hq
          have dc2 := (fa_eq _ _).mp c2
          exact hq _ _ _ rfl h
        · have h := And.right h c2
          rw [if_neg c2] at hq
          have dc2 := mt (fa_eq _ _).mpr c2
          refine du_X3_firstOfWay hz0 h ?_
          intro h
          refine And.intro (fun c3 => ?_) (fun c3 => ?_)
          · have h := And.left h c3
            rw [if_neg c3] at hq
            have dc3 := mt (fa_eq _ _).mpr c3
            refine du_X6_add h ?_
            intro h
            refine du_X3_moveSeconds h ?_
            intro h
            refine ae ?_
            have h := h _ rfl
            refine ae ?_
            have h := h _ rfl
            refine ae ?_
            have h := h _ rfl
            refine ae ?_
            have h := h _ rfl
            have f9 := ta_add x6 1 (by omega)
            exact ih m _ _ _ _ _ _ _ (by omega) (by omega) h hq
          · have h := And.right h c3
            rw [if_pos c3] at hq
            have dc3 := (fa_eq _ _).mp c3
            exact hq _ _ _ rfl h
noncomputable def F_X9_route (p0 : Int32) (tr_standings : Int32) (tr_foot : Nat → Int32) (tr_settings : Nat → Int32) (no_ladder : Int32) (ro_size : Int32) (ro_numbers : Nat → Int32) : Int32 × Int32 × (Nat → Int32) := if (F_X3_areStandings p0 tr_standings) = 0 then ((-1), ro_size, ro_numbers) else (flp (fs_X9_route_55 (fun o0 o1 o2 => (o0, o1, o2)) tr_standings tr_foot tr_settings no_ladder) (fun _ _ _ _ _ _ _ => (0, 0, (fun _ => 0))) 9 (F_X0_withoutLadder p0 no_ladder) no_ladder (F_X3_waySeconds no_ladder (F_X0_withoutLadder p0 no_ladder) tr_standings tr_foot tr_settings) (F_X3_waySeconds no_ladder (F_X0_withoutLadder p0 no_ladder) tr_standings tr_foot tr_settings) 0 (F_X6_clear ro_size) ro_numbers)
set_option maxHeartbeats 200000 in
set_option maxRecDepth 10000 in
theorem dt_X9_route {P Q : Int32 → Int32 → (Nat → Int32) → Prop} {p0 : Int32} {tr_standings : Int32} {tr_foot : Nat → Int32} {tr_settings : Nat → Int32} {no_ladder : Int32} {ro_size : Int32} {ro_numbers : Nat → Int32} (hy0 : Int32.toInt tr_standings ≤ 8) (h : wp_X9_route P p0 tr_standings tr_foot tr_settings no_ladder ro_size ro_numbers) (hq : ∀ o : Int32 × Int32 × (Nat → Int32), o = F_X9_route p0 tr_standings tr_foot tr_settings no_ladder ro_size ro_numbers → P o.1 o.2.1 o.2.2 → Q o.1 o.2.1 o.2.2) : wp_X9_route Q p0 tr_standings tr_foot tr_settings no_ladder ro_size ro_numbers := by
  rw [F_X9_route] at hq
  refine du_X3_areStandings h ?_
  intro h
  refine And.intro (fun c1 => ?_) (fun c1 => ?_)
  · have h := And.left h c1
    rw [if_neg c1] at hq
    refine du_X6_clear h ?_
    intro h
    refine du_X0_withoutLadder h ?_
    intro h
    refine du_X3_waySeconds h ?_
    intro h
    obtain ⟨n2, h⟩ := h
    exact ⟨n2, dl_X9_route_55 hy0 n2 9 _ _ _ _ _ _ _ (by decide) (by decide) h (fun b0 b1 b2 e9 h9 => hq (b0, b1, b2) e9 h9)⟩
  · have h := And.right h c1
    rw [if_pos c1] at hq
    have q9 := hq _ rfl
    dsimp only at q9
    exact q9 h
theorem du_X9_route {P Q : Int32 → Int32 → (Nat → Int32) → Prop} {p0 : Int32} {tr_standings : Int32} {tr_foot : Nat → Int32} {tr_settings : Nat → Int32} {no_ladder : Int32} {ro_size : Int32} {ro_numbers : Nat → Int32} (hy0 : Int32.toInt tr_standings ≤ 8) (h : wp_X9_route P p0 tr_standings tr_foot tr_settings no_ladder ro_size ro_numbers) (hq : P (F_X9_route p0 tr_standings tr_foot tr_settings no_ladder ro_size ro_numbers).1 (F_X9_route p0 tr_standings tr_foot tr_settings no_ladder ro_size ro_numbers).2.1 (F_X9_route p0 tr_standings tr_foot tr_settings no_ladder ro_size ro_numbers).2.2 → Q (F_X9_route p0 tr_standings tr_foot tr_settings no_ladder ro_size ro_numbers).1 (F_X9_route p0 tr_standings tr_foot tr_settings no_ladder ro_size ro_numbers).2.1 (F_X9_route p0 tr_standings tr_foot tr_settings no_ladder ro_size ro_numbers).2.2) : wp_X9_route Q p0 tr_standings tr_foot tr_settings no_ladder ro_size ro_numbers := dt_X9_route hy0 h (fun o eo => by rw [eo]; exact hq)
theorem dw_X9_route {Q : Int32 → Int32 → (Nat → Int32) → Prop} {p0 : Int32} {tr_standings : Int32} {tr_foot : Nat → Int32} {tr_settings : Nat → Int32} {no_ladder : Int32} {ro_size : Int32} {ro_numbers : Nat → Int32} (hy0 : Int32.toInt tr_standings ≤ 8) (h : wp_X9_route (fun o0 o1 o2 => (o0, o1, o2) = F_X9_route p0 tr_standings tr_foot tr_settings no_ladder ro_size ro_numbers → Q o0 o1 o2) p0 tr_standings tr_foot tr_settings no_ladder ro_size ro_numbers) : wp_X9_route Q p0 tr_standings tr_foot tr_settings no_ladder ro_size ro_numbers := dt_X9_route hy0 h (fun o eo hp => hp eo)
noncomputable def j_X5_timeAll_60 {R : Type} (k15 : Int32 → Int32 → (Nat → Int32) → (Nat → Int32) → (Nat → Int32) → R) (pl_wanted : Int32) (pl_near : Nat → Int32) (tr_fruits : Int32) (tr_standings : Int32) (tr_x : Nat → Int32) (tr_height : Nat → Int32) (tr_worth : Nat → Int32) (tr_foot : Nat → Int32) (tr_fork : Nat → Int32) (no_bruised : Int32) (ru_length : Int32) (ru_program : Nat → Int32) (x1 : Int32) (x2 : Int32) (pl_seconds : Nat → Int32) (ru_given : Nat → Int32) (ru_stack : Nat → Int32) : R := k15 x1 (x2 + 1) pl_seconds ru_given ru_stack
noncomputable def bd_X5_timeAll_15 (pl_wanted : Int32) (pl_near : Nat → Int32) (tr_fruits : Int32) (tr_standings : Int32) (tr_x : Nat → Int32) (tr_height : Nat → Int32) (tr_worth : Nat → Int32) (tr_foot : Nat → Int32) (tr_fork : Nat → Int32) (no_bruised : Int32) (ru_length : Int32) (ru_program : Nat → Int32) (x1 : Int32) (c : Int32) (s : (Nat → Int32) × (Nat → Int32) × (Nat → Int32)) : (Nat → Int32) × (Nat → Int32) × (Nat → Int32) := if (((F_X5_wantedFrom c pl_wanted pl_near) >>> (x1 &&& 31)) &&& 1) = 0 then (j_X5_timeAll_60 (fun q0 q1 q2 q3 q4 => (q2, q3, q4)) pl_wanted pl_near tr_fruits tr_standings tr_x tr_height tr_worth tr_foot tr_fork no_bruised ru_length ru_program x1 c s.1 s.2.1 s.2.2) else (j_X5_timeAll_60 (fun q0 q1 q2 q3 q4 => (q2, q3, q4)) pl_wanted pl_near tr_fruits tr_standings tr_x tr_height tr_worth tr_foot tr_fork no_bruised ru_length ru_program x1 c (upd s.1 ((x1 * 8) + c).toNatClampNeg (F_X0_pickSeconds x1 c 0 0 tr_fruits tr_x tr_height tr_worth tr_foot tr_fork no_bruised ru_length s.2.1 s.2.2 ru_program).1) ((F_X0_pickSeconds x1 c 0 0 tr_fruits tr_x tr_height tr_worth tr_foot tr_fork no_bruised ru_length s.2.1 s.2.2 ru_program).2.1) ((F_X0_pickSeconds x1 c 0 0 tr_fruits tr_x tr_height tr_worth tr_foot tr_fork no_bruised ru_length s.2.1 s.2.2 ru_program).2.2))
noncomputable def ex_X5_timeAll_15 {R : Type} (k2 : Int32 → (Nat → Int32) → (Nat → Int32) → (Nat → Int32) → R) (pl_wanted : Int32) (pl_near : Nat → Int32) (tr_fruits : Int32) (tr_standings : Int32) (tr_x : Nat → Int32) (tr_height : Nat → Int32) (tr_worth : Nat → Int32) (tr_foot : Nat → Int32) (tr_fork : Nat → Int32) (no_bruised : Int32) (ru_length : Int32) (ru_program : Nat → Int32) (x1 : Int32) (c : Int32) (s : (Nat → Int32) × (Nat → Int32) × (Nat → Int32)) : R := k2 (x1 + 1) s.1 s.2.1 s.2.2
set_option maxHeartbeats 200000 in
set_option maxRecDepth 10000 in
theorem dl_X5_timeAll_15 {P Q : (Nat → Int32) → (Nat → Int32) → (Nat → Int32) → Prop} {K2 L2 : Int32 → (Nat → Int32) → (Nat → Int32) → (Nat → Int32) → Prop} {pl_wanted : Int32} {pl_near : Nat → Int32} {tr_fruits : Int32} {tr_standings : Int32} {tr_x : Nat → Int32} {tr_height : Nat → Int32} {tr_worth : Nat → Int32} {tr_foot : Nat → Int32} {tr_fork : Nat → Int32} {no_bruised : Int32} {ru_length : Int32} {ru_program : Nat → Int32} {x1 : Int32} {a : (Nat → Int32) × (Nat → Int32) × (Nat → Int32)} {i : Nat} (hi0 : i < 2147483648) (hE : ∀ (c : Int32) (s : (Nat → Int32) × (Nat → Int32) × (Nat → Int32)), c = nI (i + (Int32.toInt tr_standings - ((i : Nat) : Int)).toNat) → s = itr (bd_X5_timeAll_15 pl_wanted pl_near tr_fruits tr_standings tr_x tr_height tr_worth tr_foot tr_fork no_bruised ru_length ru_program x1) a i (Int32.toInt tr_standings - ((i : Nat) : Int)).toNat → (∀ v_1 : Int32, v_1 = x1 + 1 → K2 v_1 s.1 s.2.1 s.2.2) → (∀ v_1 : Int32, v_1 = x1 + 1 → L2 v_1 s.1 s.2.1 s.2.2)) : ∀ (n k : Nat) (c : Int32), c = nI (i + k) → k ≤ (Int32.toInt tr_standings - ((i : Nat) : Int)).toNat → wb_X5_timeAll_15 P K2 pl_wanted pl_near tr_fruits tr_standings tr_x tr_height tr_worth tr_foot tr_fork no_bruised ru_length ru_program n x1 c (itr (bd_X5_timeAll_15 pl_wanted pl_near tr_fruits tr_standings tr_x tr_height tr_worth tr_foot tr_fork no_bruised ru_length ru_program x1) a i k).1 (itr (bd_X5_timeAll_15 pl_wanted pl_near tr_fruits tr_standings tr_x tr_height tr_worth tr_foot tr_fork no_bruised ru_length ru_program x1) a i k).2.1 (itr (bd_X5_timeAll_15 pl_wanted pl_near tr_fruits tr_standings tr_x tr_height tr_worth tr_foot tr_fork no_bruised ru_length ru_program x1) a i k).2.2 → wb_X5_timeAll_15 Q L2 pl_wanted pl_near tr_fruits tr_standings tr_x tr_height tr_worth tr_foot tr_fork no_bruised ru_length ru_program n x1 c (itr (bd_X5_timeAll_15 pl_wanted pl_near tr_fruits tr_standings tr_x tr_height tr_worth tr_foot tr_fork no_bruised ru_length ru_program x1) a i k).1 (itr (bd_X5_timeAll_15 pl_wanted pl_near tr_fruits tr_standings tr_x tr_height tr_worth tr_foot tr_fork no_bruised ru_length ru_program x1) a i k).2.1 (itr (bd_X5_timeAll_15 pl_wanted pl_near tr_fruits tr_standings tr_x tr_height tr_worth tr_foot tr_fork no_bruised ru_length ru_program x1) a i k).2.2 := by
  intro n
  induction n with
  | zero => intro k c hc hk h; exact False.elim h
  | succ n ih =>
    intro k c hc hk h
    have hr := tp_r tr_standings
    have hi : Int32.toInt c = ((i + k : Nat) : Int) := by rw [hc]; exact nI_toInt (by omega)
    refine And.intro (fun t0 => ?_) (fun t0 => ?_)
    · have h := And.left h t0
      have t1 := (fa_le _ _).mp t0
      have hk2 : k = (Int32.toInt tr_standings - ((i : Nat) : Int)).toNat := by omega
      subst hk2
      exact hE _ _ hc rfl h
    · have h := And.right h t0
      have t1 := mt (fa_le _ _).mpr t0
      have hs : ∀ o : (Nat → Int32) × (Nat → Int32) × (Nat → Int32), o = itr (bd_X5_timeAll_15 pl_wanted pl_near tr_fruits tr_standings tr_x tr_height tr_worth tr_foot tr_fork no_bruised ru_length ru_program x1) a i (k + 1) → wb_X5_timeAll_15 P K2 pl_wanted pl_near tr_fruits tr_standings tr_x tr_height tr_worth tr_foot tr_fork no_bruised ru_length ru_program n x1 (c + 1) o.1 o.2.1 o.2.2 → wb_X5_timeAll_15 Q L2 pl_wanted pl_near tr_fruits tr_standings tr_x tr_height tr_worth tr_foot tr_fork no_bruised ru_length ru_program n x1 (c + 1) o.1 o.2.1 o.2.2 := by
        intro o eo h9
        have q := ih (k + 1) (c + 1) (by rw [hc]; exact nI_1 _) (by omega)
        rw [← eo] at q
        exact q h9
      rw [itr_s, ← hc, bd_X5_timeAll_15] at hs
      refine du_X5_wantedFrom h ?_
      intro h
      refine ae ?_
      have h := h _ rfl
      refine And.intro (fun c1 => ?_) (fun c1 => ?_)
      · have h := And.left h c1
        rw [if_pos c1] at hs
        rw [j_X5_timeAll_60] at hs
        unfold ws_X5_timeAll_60 at h ⊢
        refine ae ?_
        have h := h _ rfl
        have q9 := hs _ rfl
        dsimp only at q9
        exact q9 h
      · have h := And.right h c1
        rw [if_neg c1] at hs
        refine ae ?_
        have h := h _ rfl
        refine ae ?_
        have h := h _ rfl
        refine du_X0_pickSeconds h ?_
        intro h
        refine And.intro (And.left h) ?_
        have h := And.right h
        rw [j_X5_timeAll_60] at hs
        unfold ws_X5_timeAll_60 at h ⊢
        refine ae ?_
        have h := h _ rfl
        have q9 := hs _ rfl
        dsimp only at q9
        exact q9 h
noncomputable def bd_X5_timeAll_2 (pl_wanted : Int32) (pl_near : Nat → Int32) (tr_fruits : Int32) (tr_standings : Int32) (tr_x : Nat → Int32) (tr_height : Nat → Int32) (tr_worth : Nat → Int32) (tr_foot : Nat → Int32) (tr_fork : Nat → Int32) (no_bruised : Int32) (ru_length : Int32) (ru_program : Nat → Int32) (c : Int32) (s : (Nat → Int32) × (Nat → Int32) × (Nat → Int32)) : (Nat → Int32) × (Nat → Int32) × (Nat → Int32) := ex_X5_timeAll_15 (fun q0 q1 q2 q3 => (q1, q2, q3)) pl_wanted pl_near tr_fruits tr_standings tr_x tr_height tr_worth tr_foot tr_fork no_bruised ru_length ru_program c (nI (0 + (Int32.toInt tr_standings - ((0 : Nat) : Int)).toNat)) (itr (bd_X5_timeAll_15 pl_wanted pl_near tr_fruits tr_standings tr_x tr_height tr_worth tr_foot tr_fork no_bruised ru_length ru_program c) (s.1, s.2.1, s.2.2) 0 (Int32.toInt tr_standings - ((0 : Nat) : Int)).toNat)
noncomputable def ex_X5_timeAll_2 {R : Type} (po : (Nat → Int32) → (Nat → Int32) → (Nat → Int32) → R) (pl_wanted : Int32) (pl_near : Nat → Int32) (tr_fruits : Int32) (tr_standings : Int32) (tr_x : Nat → Int32) (tr_height : Nat → Int32) (tr_worth : Nat → Int32) (tr_foot : Nat → Int32) (tr_fork : Nat → Int32) (no_bruised : Int32) (ru_length : Int32) (ru_program : Nat → Int32) (c : Int32) (s : (Nat → Int32) × (Nat → Int32) × (Nat → Int32)) : R := po s.1 s.2.1 s.2.2
set_option maxHeartbeats 200000 in
set_option maxRecDepth 10000 in
theorem dl_X5_timeAll_2 {P Q : (Nat → Int32) → (Nat → Int32) → (Nat → Int32) → Prop} {pl_wanted : Int32} {pl_near : Nat → Int32} {tr_fruits : Int32} {tr_standings : Int32} {tr_x : Nat → Int32} {tr_height : Nat → Int32} {tr_worth : Nat → Int32} {tr_foot : Nat → Int32} {tr_fork : Nat → Int32} {no_bruised : Int32} {ru_length : Int32} {ru_program : Nat → Int32} {a : (Nat → Int32) × (Nat → Int32) × (Nat → Int32)} {i : Nat} (hi0 : i < 2147483648) (hE : ∀ (c : Int32) (s : (Nat → Int32) × (Nat → Int32) × (Nat → Int32)), c = nI (i + (Int32.toInt tr_fruits - ((i : Nat) : Int)).toNat) → s = itr (bd_X5_timeAll_2 pl_wanted pl_near tr_fruits tr_standings tr_x tr_height tr_worth tr_foot tr_fork no_bruised ru_length ru_program) a i (Int32.toInt tr_fruits - ((i : Nat) : Int)).toNat → (P s.1 s.2.1 s.2.2) → (Q s.1 s.2.1 s.2.2)) : ∀ (n k : Nat) (c : Int32), c = nI (i + k) → k ≤ (Int32.toInt tr_fruits - ((i : Nat) : Int)).toNat → wb_X5_timeAll_2 P pl_wanted pl_near tr_fruits tr_standings tr_x tr_height tr_worth tr_foot tr_fork no_bruised ru_length ru_program n c (itr (bd_X5_timeAll_2 pl_wanted pl_near tr_fruits tr_standings tr_x tr_height tr_worth tr_foot tr_fork no_bruised ru_length ru_program) a i k).1 (itr (bd_X5_timeAll_2 pl_wanted pl_near tr_fruits tr_standings tr_x tr_height tr_worth tr_foot tr_fork no_bruised ru_length ru_program) a i k).2.1 (itr (bd_X5_timeAll_2 pl_wanted pl_near tr_fruits tr_standings tr_x tr_height tr_worth tr_foot tr_fork no_bruised ru_length ru_program) a i k).2.2 → wb_X5_timeAll_2 Q pl_wanted pl_near tr_fruits tr_standings tr_x tr_height tr_worth tr_foot tr_fork no_bruised ru_length ru_program n c (itr (bd_X5_timeAll_2 pl_wanted pl_near tr_fruits tr_standings tr_x tr_height tr_worth tr_foot tr_fork no_bruised ru_length ru_program) a i k).1 (itr (bd_X5_timeAll_2 pl_wanted pl_near tr_fruits tr_standings tr_x tr_height tr_worth tr_foot tr_fork no_bruised ru_length ru_program) a i k).2.1 (itr (bd_X5_timeAll_2 pl_wanted pl_near tr_fruits tr_standings tr_x tr_height tr_worth tr_foot tr_fork no_bruised ru_length ru_program) a i k).2.2 := by
  intro n
  induction n with
  | zero => intro k c hc hk h; exact False.elim h
  | succ n ih =>
    intro k c hc hk h
    have hr := tp_r tr_fruits
    have hi : Int32.toInt c = ((i + k : Nat) : Int) := by rw [hc]; exact nI_toInt (by omega)
    refine And.intro (fun t0 => ?_) (fun t0 => ?_)
    · have h := And.left h t0
      have t1 := (fa_le _ _).mp t0
      have hk2 : k = (Int32.toInt tr_fruits - ((i : Nat) : Int)).toNat := by omega
      subst hk2
      exact hE _ _ hc rfl h
    · have h := And.right h t0
      have t1 := mt (fa_le _ _).mpr t0
      have hs : ∀ o : (Nat → Int32) × (Nat → Int32) × (Nat → Int32), o = itr (bd_X5_timeAll_2 pl_wanted pl_near tr_fruits tr_standings tr_x tr_height tr_worth tr_foot tr_fork no_bruised ru_length ru_program) a i (k + 1) → wb_X5_timeAll_2 P pl_wanted pl_near tr_fruits tr_standings tr_x tr_height tr_worth tr_foot tr_fork no_bruised ru_length ru_program n (c + 1) o.1 o.2.1 o.2.2 → wb_X5_timeAll_2 Q pl_wanted pl_near tr_fruits tr_standings tr_x tr_height tr_worth tr_foot tr_fork no_bruised ru_length ru_program n (c + 1) o.1 o.2.1 o.2.2 := by
        intro o eo h9
        have q := ih (k + 1) (c + 1) (by rw [hc]; exact nI_1 _) (by omega)
        rw [← eo] at q
        exact q h9
      rw [itr_s, ← hc, bd_X5_timeAll_2] at hs
      obtain ⟨n1, h⟩ := h
      refine ⟨n1, dl_X5_timeAll_15 (a := (((itr (bd_X5_timeAll_2 pl_wanted pl_near tr_fruits tr_standings tr_x tr_height tr_worth tr_foot tr_fork no_bruised ru_length ru_program) a i k).1), ((itr (bd_X5_timeAll_2 pl_wanted pl_near tr_fruits tr_standings tr_x tr_height tr_worth tr_foot tr_fork no_bruised ru_length ru_program) a i k).2.1), ((itr (bd_X5_timeAll_2 pl_wanted pl_near tr_fruits tr_standings tr_x tr_height tr_worth tr_foot tr_fork no_bruised ru_length ru_program) a i k).2.2))) (i := 0) (by decide) ?_ n1 0 0 (by decide) (Nat.zero_le _) h⟩
      intro cc2 s3 ec4 es5 h
      rw [← ec4, ← es5, ex_X5_timeAll_15] at hs
      refine ae ?_
      have h := h _ rfl
      have q9 := hs _ rfl
      dsimp only at q9
      exact q9 h
