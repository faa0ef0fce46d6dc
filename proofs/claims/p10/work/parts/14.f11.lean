noncomputable def F_X0_ripeFirst (p0 : Int32) (tr_fruits : Int32) (tr_ripe : Nat → Int32) (no_apron : Int32) (no_basket : Int32) (no_ground : Int32) (no_today : Int32) : Int32 := if p0 ≤ no_today then ((F_X0_hanging tr_fruits no_apron no_basket no_ground) &&& (F_X3_ripeBy p0 tr_fruits tr_ripe)) else (((F_X0_hanging tr_fruits no_apron no_basket no_ground) &&& (F_X3_ripeBy p0 tr_fruits tr_ripe)) &&& ((F_X3_ripeBy (p0 - 1) tr_fruits tr_ripe) ^^^ (-1)))
set_option maxHeartbeats 200000 in
set_option maxRecDepth 10000 in
theorem dt_X0_ripeFirst {P Q : Int32 → Prop} {p0 : Int32} {tr_fruits : Int32} {tr_ripe : Nat → Int32} {no_apron : Int32} {no_basket : Int32} {no_ground : Int32} {no_today : Int32} (h : wp_X0_ripeFirst P p0 tr_fruits tr_ripe no_apron no_basket no_ground no_today) (hq : ∀ o : Int32, o = F_X0_ripeFirst p0 tr_fruits tr_ripe no_apron no_basket no_ground no_today → P o → Q o) : wp_X0_ripeFirst Q p0 tr_fruits tr_ripe no_apron no_basket no_ground no_today := by
  rw [F_X0_ripeFirst] at hq
  refine du_X0_hanging h ?_
  intro h
  refine du_X3_ripeBy h ?_
  intro h
  refine ae ?_
  have h := h _ rfl
  refine And.intro (fun c1 => ?_) (fun c1 => ?_)
  · have h := And.left h c1
    rw [if_pos c1] at hq
    have q9 := hq _ rfl
    exact q9 h
  · have h := And.right h c1
    rw [if_neg c1] at hq
    refine ae ?_
    have h := h _ rfl
    refine du_X3_ripeBy h ?_
    intro h
    refine ae ?_
    have h := h _ rfl
    have q9 := hq _ rfl
    exact q9 h
theorem du_X0_ripeFirst {P Q : Int32 → Prop} {p0 : Int32} {tr_fruits : Int32} {tr_ripe : Nat → Int32} {no_apron : Int32} {no_basket : Int32} {no_ground : Int32} {no_today : Int32} (h : wp_X0_ripeFirst P p0 tr_fruits tr_ripe no_apron no_basket no_ground no_today) (hq : P (F_X0_ripeFirst p0 tr_fruits tr_ripe no_apron no_basket no_ground no_today) → Q (F_X0_ripeFirst p0 tr_fruits tr_ripe no_apron no_basket no_ground no_today)) : wp_X0_ripeFirst Q p0 tr_fruits tr_ripe no_apron no_basket no_ground no_today := dt_X0_ripeFirst h (fun o eo => by rw [eo]; exact hq)
noncomputable def j_X9_ripens_48 {R : Type} (k18 : Int32 → Int32 → Int32 → Int32 → (Nat → Int32) → Int32 → (Nat → Int32) → R) (tr_fruits : Int32) (tr_standings : Int32) (tr_x : Nat → Int32) (tr_height : Nat → Int32) (tr_ripe : Nat → Int32) (tr_foot : Nat → Int32) (tr_fork : Nat → Int32) (tr_settings : Nat → Int32) (no_apron : Int32) (no_basket : Int32) (no_ground : Int32) (no_helper : Int32) (no_today : Int32) (x1 : Int32) (x2 : Int32) (x3 : Int32) (pl_wanted : Int32) (pl_near : Nat → Int32) (ro_size : Int32) (ro_numbers : Nat → Int32) : R := k18 x1 x2 (x3 + 1) pl_wanted pl_near ro_size ro_numbers
noncomputable def bd_X9_ripens_18 (tr_fruits : Int32) (tr_standings : Int32) (tr_x : Nat → Int32) (tr_height : Nat → Int32) (tr_ripe : Nat → Int32) (tr_foot : Nat → Int32) (tr_fork : Nat → Int32) (tr_settings : Nat → Int32) (no_apron : Int32) (no_basket : Int32) (no_ground : Int32) (no_helper : Int32) (no_today : Int32) (pl_wanted : Int32) (pl_near : Nat → Int32) (ro_size : Int32) (ro_numbers : Nat → Int32) (c : Int32) (s : Int32 × Int32) : Int32 × Int32 := if (F_J6_bitCount_0f7a4 (F_X0_ripeFirst c tr_fruits tr_ripe no_apron no_basket no_ground no_today)) ≤ s.2 then (j_X9_ripens_48 (fun q0 q1 q2 q3 q4 q5 q6 => (q0, q1)) tr_fruits tr_standings tr_x tr_height tr_ripe tr_foot tr_fork tr_settings no_apron no_basket no_ground no_helper no_today s.1 s.2 c pl_wanted pl_near ro_size ro_numbers) else (j_X9_ripens_48 (fun q0 q1 q2 q3 q4 q5 q6 => (q0, q1)) tr_fruits tr_standings tr_x tr_height tr_ripe tr_foot tr_fork tr_settings no_apron no_basket no_ground no_helper no_today c (F_J6_bitCount_0f7a4 (F_X0_ripeFirst c tr_fruits tr_ripe no_apron no_basket no_ground no_today)) c pl_wanted pl_near ro_size ro_numbers)
noncomputable def ex_X9_ripens_18 {R : Type} (po : Int32 → Int32 → (Nat → Int32) → Int32 → (Nat → Int32) → R) (tr_fruits : Int32) (tr_standings : Int32) (tr_x : Nat → Int32) (tr_height : Nat → Int32) (tr_ripe : Nat → Int32) (tr_foot : Nat → Int32) (tr_fork : Nat → Int32) (tr_settings : Nat → Int32) (no_apron : Int32) (no_basket : Int32) (no_ground : Int32) (no_helper : Int32) (no_today : Int32) (pl_wanted : Int32) (pl_near : Nat → Int32) (ro_size : Int32) (ro_numbers : Nat → Int32) (c : Int32) (s : Int32 × Int32) : R := po s.2 ((F_X5_lookAs no_helper 9 pl_wanted pl_near tr_fruits tr_standings tr_x tr_height tr_ripe tr_foot tr_fork tr_settings no_apron no_basket no_ground).1) ((F_X5_lookAs no_helper 9 pl_wanted pl_near tr_fruits tr_standings tr_x tr_height tr_ripe tr_foot tr_fork tr_settings no_apron no_basket no_ground).2) ((F_X9_tell_ s.1 (F_J6_bitCount_0f7a4 (F_X5_smallestCover (F_X5_lookAs no_helper 9 pl_wanted pl_near tr_fruits tr_standings tr_x tr_height tr_ripe tr_foot tr_fork tr_settings no_apron no_basket no_ground).1 (F_X3_allStandings tr_standings) (F_X5_lookAs no_helper 9 pl_wanted pl_near tr_fruits tr_standings tr_x tr_height tr_ripe tr_foot tr_fork tr_settings no_apron no_basket no_ground).2 tr_standings)) ro_size ro_numbers).1) ((F_X9_tell_ s.1 (F_J6_bitCount_0f7a4 (F_X5_smallestCover (F_X5_lookAs no_helper 9 pl_wanted pl_near tr_fruits tr_standings tr_x tr_height tr_ripe tr_foot tr_fork tr_settings no_apron no_basket no_ground).1 (F_X3_allStandings tr_standings) (F_X5_lookAs no_helper 9 pl_wanted pl_near tr_fruits tr_standings tr_x tr_height tr_ripe tr_foot tr_fork tr_settings no_apron no_basket no_ground).2 tr_standings)) ro_size ro_numbers).2)
set_option maxHeartbeats 200000 in
set_option maxRecDepth 10000 in
theorem dl_X9_ripens_18 {P Q : Int32 → Int32 → (Nat → Int32) → Int32 → (Nat → Int32) → Prop} {tr_fruits : Int32} {tr_standings : Int32} {tr_x : Nat → Int32} {tr_height : Nat → Int32} {tr_ripe : Nat → Int32} {tr_foot : Nat → Int32} {tr_fork : Nat → Int32} {tr_settings : Nat → Int32} {no_apron : Int32} {no_basket : Int32} {no_ground : Int32} {no_helper : Int32} {no_today : Int32} {pl_wanted : Int32} {pl_near : Nat → Int32} {ro_size : Int32} {ro_numbers : Nat → Int32} {a : Int32 × Int32} {i : Nat} (hi0 : i < 2147483648) (hE : ∀ (c : Int32) (s : Int32 × Int32), c = nI (i + (Int32.toInt 9 + 1 - ((i : Nat) : Int)).toNat) → s = itr (bd_X9_ripens_18 tr_fruits tr_standings tr_x tr_height tr_ripe tr_foot tr_fork tr_settings no_apron no_basket no_ground no_helper no_today pl_wanted pl_near ro_size ro_numbers) a i (Int32.toInt 9 + 1 - ((i : Nat) : Int)).toNat → (wp_X5_lookAs (fun pl_wanted_1 pl_near_2 => wp_X3_allStandings (fun r_3 => wp_X5_smallestCover (fun r_4 => wp_J6_bitCount_0f7a4 (fun r_5 => wp_X9_tell_ (fun ro_size_6 ro_numbers_7 => P s.2 pl_wanted_1 pl_near_2 ro_size_6 ro_numbers_7) s.1 r_5 ro_size ro_numbers) r_4) pl_wanted_1 r_3 pl_near_2 tr_standings) tr_standings) no_helper 9 pl_wanted pl_near tr_fruits tr_standings tr_x tr_height tr_ripe tr_foot tr_fork tr_settings no_apron no_basket no_ground) → (wp_X5_lookAs (fun pl_wanted_1 pl_near_2 => wp_X3_allStandings (fun r_3 => wp_X5_smallestCover (fun r_4 => wp_J6_bitCount_0f7a4 (fun r_5 => wp_X9_tell_ (fun ro_size_6 ro_numbers_7 => Q s.2 pl_wanted_1 pl_near_2 ro_size_6 ro_numbers_7) s.1 r_5 ro_size ro_numbers) r_4) pl_wanted_1 r_3 pl_near_2 tr_standings) tr_standings) no_helper 9 pl_wanted pl_near tr_fruits tr_standings tr_x tr_height tr_ripe tr_foot tr_fork tr_settings no_apron no_basket no_ground)) : ∀ (n k : Nat) (c : Int32), c = nI (i + k) → k ≤ (Int32.toInt 9 + 1 - ((i : Nat) : Int)).toNat → wb_X9_ripens_18 P tr_fruits tr_standings tr_x tr_height tr_ripe tr_foot tr_fork tr_settings no_apron no_basket no_ground no_helper no_today n (itr (bd_X9_ripens_18 tr_fruits tr_standings tr_x tr_height tr_ripe tr_foot tr_fork tr_settings no_apron no_basket no_ground no_helper no_today pl_wanted pl_near ro_size ro_numbers) a i k).1 (itr (bd_X9_ripens_18 tr_fruits tr_standings tr_x tr_height tr_ripe tr_foot tr_fork tr_settings no_apron no_basket no_ground no_helper no_today pl_wanted pl_near ro_size ro_numbers) a i k).2 c pl_wanted pl_near ro_size ro_numbers → wb_X9_ripens_18 Q tr_fruits tr_standings tr_x tr_height tr_ripe tr_foot tr_fork tr_settings no_apron no_basket no_ground no_helper no_today n (itr (bd_X9_ripens_18 tr_fruits tr_standings tr_x tr_height tr_ripe tr_foot tr_fork tr_settings no_apron no_basket no_ground no_helper no_today pl_wanted pl_near ro_size ro_numbers) a i k).1 (itr (bd_X9_ripens_18 tr_fruits tr_standings tr_x tr_height tr_ripe tr_foot tr_fork tr_settings no_apron no_basket no_ground no_helper no_today pl_wanted pl_near ro_size ro_numbers) a i k).2 c pl_wanted pl_near ro_size ro_numbers := by
  intro n
  induction n with
  | zero => intro k c hc hk h; exact False.elim h
  | succ n ih =>
    intro k c hc hk h
    have hr := tp_r 9
    have hl9 : Int32.toInt 9 < 2147483647 := by decide
    have hi : Int32.toInt c = ((i + k : Nat) : Int) := by rw [hc]; exact nI_toInt (by omega)
    refine And.intro (fun t0 => ?_) (fun t0 => ?_)
    · have h := And.left h t0
      have t1 := (fa_lt _ _).mp t0
      have hk2 : k = (Int32.toInt 9 + 1 - ((i : Nat) : Int)).toNat := by omega
      subst hk2
      exact hE _ _ hc rfl h
    · have h := And.right h t0
      have t1 := mt (fa_lt _ _).mpr t0
      have hs : ∀ o : Int32 × Int32, o = itr (bd_X9_ripens_18 tr_fruits tr_standings tr_x tr_height tr_ripe tr_foot tr_fork tr_settings no_apron no_basket no_ground no_helper no_today pl_wanted pl_near ro_size ro_numbers) a i (k + 1) → wb_X9_ripens_18 P tr_fruits tr_standings tr_x tr_height tr_ripe tr_foot tr_fork tr_settings no_apron no_basket no_ground no_helper no_today n o.1 o.2 (c + 1) pl_wanted pl_near ro_size ro_numbers → wb_X9_ripens_18 Q tr_fruits tr_standings tr_x tr_height tr_ripe tr_foot tr_fork tr_settings no_apron no_basket no_ground no_helper no_today n o.1 o.2 (c + 1) pl_wanted pl_near ro_size ro_numbers := by
        intro o eo h9
        have q := ih (k + 1) (c + 1) (by rw [hc]; exact nI_1 _) (by omega)
        rw [← eo] at q
        exact q h9
      rw [itr_s, ← hc, bd_X9_ripens_18] at hs
      refine du_X0_ripeFirst h ?_
      intro h
      refine du_J6_bitCount_0f7a4 h ?_
      intro h
      refine And.intro (fun c1 => ?_) (fun c1 => ?_)
      · have h := And.left h c1
        rw [if_pos c1] at hs
        rw [j_X9_ripens_48] at hs
        unfold ws_X9_ripens_48 at h ⊢
        refine ae ?_
        have h := h _ rfl
        have q9 := hs _ rfl
        dsimp only at q9
        exact q9 h
      · have h := And.right h c1
        rw [if_neg c1] at hs
        rw [j_X9_ripens_48] at hs
        unfold ws_X9_ripens_48 at h ⊢
        refine ae ?_
        have h := h _ rfl
        have q9 := hs _ rfl
        dsimp only at q9
        exact q9 h
noncomputable def F_X9_ripens (pl_wanted : Int32) (pl_near : Nat → Int32) (tr_fruits : Int32) (tr_standings : Int32) (tr_x : Nat → Int32) (tr_height : Nat → Int32) (tr_ripe : Nat → Int32) (tr_foot : Nat → Int32) (tr_fork : Nat → Int32) (tr_settings : Nat → Int32) (no_apron : Int32) (no_basket : Int32) (no_ground : Int32) (no_helper : Int32) (no_today : Int32) (ro_size : Int32) (ro_numbers : Nat → Int32) : Int32 × Int32 × (Nat → Int32) × Int32 × (Nat → Int32) := ex_X9_ripens_18 (fun o0 o1 o2 o3 o4 => (o0, o1, o2, o3, o4)) tr_fruits tr_standings tr_x tr_height tr_ripe tr_foot tr_fork tr_settings no_apron no_basket no_ground no_helper no_today pl_wanted pl_near ro_size ro_numbers (nI ((Int32.toInt no_today).toNat + (Int32.toInt 9 + 1 - (((Int32.toInt no_today).toNat : Nat) : Int)).toNat)) (itr (bd_X9_ripens_18 tr_fruits tr_standings tr_x tr_height tr_ripe tr_foot tr_fork tr_settings no_apron no_basket no_ground no_helper no_today pl_wanted pl_near ro_size ro_numbers) (no_today, 0) (Int32.toInt no_today).toNat (Int32.toInt 9 + 1 - (((Int32.toInt no_today).toNat : Nat) : Int)).toNat)
set_option maxHeartbeats 200000 in
set_option maxRecDepth 10000 in
theorem dt_X9_ripens {P Q : Int32 → Int32 → (Nat → Int32) → Int32 → (Nat → Int32) → Prop} {pl_wanted : Int32} {pl_near : Nat → Int32} {tr_fruits : Int32} {tr_standings : Int32} {tr_x : Nat → Int32} {tr_height : Nat → Int32} {tr_ripe : Nat → Int32} {tr_foot : Nat → Int32} {tr_fork : Nat → Int32} {tr_settings : Nat → Int32} {no_apron : Int32} {no_basket : Int32} {no_ground : Int32} {no_helper : Int32} {no_today : Int32} {ro_size : Int32} {ro_numbers : Nat → Int32} (hy0 : 0 ≤ Int32.toInt no_today) (h : wp_X9_ripens P pl_wanted pl_near tr_fruits tr_standings tr_x tr_height tr_ripe tr_foot tr_fork tr_settings no_apron no_basket no_ground no_helper no_today ro_size ro_numbers) (hq : ∀ o : Int32 × Int32 × (Nat → Int32) × Int32 × (Nat → Int32), o = F_X9_ripens pl_wanted pl_near tr_fruits tr_standings tr_x tr_height tr_ripe tr_foot tr_fork tr_settings no_apron no_basket no_ground no_helper no_today ro_size ro_numbers → P o.1 o.2.1 o.2.2.1 o.2.2.2.1 o.2.2.2.2 → Q o.1 o.2.1 o.2.2.1 o.2.2.2.1 o.2.2.2.2) : wp_X9_ripens Q pl_wanted pl_near tr_fruits tr_standings tr_x tr_height tr_ripe tr_foot tr_fork tr_settings no_apron no_basket no_ground no_helper no_today ro_size ro_numbers := by
  rw [F_X9_ripens] at hq
  obtain ⟨n1, h⟩ := h
  refine ⟨n1, dl_X9_ripens_18 (a := (no_today, 0)) (i := (Int32.toInt no_today).toNat) (by have := tp_r no_today; omega) ?_ n1 0 no_today (tp_nI hy0) (Nat.zero_le _) h⟩
  intro cc2 s3 ec4 es5 h
  rw [← ec4, ← es5, ex_X9_ripens_18] at hq
  refine du_X5_lookAs h ?_
  intro h
  refine du_X3_allStandings h ?_
  intro h
  refine du_X5_smallestCover h ?_
  intro h
  refine du_J6_bitCount_0f7a4 h ?_
  intro h
  refine du_X9_tell_ h ?_
  intro h
  have q9 := hq _ rfl
  dsimp only at q9
  exact q9 h
theorem du_X9_ripens {P Q : Int32 → Int32 → (Nat → Int32) → Int32 → (Nat → Int32) → Prop} {pl_wanted : Int32} {pl_near : Nat → Int32} {tr_fruits : Int32} {tr_standings : Int32} {tr_x : Nat → Int32} {tr_height : Nat → Int32} {tr_ripe : Nat → Int32} {tr_foot : Nat → Int32} {tr_fork : Nat → Int32} {tr_settings : Nat → Int32} {no_apron : Int32} {no_basket : Int32} {no_ground : Int32} {no_helper : Int32} {no_today : Int32} {ro_size : Int32} {ro_numbers : Nat → Int32} (hy0 : 0 ≤ Int32.toInt no_today) (h : wp_X9_ripens P pl_wanted pl_near tr_fruits tr_standings tr_x tr_height tr_ripe tr_foot tr_fork tr_settings no_apron no_basket no_ground no_helper no_today ro_size ro_numbers) (hq : P (F_X9_ripens pl_wanted pl_near tr_fruits tr_standings tr_x tr_height tr_ripe tr_foot tr_fork tr_settings no_apron no_basket no_ground no_helper no_today ro_size ro_numbers).1 (F_X9_ripens pl_wanted pl_near tr_fruits tr_standings tr_x tr_height tr_ripe tr_foot tr_fork tr_settings no_apron no_basket no_ground no_helper no_today ro_size ro_numbers).2.1 (F_X9_ripens pl_wanted pl_near tr_fruits tr_standings tr_x tr_height tr_ripe tr_foot tr_fork tr_settings no_apron no_basket no_ground no_helper no_today ro_size ro_numbers).2.2.1 (F_X9_ripens pl_wanted pl_near tr_fruits tr_standings tr_x tr_height tr_ripe tr_foot tr_fork tr_settings no_apron no_basket no_ground no_helper no_today ro_size ro_numbers).2.2.2.1 (F_X9_ripens pl_wanted pl_near tr_fruits tr_standings tr_x tr_height tr_ripe tr_foot tr_fork tr_settings no_apron no_basket no_ground no_helper no_today ro_size ro_numbers).2.2.2.2 → Q (F_X9_ripens pl_wanted pl_near tr_fruits tr_standings tr_x tr_height tr_ripe tr_foot tr_fork tr_settings no_apron no_basket no_ground no_helper no_today ro_size ro_numbers).1 (F_X9_ripens pl_wanted pl_near tr_fruits tr_standings tr_x tr_height tr_ripe tr_foot tr_fork tr_settings no_apron no_basket no_ground no_helper no_today ro_size ro_numbers).2.1 (F_X9_ripens pl_wanted pl_near tr_fruits tr_standings tr_x tr_height tr_ripe tr_foot tr_fork tr_settings no_apron no_basket no_ground no_helper no_today ro_size ro_numbers).2.2.1 (F_X9_ripens pl_wanted pl_near tr_fruits tr_standings tr_x tr_height tr_ripe tr_foot tr_fork tr_settings no_apron no_basket no_ground no_helper no_today ro_size ro_numbers).2.2.2.1 (F_X9_ripens pl_wanted pl_near tr_fruits tr_standings tr_x tr_height tr_ripe tr_foot tr_fork tr_settings no_apron no_basket no_ground no_helper no_today ro_size ro_numbers).2.2.2.2) : wp_X9_ripens Q pl_wanted pl_near tr_fruits tr_standings tr_x tr_height tr_ripe tr_foot tr_fork tr_settings no_apron no_basket no_ground no_helper no_today ro_size ro_numbers := dt_X9_ripens hy0 h (fun o eo => by rw [eo]; exact hq)
theorem dw_X9_ripens {Q : Int32 → Int32 → (Nat → Int32) → Int32 → (Nat → Int32) → Prop} {pl_wanted : Int32} {pl_near : Nat → Int32} {tr_fruits : Int32} {tr_standings : Int32} {tr_x : Nat → Int32} {tr_height : Nat → Int32} {tr_ripe : Nat → Int32} {tr_foot : Nat → Int32} {tr_fork : Nat → Int32} {tr_settings : Nat → Int32} {no_apron : Int32} {no_basket : Int32} {no_ground : Int32} {no_helper : Int32} {no_today : Int32} {ro_size : Int32} {ro_numbers : Nat → Int32} (hy0 : 0 ≤ Int32.toInt no_today) (h : wp_X9_ripens (fun o0 o1 o2 o3 o4 => (o0, o1, o2, o3, o4) = F_X9_ripens pl_wanted pl_near tr_fruits tr_standings tr_x tr_height tr_ripe tr_foot tr_fork tr_settings no_apron no_basket no_ground no_helper no_today ro_size ro_numbers → Q o0 o1 o2 o3 o4) pl_wanted pl_near tr_fruits tr_standings tr_x tr_height tr_ripe tr_foot tr_fork tr_settings no_apron no_basket no_ground no_helper no_today ro_size ro_numbers) : wp_X9_ripens Q pl_wanted pl_near tr_fruits tr_standings tr_x tr_height tr_ripe tr_foot tr_fork tr_settings no_apron no_basket no_ground no_helper no_today ro_size ro_numbers := dt_X9_ripens hy0 h (fun o eo hp => hp eo)
noncomputable def F_X9_ondays (p0 : Int32) (pl_wanted : Int32) (pl_near : Nat → Int32) (tr_fruits : Int32) (tr_standings : Int32) (tr_x : Nat → Int32) (tr_height : Nat → Int32) (tr_ripe : Nat → Int32) (tr_foot : Nat → Int32) (tr_fork : Nat → Int32) (tr_settings : Nat → Int32) (no_apron : Int32) (no_basket : Int32) (no_ground : Int32) (no_helper : Int32) (no_today : Int32) (ro_size : Int32) (ro_numbers : Nat → Int32) : Int32 × Int32 × (Nat → Int32) × Int32 × (Nat → Int32) := if p0 < no_today then ((-1), pl_wanted, pl_near, ro_size, ro_numbers) else (if p0 ≤ 9 then ((F_X9_tellMembers (F_X5_smallestCover ((F_X0_ripeFirst p0 tr_fruits tr_ripe no_apron no_basket no_ground no_today) &&& (F_X5_reachedBy (F_X3_allStandings tr_standings) (F_X5_look pl_wanted pl_near tr_fruits tr_standings tr_x tr_height tr_ripe tr_foot tr_fork tr_settings no_apron no_basket no_ground no_helper no_today).2 tr_standings)) (F_X3_allStandings tr_standings) (F_X5_look pl_wanted pl_near tr_fruits tr_standings tr_x tr_height tr_ripe tr_foot tr_fork tr_settings no_apron no_basket no_ground no_helper no_today).2 tr_standings) ro_size ro_numbers).1, (F_X5_look pl_wanted pl_near tr_fruits tr_standings tr_x tr_height tr_ripe tr_foot tr_fork tr_settings no_apron no_basket no_ground no_helper no_today).1, (F_X5_look pl_wanted pl_near tr_fruits tr_standings tr_x tr_height tr_ripe tr_foot tr_fork tr_settings no_apron no_basket no_ground no_helper no_today).2, (F_X9_tellMembers (F_X5_smallestCover ((F_X0_ripeFirst p0 tr_fruits tr_ripe no_apron no_basket no_ground no_today) &&& (F_X5_reachedBy (F_X3_allStandings tr_standings) (F_X5_look pl_wanted pl_near tr_fruits tr_standings tr_x tr_height tr_ripe tr_foot tr_fork tr_settings no_apron no_basket no_ground no_helper no_today).2 tr_standings)) (F_X3_allStandings tr_standings) (F_X5_look pl_wanted pl_near tr_fruits tr_standings tr_x tr_height tr_ripe tr_foot tr_fork tr_settings no_apron no_basket no_ground no_helper no_today).2 tr_standings) ro_size ro_numbers).2.1, (F_X9_tellMembers (F_X5_smallestCover ((F_X0_ripeFirst p0 tr_fruits tr_ripe no_apron no_basket no_ground no_today) &&& (F_X5_reachedBy (F_X3_allStandings tr_standings) (F_X5_look pl_wanted pl_near tr_fruits tr_standings tr_x tr_height tr_ripe tr_foot tr_fork tr_settings no_apron no_basket no_ground no_helper no_today).2 tr_standings)) (F_X3_allStandings tr_standings) (F_X5_look pl_wanted pl_near tr_fruits tr_standings tr_x tr_height tr_ripe tr_foot tr_fork tr_settings no_apron no_basket no_ground no_helper no_today).2 tr_standings) ro_size ro_numbers).2.2) else ((-1), pl_wanted, pl_near, ro_size, ro_numbers))
set_option maxHeartbeats 200000 in
set_option maxRecDepth 10000 in
theorem dt_X9_ondays {P Q : Int32 → Int32 → (Nat → Int32) → Int32 → (Nat → Int32) → Prop} {p0 : Int32} {pl_wanted : Int32} {pl_near : Nat → Int32} {tr_fruits : Int32} {tr_standings : Int32} {tr_x : Nat → Int32} {tr_height : Nat → Int32} {tr_ripe : Nat → Int32} {tr_foot : Nat → Int32} {tr_fork : Nat → Int32} {tr_settings : Nat → Int32} {no_apron : Int32} {no_basket : Int32} {no_ground : Int32} {no_helper : Int32} {no_today : Int32} {ro_size : Int32} {ro_numbers : Nat → Int32} (h : wp_X9_ondays P p0 pl_wanted pl_near tr_fruits tr_standings tr_x tr_height tr_ripe tr_foot tr_fork tr_settings no_apron no_basket no_ground no_helper no_today ro_size ro_numbers) (hq : ∀ o : Int32 × Int32 × (Nat → Int32) × Int32 × (Nat → Int32), o = F_X9_ondays p0 pl_wanted pl_near tr_fruits tr_standings tr_x tr_height tr_ripe tr_foot tr_fork tr_settings no_apron no_basket no_ground no_helper no_today ro_size ro_numbers → P o.1 o.2.1 o.2.2.1 o.2.2.2.1 o.2.2.2.2 → Q o.1 o.2.1 o.2.2.1 o.2.2.2.1 o.2.2.2.2) : wp_X9_ondays Q p0 pl_wanted pl_near tr_fruits tr_standings tr_x tr_height tr_ripe tr_foot tr_fork tr_settings no_apron no_basket no_ground no_helper no_today ro_size ro_numbers := by
  rw [F_X9_ondays] at hq
  refine And.intro (fun c1 => ?_) (fun c1 => ?_)
  · have h := And.left h c1
    rw [if_pos c1] at hq
    have q9 := hq _ rfl
    dsimp only at q9
    exact q9 h
  · have h := And.right h c1
    rw [if_neg c1] at hq
    refine And.intro (fun c2 => ?_) (fun c2 => ?_)
    · have h := And.left h c2
      rw [if_pos c2] at hq
      refine du_X5_look h ?_
      intro h
      refine du_X0_ripeFirst h ?_
      intro h
      refine du_X3_allStandings h ?_
      intro h
      refine du_X5_reachedBy h ?_
      intro h
      refine ae ?_
      have h := h _ rfl
      refine du_X3_allStandings h ?_
      intro h
      refine du_X5_smallestCover h ?_
      intro h
      refine du_X9_tellMembers h ?_
      intro h
      have q9 := hq _ rfl
      dsimp only at q9
      exact q9 h
    · have h := And.right h c2
      rw [if_neg c2] at hq
      have q9 := hq _ rfl
      dsimp only at q9
      exact q9 h
theorem du_X9_ondays {P Q : Int32 → Int32 → (Nat → Int32) → Int32 → (Nat → Int32) → Prop} {p0 : Int32} {pl_wanted : Int32} {pl_near : Nat → Int32} {tr_fruits : Int32} {tr_standings : Int32} {tr_x : Nat → Int32} {tr_height : Nat → Int32} {tr_ripe : Nat → Int32} {tr_foot : Nat → Int32} {tr_fork : Nat → Int32} {tr_settings : Nat → Int32} {no_apron : Int32} {no_basket : Int32} {no_ground : Int32} {no_helper : Int32} {no_today : Int32} {ro_size : Int32} {ro_numbers : Nat → Int32} (h : wp_X9_ondays P p0 pl_wanted pl_near tr_fruits tr_standings tr_x tr_height tr_ripe tr_foot tr_fork tr_settings no_apron no_basket no_ground no_helper no_today ro_size ro_numbers) (hq : P (F_X9_ondays p0 pl_wanted pl_near tr_fruits tr_standings tr_x tr_height tr_ripe tr_foot tr_fork tr_settings no_apron no_basket no_ground no_helper no_today ro_size ro_numbers).1 (F_X9_ondays p0 pl_wanted pl_near tr_fruits tr_standings tr_x tr_height tr_ripe tr_foot tr_fork tr_settings no_apron no_basket no_ground no_helper no_today ro_size ro_numbers).2.1 (F_X9_ondays p0 pl_wanted pl_near tr_fruits tr_standings tr_x tr_height tr_ripe tr_foot tr_fork tr_settings no_apron no_basket no_ground no_helper no_today ro_size ro_numbers).2.2.1 (F_X9_ondays p0 pl_wanted pl_near tr_fruits tr_standings tr_x tr_height tr_ripe tr_foot tr_fork tr_settings no_apron no_basket no_ground no_helper no_today ro_size ro_numbers).2.2.2.1 (F_X9_ondays p0 pl_wanted pl_near tr_fruits tr_standings tr_x tr_height tr_ripe tr_foot tr_fork tr_settings no_apron no_basket no_ground no_helper no_today ro_size ro_numbers).2.2.2.2 → Q (F_X9_ondays p0 pl_wanted pl_near tr_fruits tr_standings tr_x tr_height tr_ripe tr_foot tr_fork tr_settings no_apron no_basket no_ground no_helper no_today ro_size ro_numbers).1 (F_X9_ondays p0 pl_wanted pl_near tr_fruits tr_standings tr_x tr_height tr_ripe tr_foot tr_fork tr_settings no_apron no_basket no_ground no_helper no_today ro_size ro_numbers).2.1 (F_X9_ondays p0 pl_wanted pl_near tr_fruits tr_standings tr_x tr_height tr_ripe tr_foot tr_fork tr_settings no_apron no_basket no_ground no_helper no_today ro_size ro_numbers).2.2.1 (F_X9_ondays p0 pl_wanted pl_near tr_fruits tr_standings tr_x tr_height tr_ripe tr_foot tr_fork tr_settings no_apron no_basket no_ground no_helper no_today ro_size ro_numbers).2.2.2.1 (F_X9_ondays p0 pl_wanted pl_near tr_fruits tr_standings tr_x tr_height tr_ripe tr_foot tr_fork tr_settings no_apron no_basket no_ground no_helper no_today ro_size ro_numbers).2.2.2.2) : wp_X9_ondays Q p0 pl_wanted pl_near tr_fruits tr_standings tr_x tr_height tr_ripe tr_foot tr_fork tr_settings no_apron no_basket no_ground no_helper no_today ro_size ro_numbers := dt_X9_ondays h (fun o eo => by rw [eo]; exact hq)
theorem dw_X9_ondays {Q : Int32 → Int32 → (Nat → Int32) → Int32 → (Nat → Int32) → Prop} {p0 : Int32} {pl_wanted : Int32} {pl_near : Nat → Int32} {tr_fruits : Int32} {tr_standings : Int32} {tr_x : Nat → Int32} {tr_height : Nat → Int32} {tr_ripe : Nat → Int32} {tr_foot : Nat → Int32} {tr_fork : Nat → Int32} {tr_settings : Nat → Int32} {no_apron : Int32} {no_basket : Int32} {no_ground : Int32} {no_helper : Int32} {no_today : Int32} {ro_size : Int32} {ro_numbers : Nat → Int32} (h : wp_X9_ondays (fun o0 o1 o2 o3 o4 => (o0, o1, o2, o3, o4) = F_X9_ondays p0 pl_wanted pl_near tr_fruits tr_standings tr_x tr_height tr_ripe tr_foot tr_fork tr_settings no_apron no_basket no_ground no_helper no_today ro_size ro_numbers → Q o0 o1 o2 o3 o4) p0 pl_wanted pl_near tr_fruits tr_standings tr_x tr_height tr_ripe tr_foot tr_fork tr_settings no_apron no_basket no_ground no_helper no_today ro_size ro_numbers) : wp_X9_ondays Q p0 pl_wanted pl_near tr_fruits tr_standings tr_x tr_height tr_ripe tr_foot tr_fork tr_settings no_apron no_basket no_ground no_helper no_today ro_size ro_numbers := dt_X9_ondays h (fun o eo hp => hp eo)
noncomputable def j_X9_allripe_62 {R : Type} (po : Int32 → Int32 → (Nat → Int32) → R) (tr_fruits : Int32) (tr_worth : Nat → Int32) (tr_ripe : Nat → Int32) (no_apron : Int32) (no_basket : Int32) (no_ground : Int32) (no_bruised : Int32) (no_today : Int32) (x2 : Int32) (x3 : Int32) (ro_size : Int32) (ro_numbers : Nat → Int32) : R := po x3 ((F_X9_tell_ (F_J6_bitCount_0f7a4 x2) (F_X0_worthOf x2 tr_fruits tr_worth no_bruised) ro_size ro_numbers).1) ((F_X9_tell_ (F_J6_bitCount_0f7a4 x2) (F_X0_worthOf x2 tr_fruits tr_worth no_bruised) ro_size ro_numbers).2)
noncomputable def fs_X9_allripe_35 {R : Type} (po : Int32 → Int32 → (Nat → Int32) → R) (tr_fruits : Int32) (tr_worth : Nat → Int32) (tr_ripe : Nat → Int32) (no_apron : Int32) (no_basket : Int32) (no_ground : Int32) (no_bruised : Int32) (no_today : Int32) (nx : Int32 → Int32 → Int32 → Int32 → (Nat → Int32) → R) (x1 : Int32) (x2 : Int32) (x3 : Int32) (ro_size : Int32) (ro_numbers : Nat → Int32) : R := if 9 ≤ x3 then (j_X9_allripe_62 po tr_fruits tr_worth tr_ripe no_apron no_basket no_ground no_bruised no_today x2 x3 ro_size ro_numbers) else (if (x1 &&& ((F_X3_ripeBy x3 tr_fruits tr_ripe) ^^^ (-1))) = 0 then (j_X9_allripe_62 po tr_fruits tr_worth tr_ripe no_apron no_basket no_ground no_bruised no_today x2 x3 ro_size ro_numbers) else (nx x1 x2 (x3 + 1) ro_size ro_numbers))
set_option maxHeartbeats 200000 in
set_option maxRecDepth 10000 in
theorem dl_X9_allripe_35 {P Q : Int32 → Int32 → (Nat → Int32) → Prop} {tr_fruits : Int32} {tr_worth : Nat → Int32} {tr_ripe : Nat → Int32} {no_apron : Int32} {no_basket : Int32} {no_ground : Int32} {no_bruised : Int32} {no_today : Int32} {R : Type} {po : Int32 → Int32 → (Nat → Int32) → R} {d : Int32 → Int32 → Int32 → Int32 → (Nat → Int32) → R} : ∀ (n m : Nat) (x1 : Int32) (x2 : Int32) (x3 : Int32) (ro_size : Int32) (ro_numbers : Nat → Int32), True → (((9 - Int32.toInt x3).toNat : Nat) : Int) < (m : Int) → wb_X9_allripe_35 P tr_fruits tr_worth tr_ripe no_apron no_basket no_ground no_bruised no_today n x1 x2 x3 ro_size ro_numbers → (∀ (b0 : Int32) (b1 : Int32) (b2 : Nat → Int32), po b0 b1 b2 = flp (fs_X9_allripe_35 po tr_fruits tr_worth tr_ripe no_apron no_basket no_ground no_bruised no_today) d m x1 x2 x3 ro_size ro_numbers → P b0 b1 b2 → Q b0 b1 b2) → wb_X9_allripe_35 Q tr_fruits tr_worth tr_ripe no_apron no_basket no_ground no_bruised no_today n x1 x2 x3 ro_size ro_numbers := by
  have l1 : Int32.toInt (1 : Int32) = 1 := by decide
  have l9 : Int32.toInt (9 : Int32) = 9 := by decide
  intro n
  induction n with
  | zero => intro m x1 x2 x3 ro_size ro_numbers hv hm h hq; exact False.elim h
  | succ n ih =>
    intro m x1 x2 x3 ro_size ro_numbers hv hm h hq
    cases m with
    | zero => exfalso; omega
    | succ m =>
      rw [flp_s, fs_X9_allripe_35] at hq
      have h : ws_X9_allripe_35 P (wb_X9_allripe_35 P tr_fruits tr_worth tr_ripe no_apron no_basket no_ground no_bruised no_today n) tr_fruits tr_worth tr_ripe no_apron no_basket no_ground no_bruised no_today x1 x2 x3 ro_size ro_numbers := h
      show ws_X9_allripe_35 Q (wb_X9_allripe_35 Q tr_fruits tr_worth tr_ripe no_apron no_basket no_ground no_bruised no_today n) tr_fruits tr_worth tr_ripe no_apron no_basket no_ground no_bruised no_today x1 x2 x3 ro_size ro_numbers
      unfold ws_X9_allripe_35 at h ⊢
      refine And.intro (fun c1 => ?_) (fun c1 => ?_)
      · have h := And.left h c1
        rw [if_pos c1] at hq
        have dc1 := (fa_le _ _).mp c1
        rw [j_X9_allripe_62] at hq
        unfold ws_X9_allripe_62 at h ⊢
        refine du_J6_bitCount_0f7a4 h ?_
        intro h
        refine du_X0_worthOf h ?_
        intro h
        refine du_X9_tell_ h ?_
        intro h
        exact hq _ _ _ rfl h
      · have h := And.right h c1
        rw [if_neg c1] at hq
        have dc1 := mt (fa_le _ _).mpr c1
        refine du_X3_ripeBy h ?_
        intro h
        refine And.intro (fun c2 => ?_) (fun c2 => ?_)
        · have h := And.left h c2
          rw [if_pos c2] at hq
          have dc2 := (fa_eq _ _).mp c2
          rw [j_X9_allripe_62] at hq
          unfold ws_X9_allripe_62 at h ⊢
          refine du_J6_bitCount_0f7a4 h ?_
          intro h
          refine du_X0_worthOf h ?_
          intro h
          refine du_X9_tell_ h ?_
          intro h
          exact hq _ _ _ rfl h
        · have h := And.right h c2
          rw [if_neg c2] at hq
          have dc2 := mt (fa_eq _ _).mpr c2
          refine ae ?_
          have h := h _ rfl
          have r9 := tp_r x3
          have f9 := ta_add x3 1 (by omega)
          exact ih m _ _ _ _ _ trivial (by omega) h hq
noncomputable def F_X9_allripe (tr_fruits : Int32) (tr_worth : Nat → Int32) (tr_ripe : Nat → Int32) (no_apron : Int32) (no_basket : Int32) (no_ground : Int32) (no_bruised : Int32) (no_today : Int32) (ro_size : Int32) (ro_numbers : Nat → Int32) : Int32 × Int32 × (Nat → Int32) := flp (fs_X9_allripe_35 (fun o0 o1 o2 => (o0, o1, o2)) tr_fruits tr_worth tr_ripe no_apron no_basket no_ground no_bruised no_today) (fun _ _ _ _ _ => (0, 0, (fun _ => 0))) 10 (F_X0_hanging tr_fruits no_apron no_basket no_ground) ((F_X0_hanging tr_fruits no_apron no_basket no_ground) &&& ((F_X3_ripeBy no_today tr_fruits tr_ripe) ^^^ (-1))) no_today ro_size ro_numbers
set_option maxHeartbeats 200000 in
set_option maxRecDepth 10000 in
theorem dt_X9_allripe {P Q : Int32 → Int32 → (Nat → Int32) → Prop} {tr_fruits : Int32} {tr_worth : Nat → Int32} {tr_ripe : Nat → Int32} {no_apron : Int32} {no_basket : Int32} {no_ground : Int32} {no_bruised : Int32} {no_today : Int32} {ro_size : Int32} {ro_numbers : Nat → Int32} (hy0 : 0 ≤ Int32.toInt no_today) (h : wp_X9_allripe P tr_fruits tr_worth tr_ripe no_apron no_basket no_ground no_bruised no_today ro_size ro_numbers) (hq : ∀ o : Int32 × Int32 × (Nat → Int32), o = F_X9_allripe tr_fruits tr_worth tr_ripe no_apron no_basket no_ground no_bruised no_today ro_size ro_numbers → P o.1 o.2.1 o.2.2 → Q o.1 o.2.1 o.2.2) : wp_X9_allripe Q tr_fruits tr_worth tr_ripe no_apron no_basket no_ground no_bruised no_today ro_size ro_numbers := by
  rw [F_X9_allripe] at hq
  refine du_X0_hanging h ?_
  intro h
  refine du_X3_ripeBy h ?_
  intro h
  refine ae ?_
  have h := h _ rfl
  obtain ⟨n1, h⟩ := h
  exact ⟨n1, dl_X9_allripe_35 n1 10 _ _ _ _ _ trivial (by omega) h (fun b0 b1 b2 e9 h9 => hq (b0, b1, b2) e9 h9)⟩
theorem du_X9_allripe {P Q : Int32 → Int32 → (Nat → Int32) → Prop} {tr_fruits : Int32} {tr_worth : Nat → Int32} {tr_ripe : Nat → Int32} {no_apron : Int32} {no_basket : Int32} {no_ground : Int32} {no_bruised : Int32} {no_today : Int32} {ro_size : Int32} {ro_numbers : Nat → Int32} (hy0 : 0 ≤ Int32.toInt no_today) (h : wp_X9_allripe P tr_fruits tr_worth tr_ripe no_apron no_basket no_ground no_bruised no_today ro_size ro_numbers) (hq : P (F_X9_allripe tr_fruits tr_worth tr_ripe no_apron no_basket no_ground no_bruised no_today ro_size ro_numbers).1 (F_X9_allripe tr_fruits tr_worth tr_ripe no_apron no_basket no_ground no_bruised no_today ro_size ro_numbers).2.1 (F_X9_allripe tr_fruits tr_worth tr_ripe no_apron no_basket no_ground no_bruised no_today ro_size ro_numbers).2.2 → Q (F_X9_allripe tr_fruits tr_worth tr_ripe no_apron no_basket no_ground no_bruised no_today ro_size ro_numbers).1 (F_X9_allripe tr_fruits tr_worth tr_ripe no_apron no_basket no_ground no_bruised no_today ro_size ro_numbers).2.1 (F_X9_allripe tr_fruits tr_worth tr_ripe no_apron no_basket no_ground no_bruised no_today ro_size ro_numbers).2.2) : wp_X9_allripe Q tr_fruits tr_worth tr_ripe no_apron no_basket no_ground no_bruised no_today ro_size ro_numbers := dt_X9_allripe hy0 h (fun o eo => by rw [eo]; exact hq)
theorem dw_X9_allripe {Q : Int32 → Int32 → (Nat → Int32) → Prop} {tr_fruits : Int32} {tr_worth : Nat → Int32} {tr_ripe : Nat → Int32} {no_apron : Int32} {no_basket : Int32} {no_ground : Int32} {no_bruised : Int32} {no_today : Int32} {ro_size : Int32} {ro_numbers : Nat → Int32} (hy0 : 0 ≤ Int32.toInt no_today) (h : wp_X9_allripe (fun o0 o1 o2 => (o0, o1, o2) = F_X9_allripe tr_fruits tr_worth tr_ripe no_apron no_basket no_ground no_bruised no_today ro_size ro_numbers → Q o0 o1 o2) tr_fruits tr_worth tr_ripe no_apron no_basket no_ground no_bruised no_today ro_size ro_numbers) : wp_X9_allripe Q tr_fruits tr_worth tr_ripe no_apron no_basket no_ground no_bruised no_today ro_size ro_numbers := dt_X9_allripe hy0 h (fun o eo hp => hp eo)
noncomputable def fs_X1_readAll_5 {R : Type} (po : Int32 → Int32 → Int32 → (Nat → Int32) → R) (tx_length : Int32) (tx_stop : Int32) (tx_signs : Nat → Int32) (nx : Int32 → Int32 → (Nat → Int32) → R) (tx_place : Int32) (mk_many : Int32) (mk_at : Nat → Int32) : R := if 6 ≤ mk_many then (po 0 tx_place mk_many mk_at) else (if (F_X8_readNumber 2 tx_place tx_stop tx_signs).1 = (-1) then (po 0 ((F_X8_readNumber 2 tx_place tx_stop tx_signs).2) mk_many mk_at) else (if (F_X8_take 44 (F_X8_readNumber 2 tx_place tx_stop tx_signs).2 tx_stop tx_signs).1 = 0 then (po (F_X8_isThrough tx_length (F_X8_take 44 (F_X8_readNumber 2 tx_place tx_stop tx_signs).2 tx_stop tx_signs).2) ((F_X8_take 44 (F_X8_readNumber 2 tx_place tx_stop tx_signs).2 tx_stop tx_signs).2) (mk_many + 1) (upd mk_at mk_many.toNatClampNeg (F_X8_readNumber 2 tx_place tx_stop tx_signs).1)) else (nx ((F_X8_take 44 (F_X8_readNumber 2 tx_place tx_stop tx_signs).2 tx_stop tx_signs).2) (mk_many + 1) (upd mk_at mk_many.toNatClampNeg (F_X8_readNumber 2 tx_place tx_stop tx_signs).1))))
set_option maxHeartbeats 200000 in
set_option maxRecDepth 10000 in
theorem dl_X1_readAll_5 {P Q : Int32 → Int32 → Int32 → (Nat → Int32) → Prop} {tx_length : Int32} {tx_stop : Int32} {tx_signs : Nat → Int32} {R : Type} {po : Int32 → Int32 → Int32 → (Nat → Int32) → R} {d : Int32 → Int32 → (Nat → Int32) → R} : ∀ (n m : Nat) (tx_place : Int32) (mk_many : Int32) (mk_at : Nat → Int32), 0 ≤ Int32.toInt mk_many ∧ Int32.toInt mk_many ≤ 6 → 6 - Int32.toInt mk_many < (m : Int) → wb_X1_readAll_5 P tx_length tx_stop tx_signs n tx_place mk_many mk_at → (∀ (b0 : Int32) (b1 : Int32) (b2 : Int32) (b3 : Nat → Int32), po b0 b1 b2 b3 = flp (fs_X1_readAll_5 po tx_length tx_stop tx_signs) d m tx_place mk_many mk_at → P b0 b1 b2 b3 → Q b0 b1 b2 b3) → wb_X1_readAll_5 Q tx_length tx_stop tx_signs n tx_place mk_many mk_at := by
  have l1 : Int32.toInt (1 : Int32) = 1 := by decide
  have l6 : Int32.toInt (6 : Int32) = 6 := by decide
  intro n
  induction n with
  | zero => intro m tx_place mk_many mk_at hv hm h hq; exact False.elim h
  | succ n ih =>
    intro m tx_place mk_many mk_at hv hm h hq
    cases m with
    | zero => exfalso; omega
    | succ m =>
      rw [flp_s, fs_X1_readAll_5] at hq
      have h : ws_X1_readAll_5 P (wb_X1_readAll_5 P tx_length tx_stop tx_signs n) tx_length tx_stop tx_signs tx_place mk_many mk_at := h
      show ws_X1_readAll_5 Q (wb_X1_readAll_5 Q tx_length tx_stop tx_signs n) tx_length tx_stop tx_signs tx_place mk_many mk_at
      unfold ws_X1_readAll_5 at h ⊢
      refine And.intro (fun c1 => ?_) (fun c1 => ?_)
      · have h := And.left h c1
        rw [if_pos c1] at hq
        have dc1 := (fa_le _ _).mp c1
        exact hq _ _ _ _ rfl h
      · have h := And.right h c1
        rw [if_neg c1] at hq
        have dc1 := mt (fa_le _ _).mpr c1
        refine du_X8_readNumber (by decide) h ?_
        intro h
        refine And.intro (fun c2 => ?_) (fun c2 => ?_)
        · have h := And.left h c2
          rw [if_neg c2] at hq
          have dc2 := mt (fa_eq _ _).mpr c2
          refine And.intro (And.left h) ?_
          have h := And.right h
          refine du_X8_take h ?_
          intro h
          refine And.intro (fun c3 => ?_) (fun c3 => ?_)
          · have h := And.left h c3
            rw [if_neg c3] at hq
            have dc3 := mt (fa_eq _ _).mpr c3
            refine ae ?_
            have h := h _ rfl
            have f9 := ta_add mk_many 1 (by omega)
            exact ih m _ _ _ (by omega) (by omega) h hq
          · have h := And.right h c3
            rw [if_pos c3] at hq
            have dc3 := (fa_eq _ _).mp c3
            refine ae ?_
            have h := h _ rfl
            refine du_X8_isThrough h ?_
            intro h
            refine And.intro (And.left h) ?_
            have h := And.right h
            exact hq _ _ _ _ rfl h
        · have h := And.right h c2
          rw [if_pos c2] at hq
          have dc2 := (fa_eq _ _).mp c2
          exact hq _ _ _ _ rfl h
noncomputable def F_X1_readAll (tx_length : Int32) (tx_place : Int32) (tx_stop : Int32) (tx_signs : Nat → Int32) (mk_many : Int32) (mk_at : Nat → Int32) : Int32 × Int32 × Int32 × (Nat → Int32) := flp (fs_X1_readAll_5 (fun o0 o1 o2 o3 => (o0, o1, o2, o3)) tx_length tx_stop tx_signs) (fun _ _ _ => (0, 0, 0, (fun _ => 0))) 7 tx_place 0 mk_at
set_option maxHeartbeats 200000 in
set_option maxRecDepth 10000 in
theorem dt_X1_readAll {P Q : Int32 → Int32 → Int32 → (Nat → Int32) → Prop} {tx_length : Int32} {tx_place : Int32} {tx_stop : Int32} {tx_signs : Nat → Int32} {mk_many : Int32} {mk_at : Nat → Int32} (h : wp_X1_readAll P tx_length tx_place tx_stop tx_signs mk_many mk_at) (hq : ∀ o : Int32 × Int32 × Int32 × (Nat → Int32), o = F_X1_readAll tx_length tx_place tx_stop tx_signs mk_many mk_at → P o.1 o.2.1 o.2.2.1 o.2.2.2 → Q o.1 o.2.1 o.2.2.1 o.2.2.2) : wp_X1_readAll Q tx_length tx_place tx_stop tx_signs mk_many mk_at := by
  rw [F_X1_readAll] at hq
  obtain ⟨n1, h⟩ := h
  exact ⟨n1, dl_X1_readAll_5 n1 7 _ _ _ (by decide) (by decide) h (fun b0 b1 b2 b3 e9 h9 => hq (b0, b1, b2, b3) e9 h9)⟩
theorem du_X1_readAll {P Q : Int32 → Int32 → Int32 → (Nat → Int32) → Prop} {tx_length : Int32} {tx_place : Int32} {tx_stop : Int32} {tx_signs : Nat → Int32} {mk_many : Int32} {mk_at : Nat → Int32} (h : wp_X1_readAll P tx_length tx_place tx_stop tx_signs mk_many mk_at) (hq : P (F_X1_readAll tx_length tx_place tx_stop tx_signs mk_many mk_at).1 (F_X1_readAll tx_length tx_place tx_stop tx_signs mk_many mk_at).2.1 (F_X1_readAll tx_length tx_place tx_stop tx_signs mk_many mk_at).2.2.1 (F_X1_readAll tx_length tx_place tx_stop tx_signs mk_many mk_at).2.2.2 → Q (F_X1_readAll tx_length tx_place tx_stop tx_signs mk_many mk_at).1 (F_X1_readAll tx_length tx_place tx_stop tx_signs mk_many mk_at).2.1 (F_X1_readAll tx_length tx_place tx_stop tx_signs mk_many mk_at).2.2.1 (F_X1_readAll tx_length tx_place tx_stop tx_signs mk_many mk_at).2.2.2) : wp_X1_readAll Q tx_length tx_place tx_stop tx_signs mk_many mk_at := dt_X1_readAll h (fun o eo => by rw [eo]; exact hq)
noncomputable def j_X1_countRows_92 {R : Type} (k37 : Int32 → Int32 → Int32 → Int32 → Int32 → Int32 → (Nat → Int32) → R) (tr_standings : Int32) (tr_foot : Nat → Int32) (mk_many : Int32) (mk_at : Nat → Int32) (x2 : Int32) (x3 : Int32) (x4 : Int32) (x5 : Int32) (x6 : Int32) (x7 : Int32) (x8 : Int32) (mk_rows : Nat → Int32) : R := k37 x2 (x3 + x8) x4 x5 x6 (x7 + 1) (upd mk_rows ((x4 * 8) + x7).toNatClampNeg x8)
noncomputable def j_X1_countRows_90 {R : Type} (k37 : Int32 → Int32 → Int32 → Int32 → Int32 → Int32 → (Nat → Int32) → R) (tr_standings : Int32) (tr_foot : Nat → Int32) (mk_many : Int32) (mk_at : Nat → Int32) (x2 : Int32) (x3 : Int32) (x4 : Int32) (x5 : Int32) (x6 : Int32) (x7 : Int32) (k0 : Int32) (mk_rows : Nat → Int32) : R := j_X1_countRows_92 k37 tr_standings tr_foot mk_many mk_at x2 x3 x4 x5 x6 x7 k0 mk_rows
noncomputable def bd_X1_countRows_37 (tr_standings : Int32) (tr_foot : Nat → Int32) (mk_many : Int32) (mk_at : Nat → Int32) (x2 : Int32) (x4 : Int32) (x5 : Int32) (x6 : Int32) (c : Int32) (s : Int32 × (Nat → Int32)) : Int32 × (Nat → Int32) := if ((x5 >>> (c &&& 31)) &&& 1) = 0 then (j_X1_countRows_92 (fun q0 q1 q2 q3 q4 q5 q6 => (q1, q6)) tr_standings tr_foot mk_many mk_at x2 s.1 x4 x5 x6 c 0 s.2) else (if x4 = (mk_many - 1) then (j_X1_countRows_90 (fun q0 q1 q2 q3 q4 q5 q6 => (q1, q6)) tr_standings tr_foot mk_many mk_at x2 s.1 x4 x5 x6 c 1 s.2) else (j_X1_countRows_90 (fun q0 q1 q2 q3 q4 q5 q6 => (q1, q6)) tr_standings tr_foot mk_many mk_at x2 s.1 x4 x5 x6 c (x6 - (s.2 (((x4 + 1) * 8) + c).toNatClampNeg)) s.2))
noncomputable def ex_X1_countRows_37 {R : Type} (k10 : Int32 → Int32 → Int32 → (Nat → Int32) → R) (tr_standings : Int32) (tr_foot : Nat → Int32) (mk_many : Int32) (mk_at : Nat → Int32) (x2 : Int32) (x4 : Int32) (x5 : Int32) (x6 : Int32) (c : Int32) (s : Int32 × (Nat → Int32)) : R := k10 x2 s.1 (x4 + (-1)) s.2
set_option maxHeartbeats 200000 in
set_option maxRecDepth 10000 in
theorem dl_X1_countRows_37 {P Q : Int32 → (Nat → Int32) → Prop} {K10 L10 : Int32 → Int32 → Int32 → (Nat → Int32) → Prop} {tr_standings : Int32} {tr_foot : Nat → Int32} {mk_many : Int32} {mk_at : Nat → Int32} {x2 : Int32} {x4 : Int32} {x5 : Int32} {x6 : Int32} {a : Int32 × (Nat → Int32)} {i : Nat} (hi0 : i < 2147483648) (hE : ∀ (c : Int32) (s : Int32 × (Nat → Int32)), c = nI (i + (Int32.toInt 8 - ((i : Nat) : Int)).toNat) → s = itr (bd_X1_countRows_37 tr_standings tr_foot mk_many mk_at x2 x4 x5 x6) a i (Int32.toInt 8 - ((i : Nat) : Int)).toNat → (∀ v_4 : Int32, v_4 = x4 + (-1) → K10 x2 s.1 v_4 s.2) → (∀ v_4 : Int32, v_4 = x4 + (-1) → L10 x2 s.1 v_4 s.2)) : ∀ (n k : Nat) (c : Int32), c = nI (i + k) → k ≤ (Int32.toInt 8 - ((i : Nat) : Int)).toNat → wb_X1_countRows_37 P K10 tr_standings tr_foot mk_many mk_at n x2 (itr (bd_X1_countRows_37 tr_standings tr_foot mk_many mk_at x2 x4 x5 x6) a i k).1 x4 x5 x6 c (itr (bd_X1_countRows_37 tr_standings tr_foot mk_many mk_at x2 x4 x5 x6) a i k).2 → wb_X1_countRows_37 Q L10 tr_standings tr_foot mk_many mk_at n x2 (itr (bd_X1_countRows_37 tr_standings tr_foot mk_many mk_at x2 x4 x5 x6) a i k).1 x4 x5 x6 c (itr (bd_X1_countRows_37 tr_standings tr_foot mk_many mk_at x2 x4 x5 x6) a i k).2 := by
  intro n
  induction n with
  | zero => intro k c hc hk h; exact False.elim h
  | succ n ih =>
    intro k c hc hk h
    have hr := tp_r 8
    have hi : Int32.toInt c = ((i + k : Nat) : Int) := by rw [hc]; exact nI_toInt (by omega)
    refine And.intro (fun t0 => ?_) (fun t0 => ?_)
    · have h := And.left h t0
      have t1 := (fa_le _ _).mp t0
      have hk2 : k = (Int32.toInt 8 - ((i : Nat) : Int)).toNat := by omega
      subst hk2
      exact hE _ _ hc rfl h
    · have h := And.right h t0
      have t1 := mt (fa_le _ _).mpr t0
      have hs : ∀ o : Int32 × (Nat → Int32), o = itr (bd_X1_countRows_37 tr_standings tr_foot mk_many mk_at x2 x4 x5 x6) a i (k + 1) → wb_X1_countRows_37 P K10 tr_standings tr_foot mk_many mk_at n x2 o.1 x4 x5 x6 (c + 1) o.2 → wb_X1_countRows_37 Q L10 tr_standings tr_foot mk_many mk_at n x2 o.1 x4 x5 x6 (c + 1) o.2 := by
        intro o eo h9
        have q := ih (k + 1) (c + 1) (by rw [hc]; exact nI_1 _) (by omega)
        rw [← eo] at q
        exact q h9
      rw [itr_s, ← hc, bd_X1_countRows_37] at hs
      refine ae ?_
      have h := h _ rfl
      refine And.intro (fun c1 => ?_) (fun c1 => ?_)
      · have h := And.left h c1
        rw [if_pos c1] at hs
        rw [j_X1_countRows_92] at hs
        unfold ws_X1_countRows_92 at h ⊢
        refine ae ?_
        have h := h _ rfl
        refine ae ?_
        have h := h _ rfl
        refine And.intro (And.left h) ?_
        have h := And.right h
        refine ae ?_
        have h := h _ rfl
        refine ae ?_
        have h := h _ rfl
        have q9 := hs _ rfl
        dsimp only at q9
        exact q9 h
      · have h := And.right h c1
        rw [if_neg c1] at hs
        refine And.intro (fun c2 => ?_) (fun c2 => ?_)
        · have h := And.left h c2
          rw [if_neg c2] at hs
          refine ae ?_
          have h := h _ rfl
          refine ae ?_
          have h := h _ rfl
          refine ae ?_
          have h := h _ rfl
          refine And.intro (And.left h) ?_
          have h := And.right h
          refine ae ?_
          have h := h _ rfl
          rw [j_X1_countRows_90] at hs
          unfold ws_X1_countRows_90 at h ⊢
          rw [j_X1_countRows_92] at hs
          unfold ws_X1_countRows_92 at h ⊢
          refine ae ?_
          have h := h _ rfl
          refine ae ?_
          have h := h _ rfl
          refine And.intro (And.left h) ?_
          have h := And.right h
          refine ae ?_
          have h := h _ rfl
          refine ae ?_
          have h := h _ rfl
          have q9 := hs _ rfl
          dsimp only at q9
          exact q9 h
        · have h := And.right h c2
          rw [if_pos c2] at hs
          rw [j_X1_countRows_90] at hs
          unfold ws_X1_countRows_90 at h ⊢
          rw [j_X1_countRows_92] at hs
          unfold ws_X1_countRows_92 at h ⊢
          refine ae ?_
          have h := h _ rfl
          refine ae ?_
          have h := h _ rfl
          refine And.intro (And.left h) ?_
          have h := And.right h
          refine ae ?_
          have h := h _ rfl
          refine ae ?_
          have h := h _ rfl
          have q9 := hs _ rfl
          dsimp only at q9
          exact q9 h
noncomputable def fs_X1_countRows_10 {R : Type} (po : Int32 → (Nat → Int32) → R) (tr_standings : Int32) (tr_foot : Nat → Int32) (mk_many : Int32) (mk_at : Nat → Int32) (nx : Int32 → Int32 → Int32 → (Nat → Int32) → R) (x2 : Int32) (x3 : Int32) (x4 : Int32) (mk_rows : Nat → Int32) : R := if x4 < 0 then (po x3 mk_rows) else (ex_X1_countRows_37 nx tr_standings tr_foot mk_many mk_at x2 x4 (F_X3_standingsAt (mk_at x4.toNatClampNeg) x2 tr_standings tr_foot) x3 (nI (0 + (Int32.toInt 8 - ((0 : Nat) : Int)).toNat)) (itr (bd_X1_countRows_37 tr_standings tr_foot mk_many mk_at x2 x4 (F_X3_standingsAt (mk_at x4.toNatClampNeg) x2 tr_standings tr_foot) x3) (0, mk_rows) 0 (Int32.toInt 8 - ((0 : Nat) : Int)).toNat))
set_option maxHeartbeats 200000 in
set_option maxRecDepth 10000 in
theorem dl_X1_countRows_10 {P Q : Int32 → (Nat → Int32) → Prop} {tr_standings : Int32} {tr_foot : Nat → Int32} {mk_many : Int32} {mk_at : Nat → Int32} {R : Type} {po : Int32 → (Nat → Int32) → R} {d : Int32 → Int32 → Int32 → (Nat → Int32) → R} : ∀ (n m : Nat) (x2 : Int32) (x3 : Int32) (x4 : Int32) (mk_rows : Nat → Int32), True → (((Int32.toInt x4 + 1).toNat : Nat) : Int) < (m : Int) → wb_X1_countRows_10 P tr_standings tr_foot mk_many mk_at n x2 x3 x4 mk_rows → (∀ (b0 : Int32) (b1 : Nat → Int32), po b0 b1 = flp (fs_X1_countRows_10 po tr_standings tr_foot mk_many mk_at) d m x2 x3 x4 mk_rows → P b0 b1 → Q b0 b1) → wb_X1_countRows_10 Q tr_standings tr_foot mk_many mk_at n x2 x3 x4 mk_rows := by
  have l0 : Int32.toInt (0 : Int32) = 0 := by decide
  intro n
  induction n with
  | zero => intro m x2 x3 x4 mk_rows hv hm h hq; exact False.elim h
  | succ n ih =>
    intro m x2 x3 x4 mk_rows hv hm h hq
    cases m with
    | zero => exfalso; omega
    | succ m =>
      rw [flp_s, fs_X1_countRows_10] at hq
      have h : ws_X1_countRows_10 P (wb_X1_countRows_10 P tr_standings tr_foot mk_many mk_at n) tr_standings tr_foot mk_many mk_at x2 x3 x4 mk_rows := h
      show ws_X1_countRows_10 Q (wb_X1_countRows_10 Q tr_standings tr_foot mk_many mk_at n) tr_standings tr_foot mk_many mk_at x2 x3 x4 mk_rows
      unfold ws_X1_countRows_10 at h ⊢
      refine And.intro (fun c1 => ?_) (fun c1 => ?_)
      · have h := And.left h c1
        rw [if_pos c1] at hq
        have dc1 := (fa_lt _ _).mp c1
        exact hq _ _ rfl h
      · have h := And.right h c1
        rw [if_neg c1] at hq
        have dc1 := mt (fa_lt _ _).mpr c1
        refine And.intro (And.left h) ?_
        have h := And.right h
        refine ae ?_
        have h := h _ rfl
        refine du_X3_standingsAt h ?_
        intro h
        obtain ⟨n2, h⟩ := h
        refine ⟨n2, dl_X1_countRows_37 (a := (0, mk_rows)) (i := 0) (by decide) ?_ n2 0 0 (by decide) (Nat.zero_le _) h⟩
        intro cc3 s4 ec5 es6 h
        rw [← ec5, ← es6, ex_X1_countRows_37] at hq
        refine ae ?_
        have h := h _ rfl
        have r9 := tp_r x4
        have l8 : Int32.toInt (-1 : Int32) = -1 := by decide
        have f9 := ta_add x4 (-1) (by omega)
        exact ih m _ _ _ _ trivial (by omega) h hq
noncomputable def F_X1_countRows (p1 : Int32) (tr_standings : Int32) (tr_foot : Nat → Int32) (mk_many : Int32) (mk_at : Nat → Int32) (mk_rows : Nat → Int32) : Int32 × (Nat → Int32) := flp (fs_X1_countRows_10 (fun o0 o1 => (o0, o1)) tr_standings tr_foot mk_many mk_at) (fun _ _ _ _ => (0, (fun _ => 0))) 7 p1 0 (mk_many - 1) mk_rows
set_option maxHeartbeats 200000 in
set_option maxRecDepth 10000 in
theorem dt_X1_countRows {P Q : Int32 → (Nat → Int32) → Prop} {p1 : Int32} {tr_standings : Int32} {tr_foot : Nat → Int32} {mk_many : Int32} {mk_at : Nat → Int32} {mk_rows : Nat → Int32} (hy0 : Int32.toInt (mk_many - 1) ≤ 5) (h : wp_X1_countRows P p1 tr_standings tr_foot mk_many mk_at mk_rows) (hq : ∀ o : Int32 × (Nat → Int32), o = F_X1_countRows p1 tr_standings tr_foot mk_many mk_at mk_rows → P o.1 o.2 → Q o.1 o.2) : wp_X1_countRows Q p1 tr_standings tr_foot mk_many mk_at mk_rows := by
  rw [F_X1_countRows] at hq
  refine ae ?_
  have h := h _ rfl
  obtain ⟨n1, h⟩ := h
  exact ⟨n1, dl_X1_countRows_10 n1 7 _ _ _ _ trivial (by omega) h (fun b0 b1 e9 h9 => hq (b0, b1) e9 h9)⟩
theorem du_X1_countRows {P Q : Int32 → (Nat → Int32) → Prop} {p1 : Int32} {tr_standings : Int32} {tr_foot : Nat → Int32} {mk_many : Int32} {mk_at : Nat → Int32} {mk_rows : Nat → Int32} (hy0 : Int32.toInt (mk_many - 1) ≤ 5) (h : wp_X1_countRows P p1 tr_standings tr_foot mk_many mk_at mk_rows) (hq : P (F_X1_countRows p1 tr_standings tr_foot mk_many mk_at mk_rows).1 (F_X1_countRows p1 tr_standings tr_foot mk_many mk_at mk_rows).2 → Q (F_X1_countRows p1 tr_standings tr_foot mk_many mk_at mk_rows).1 (F_X1_countRows p1 tr_standings tr_foot mk_many mk_at mk_rows).2) : wp_X1_countRows Q p1 tr_standings tr_foot mk_many mk_at mk_rows := dt_X1_countRows hy0 h (fun o eo => by rw [eo]; exact hq)
noncomputable def j_X1_firstFor_29 {R : Type} (k2 : Int32 → Int32 → Int32 → R) (mk_rows : Nat → Int32) (x1 : Int32) (x2 : Int32) (x3 : Int32) : R := k2 x1 x2 (x3 + 1)
noncomputable def fs_X1_firstFor_2 {R : Type} (po : Int32 → R) (mk_rows : Nat → Int32) (nx : Int32 → Int32 → Int32 → R) (x1 : Int32) (x2 : Int32) (x3 : Int32) : R := if 8 ≤ x3 then (po (-1)) else (if x3 = x2 then (j_X1_firstFor_29 nx mk_rows x1 x2 x3) else (if (mk_rows ((x1 * 8) + x3).toNatClampNeg) ≤ 0 then (j_X1_firstFor_29 nx mk_rows x1 x2 x3) else (po x3)))
set_option maxHeartbeats 200000 in
set_option maxRecDepth 10000 in
theorem dl_X1_firstFor_2 {P Q : Int32 → Prop} {mk_rows : Nat → Int32} {R : Type} {po : Int32 → R} {d : Int32 → Int32 → Int32 → R} : ∀ (n m : Nat) (x1 : Int32) (x2 : Int32) (x3 : Int32), 0 ≤ Int32.toInt x3 ∧ Int32.toInt x3 ≤ 8 → 8 - Int32.toInt x3 < (m : Int) → wb_X1_firstFor_2 P mk_rows n x1 x2 x3 → (∀ (b0 : Int32), po b0 = flp (fs_X1_firstFor_2 po mk_rows) d m x1 x2 x3 → P b0 → Q b0) → wb_X1_firstFor_2 Q mk_rows n x1 x2 x3 := by
  have l1 : Int32.toInt (1 : Int32) = 1 := by decide
  have l8 : Int32.toInt (8 : Int32) = 8 := by decide
  intro n
  induction n with
  | zero => intro m x1 x2 x3 hv hm h hq; exact False.elim h
  | succ n ih =>
    intro m x1 x2 x3 hv hm h hq
    cases m with
    | zero => exfalso; omega
    | succ m =>
      rw [flp_s, fs_X1_firstFor_2] at hq
      have h : ws_X1_firstFor_2 P (wb_X1_firstFor_2 P mk_rows n) mk_rows x1 x2 x3 := h
      show ws_X1_firstFor_2 Q (wb_X1_firstFor_2 Q mk_rows n) mk_rows x1 x2 x3
      unfold ws_X1_firstFor_2 at h ⊢
      refine And.intro (fun c1 => ?_) (fun c1 => ?_)
      · have h := And.left h c1
        rw [if_pos c1] at hq
        have dc1 := (fa_le _ _).mp c1
        exact hq _ rfl h
      · have h := And.right h c1
        rw [if_neg c1] at hq
        have dc1 := mt (fa_le _ _).mpr c1
        refine And.intro (fun c2 => ?_) (fun c2 => ?_)
        · have h := And.left h c2
          rw [if_pos c2] at hq
          have dc2 := (fa_eq _ _).mp c2
          rw [j_X1_firstFor_29] at hq
          unfold ws_X1_firstFor_29 at h ⊢
          refine ae ?_
          have h := h _ rfl
          have f9 := ta_add x3 1 (by omega)
          exact ih m _ _ _ (by omega) (by omega) h hq
        · have h := And.right h c2
          rw [if_neg c2] at hq
          have dc2 := mt (fa_eq _ _).mpr c2
          refine ae ?_
          have h := h _ rfl
          refine ae ?_
          have h := h _ rfl
          refine And.intro (And.left h) ?_
          have h := And.right h
          refine And.intro (fun c3 => ?_) (fun c3 => ?_)
          · have h := And.left h c3
            rw [if_pos c3] at hq
            have dc3 := (fa_le _ _).mp c3
            rw [j_X1_firstFor_29] at hq
            unfold ws_X1_firstFor_29 at h ⊢
            refine ae ?_
            have h := h _ rfl
            have f9 := ta_add x3 1 (by omega)
            exact ih m _ _ _ (by omega) (by omega) h hq
          · have h := And.right h c3
            rw [if_neg c3] at hq
            have dc3 := mt (fa_le _ _).mpr c3
            exact hq _ rfl h
noncomputable def F_X1_firstFor (p0 : Int32) (p1 : Int32) (mk_rows : Nat → Int32) : Int32 := flp (fs_X1_firstFor_2 (fun o0 => o0) mk_rows) (fun _ _ _ => 0) 9 p0 p1 0
set_option maxHeartbeats 200000 in
set_option maxRecDepth 10000 in
theorem dt_X1_firstFor {P Q : Int32 → Prop} {p0 : Int32} {p1 : Int32} {mk_rows : Nat → Int32} (h : wp_X1_firstFor P p0 p1 mk_rows) (hq : ∀ o : Int32, o = F_X1_firstFor p0 p1 mk_rows → P o → Q o) : wp_X1_firstFor Q p0 p1 mk_rows := by
  rw [F_X1_firstFor] at hq
  obtain ⟨n1, h⟩ := h
  exact ⟨n1, dl_X1_firstFor_2 n1 9 _ _ _ (by decide) (by decide) h (fun b0 e9 h9 => hq b0 e9 h9)⟩
theorem du_X1_firstFor {P Q : Int32 → Prop} {p0 : Int32} {p1 : Int32} {mk_rows : Nat → Int32} (h : wp_X1_firstFor P p0 p1 mk_rows) (hq : P (F_X1_firstFor p0 p1 mk_rows) → Q (F_X1_firstFor p0 p1 mk_rows)) : wp_X1_firstFor Q p0 p1 mk_rows := dt_X1_firstFor h (fun o eo => by rw [eo]; exact hq)
noncomputable def bd_X9_tellLeastMarks_16 (mk_many : Int32) (mk_rows : Nat → Int32) (c : Int32) (s : Int32 × Int32 × (Nat → Int32)) : Int32 × Int32 × (Nat → Int32) := ((F_X1_firstFor c s.1 mk_rows), (F_X6_add (F_X1_firstFor c s.1 mk_rows) s.2.1 s.2.2).1, (F_X6_add (F_X1_firstFor c s.1 mk_rows) s.2.1 s.2.2).2)
noncomputable def ex_X9_tellLeastMarks_16 {R : Type} (po : Int32 → (Nat → Int32) → R) (mk_many : Int32) (mk_rows : Nat → Int32) (c : Int32) (s : Int32 × Int32 × (Nat → Int32)) : R := po s.2.1 s.2.2
set_option maxHeartbeats 200000 in
set_option maxRecDepth 10000 in
theorem dl_X9_tellLeastMarks_16 {P Q : Int32 → (Nat → Int32) → Prop} {mk_many : Int32} {mk_rows : Nat → Int32} {a : Int32 × Int32 × (Nat → Int32)} {i : Nat} (hi0 : i < 2147483648) (hE : ∀ (c : Int32) (s : Int32 × Int32 × (Nat → Int32)), c = nI (i + (Int32.toInt mk_many - ((i : Nat) : Int)).toNat) → s = itr (bd_X9_tellLeastMarks_16 mk_many mk_rows) a i (Int32.toInt mk_many - ((i : Nat) : Int)).toNat → (P s.2.1 s.2.2) → (Q s.2.1 s.2.2)) : ∀ (n k : Nat) (c : Int32), c = nI (i + k) → k ≤ (Int32.toInt mk_many - ((i : Nat) : Int)).toNat → wb_X9_tellLeastMarks_16 P mk_many mk_rows n (itr (bd_X9_tellLeastMarks_16 mk_many mk_rows) a i k).1 c (itr (bd_X9_tellLeastMarks_16 mk_many mk_rows) a i k).2.1 (itr (bd_X9_tellLeastMarks_16 mk_many mk_rows) a i k).2.2 → wb_X9_tellLeastMarks_16 Q mk_many mk_rows n (itr (bd_X9_tellLeastMarks_16 mk_many mk_rows) a i k).1 c (itr (bd_X9_tellLeastMarks_16 mk_many mk_rows) a i k).2.1 (itr (bd_X9_tellLeastMarks_16 mk_many mk_rows) a i k).2.2 := by
  intro n
  induction n with
  | zero => intro k c hc hk h; exact False.elim h
  | succ n ih =>
    intro k c hc hk h
    have hr := tp_r mk_many
    have hi : Int32.toInt c = ((i + k : Nat) : Int) := by rw [hc]; exact nI_toInt (by omega)
    refine And.intro (fun t0 => ?_) (fun t0 => ?_)
    · have h := And.left h t0
      have t1 := (fa_le _ _).mp t0
      have hk2 : k = (Int32.toInt mk_many - ((i : Nat) : Int)).toNat := by omega
      subst hk2
      exact hE _ _ hc rfl h
    · have h := And.right h t0
      have t1 := mt (fa_le _ _).mpr t0
      have hs : ∀ o : Int32 × Int32 × (Nat → Int32), o = itr (bd_X9_tellLeastMarks_16 mk_many mk_rows) a i (k + 1) → wb_X9_tellLeastMarks_16 P mk_many mk_rows n o.1 (c + 1) o.2.1 o.2.2 → wb_X9_tellLeastMarks_16 Q mk_many mk_rows n o.1 (c + 1) o.2.1 o.2.2 := by
        intro o eo h9
        have q := ih (k + 1) (c + 1) (by rw [hc]; exact nI_1 _) (by omega)
        rw [← eo] at q
        exact q h9
      rw [itr_s, ← hc, bd_X9_tellLeastMarks_16] at hs
      refine du_X1_firstFor h ?_
      intro h
      refine du_X6_add h ?_
      intro h
      refine ae ?_
      have h := h _ rfl
      have q9 := hs _ rfl
      dsimp only at q9
      exact q9 h
noncomputable def F_X9_tellLeastMarks (p0 : Int32) (ro_size : Int32) (ro_numbers : Nat → Int32) (mk_many : Int32) (mk_rows : Nat → Int32) : Int32 × (Nat → Int32) := if p0 = 0 then ((F_X6_clear ro_size), ro_numbers) else (ex_X9_tellLeastMarks_16 (fun o0 o1 => (o0, o1)) mk_many mk_rows (nI (0 + (Int32.toInt mk_many - ((0 : Nat) : Int)).toNat)) (itr (bd_X9_tellLeastMarks_16 mk_many mk_rows) ((-1), (F_X6_clear ro_size), ro_numbers) 0 (Int32.toInt mk_many - ((0 : Nat) : Int)).toNat))
set_option maxHeartbeats 200000 in
set_option maxRecDepth 10000 in
theorem dt_X9_tellLeastMarks {P Q : Int32 → (Nat → Int32) → Prop} {p0 : Int32} {ro_size : Int32} {ro_numbers : Nat → Int32} {mk_many : Int32} {mk_rows : Nat → Int32} (h : wp_X9_tellLeastMarks P p0 ro_size ro_numbers mk_many mk_rows) (hq : ∀ o : Int32 × (Nat → Int32), o = F_X9_tellLeastMarks p0 ro_size ro_numbers mk_many mk_rows → P o.1 o.2 → Q o.1 o.2) : wp_X9_tellLeastMarks Q p0 ro_size ro_numbers mk_many mk_rows := by
  rw [F_X9_tellLeastMarks] at hq
  refine du_X6_clear h ?_
  intro h
  refine And.intro (fun c1 => ?_) (fun c1 => ?_)
  · have h := And.left h c1
    rw [if_neg c1] at hq
    obtain ⟨n2, h⟩ := h
    refine ⟨n2, dl_X9_tellLeastMarks_16 (a := ((-1), (F_X6_clear ro_size), ro_numbers)) (i := 0) (by decide) ?_ n2 0 0 (by decide) (Nat.zero_le _) h⟩
    intro cc3 s4 ec5 es6 h
    rw [← ec5, ← es6, ex_X9_tellLeastMarks_16] at hq
    have q9 := hq _ rfl
    dsimp only at q9
    exact q9 h
  · have h := And.right h c1
    rw [if_pos c1] at hq
    have q9 := hq _ rfl
    dsimp only at q9
    exact q9 h
theorem du_X9_tellLeastMarks {P Q : Int32 → (Nat → Int32) → Prop} {p0 : Int32} {ro_size : Int32} {ro_numbers : Nat → Int32} {mk_many : Int32} {mk_rows : Nat → Int32} (h : wp_X9_tellLeastMarks P p0 ro_size ro_numbers mk_many mk_rows) (hq : P (F_X9_tellLeastMarks p0 ro_size ro_numbers mk_many mk_rows).1 (F_X9_tellLeastMarks p0 ro_size ro_numbers mk_many mk_rows).2 → Q (F_X9_tellLeastMarks p0 ro_size ro_numbers mk_many mk_rows).1 (F_X9_tellLeastMarks p0 ro_size ro_numbers mk_many mk_rows).2) : wp_X9_tellLeastMarks Q p0 ro_size ro_numbers mk_many mk_rows := dt_X9_tellLeastMarks h (fun o eo => by rw [eo]; exact hq)
theorem dw_X9_tellLeastMarks {Q : Int32 → (Nat → Int32) → Prop} {p0 : Int32} {ro_size : Int32} {ro_numbers : Nat → Int32} {mk_many : Int32} {mk_rows : Nat → Int32} (h : wp_X9_tellLeastMarks (fun o0 o1 => (o0, o1) = F_X9_tellLeastMarks p0 ro_size ro_numbers mk_many mk_rows → Q o0 o1) p0 ro_size ro_numbers mk_many mk_rows) : wp_X9_tellLeastMarks Q p0 ro_size ro_numbers mk_many mk_rows := dt_X9_tellLeastMarks h (fun o eo hp => hp eo)
noncomputable def j_X9_grass_65 {R : Type} (po : Int32 → Int32 → Int32 → Int32 → Int32 → (Nat → Int32) → Int32 → (Nat → Int32) → (Nat → Int32) → R) (tx_signs : Nat → Int32) (tr_standings : Int32) (tr_foot : Nat → Int32) (x2 : Int32) (tx_length : Int32) (tx_place : Int32) (tx_stop : Int32) (ro_size : Int32) (ro_numbers : Nat → Int32) (mk_many : Int32) (mk_at : Nat → Int32) (mk_rows : Nat → Int32) : R := po x2 (F_X8_clear tx_length) tx_place tx_stop ro_size ro_numbers mk_many mk_at mk_rows
noncomputable def F_X9_grass (p0 : Int32) (tx_length : Int32) (tx_place : Int32) (tx_stop : Int32) (tx_signs : Nat → Int32) (tr_standings : Int32) (tr_foot : Nat → Int32) (ro_size : Int32) (ro_numbers : Nat → Int32) (mk_many : Int32) (mk_at : Nat → Int32) (mk_rows : Nat → Int32) : Int32 × Int32 × Int32 × Int32 × Int32 × (Nat → Int32) × Int32 × (Nat → Int32) × (Nat → Int32) := if p0 < 0 then (j_X9_grass_65 (fun o0 o1 o2 o3 o4 o5 o6 o7 o8 => (o0, o1, o2, o3, o4, o5, o6, o7, o8)) tx_signs tr_standings tr_foot (-100) tx_length tx_place tx_stop ro_size ro_numbers mk_many mk_at mk_rows) else (if 99 < p0 then (j_X9_grass_65 (fun o0 o1 o2 o3 o4 o5 o6 o7 o8 => (o0, o1, o2, o3, o4, o5, o6, o7, o8)) tx_signs tr_standings tr_foot (-100) tx_length tx_place tx_stop ro_size ro_numbers mk_many mk_at mk_rows) else (if (F_X1_readAll tx_length (F_X8_open 80 tx_length tx_place tx_stop).1 (F_X8_open 80 tx_length tx_place tx_stop).2 tx_signs mk_many mk_at).1 = 0 then (j_X9_grass_65 (fun o0 o1 o2 o3 o4 o5 o6 o7 o8 => (o0, o1, o2, o3, o4, o5, o6, o7, o8)) tx_signs tr_standings tr_foot (F_X8_wrong (F_X1_readAll tx_length (F_X8_open 80 tx_length tx_place tx_stop).1 (F_X8_open 80 tx_length tx_place tx_stop).2 tx_signs mk_many mk_at).2.1) tx_length ((F_X1_readAll tx_length (F_X8_open 80 tx_length tx_place tx_stop).1 (F_X8_open 80 tx_length tx_place tx_stop).2 tx_signs mk_many mk_at).2.1) ((F_X8_open 80 tx_length tx_place tx_stop).2) ro_size ro_numbers ((F_X1_readAll tx_length (F_X8_open 80 tx_length tx_place tx_stop).1 (F_X8_open 80 tx_length tx_place tx_stop).2 tx_signs mk_many mk_at).2.2.1) ((F_X1_readAll tx_length (F_X8_open 80 tx_length tx_place tx_stop).1 (F_X8_open 80 tx_length tx_place tx_stop).2 tx_signs mk_many mk_at).2.2.2) mk_rows) else (j_X9_grass_65 (fun o0 o1 o2 o3 o4 o5 o6 o7 o8 => (o0, o1, o2, o3, o4, o5, o6, o7, o8)) tx_signs tr_standings tr_foot ((F_X1_countRows p0 tr_standings tr_foot (F_X1_readAll tx_length (F_X8_open 80 tx_length tx_place tx_stop).1 (F_X8_open 80 tx_length tx_place tx_stop).2 tx_signs mk_many mk_at).2.2.1 (F_X1_readAll tx_length (F_X8_open 80 tx_length tx_place tx_stop).1 (F_X8_open 80 tx_length tx_place tx_stop).2 tx_signs mk_many mk_at).2.2.2 mk_rows).1) tx_length ((F_X1_readAll tx_length (F_X8_open 80 tx_length tx_place tx_stop).1 (F_X8_open 80 tx_length tx_place tx_stop).2 tx_signs mk_many mk_at).2.1) ((F_X8_open 80 tx_length tx_place tx_stop).2) ((F_X9_tellLeastMarks (F_X1_countRows p0 tr_standings tr_foot (F_X1_readAll tx_length (F_X8_open 80 tx_length tx_place tx_stop).1 (F_X8_open 80 tx_length tx_place tx_stop).2 tx_signs mk_many mk_at).2.2.1 (F_X1_readAll tx_length (F_X8_open 80 tx_length tx_place tx_stop).1 (F_X8_open 80 tx_length tx_place tx_stop).2 tx_signs mk_many mk_at).2.2.2 mk_rows).1 ro_size ro_numbers (F_X1_readAll tx_length (F_X8_open 80 tx_length tx_place tx_stop).1 (F_X8_open 80 tx_length tx_place tx_stop).2 tx_signs mk_many mk_at).2.2.1 (F_X1_countRows p0 tr_standings tr_foot (F_X1_readAll tx_length (F_X8_open 80 tx_length tx_place tx_stop).1 (F_X8_open 80 tx_length tx_place tx_stop).2 tx_signs mk_many mk_at).2.2.1 (F_X1_readAll tx_length (F_X8_open 80 tx_length tx_place tx_stop).1 (F_X8_open 80 tx_length tx_place tx_stop).2 tx_signs mk_many mk_at).2.2.2 mk_rows).2).1) ((F_X9_tellLeastMarks (F_X1_countRows p0 tr_standings tr_foot (F_X1_readAll tx_length (F_X8_open 80 tx_length tx_place tx_stop).1 (F_X8_open 80 tx_length tx_place tx_stop).2 tx_signs mk_many mk_at).2.2.1 (F_X1_readAll tx_length (F_X8_open 80 tx_length tx_place tx_stop).1 (F_X8_open 80 tx_length tx_place tx_stop).2 tx_signs mk_many mk_at).2.2.2 mk_rows).1 ro_size ro_numbers (F_X1_readAll tx_length (F_X8_open 80 tx_length tx_place tx_stop).1 (F_X8_open 80 tx_length tx_place tx_stop).2 tx_signs mk_many mk_at).2.2.1 (F_X1_countRows p0 tr_standings tr_foot (F_X1_readAll tx_length (F_X8_open 80 tx_length tx_place tx_stop).1 (F_X8_open 80 tx_length tx_place tx_stop).2 tx_signs mk_many mk_at).2.2.1 (F_X1_readAll tx_length (F_X8_open 80 tx_length tx_place tx_stop).1 (F_X8_open 80 tx_length tx_place tx_stop).2 tx_signs mk_many mk_at).2.2.2 mk_rows).2).2) ((F_X1_readAll tx_length (F_X8_open 80 tx_length tx_place tx_stop).1 (F_X8_open 80 tx_length tx_place tx_stop).2 tx_signs mk_many mk_at).2.2.1) ((F_X1_readAll tx_length (F_X8_open 80 tx_length tx_place tx_stop).1 (F_X8_open 80 tx_length tx_place tx_stop).2 tx_signs mk_many mk_at).2.2.2) ((F_X1_countRows p0 tr_standings tr_foot (F_X1_readAll tx_length (F_X8_open 80 tx_length tx_place tx_stop).1 (F_X8_open 80 tx_length tx_place tx_stop).2 tx_signs mk_many mk_at).2.2.1 (F_X1_readAll tx_length (F_X8_open 80 tx_length tx_place tx_stop).1 (F_X8_open 80 tx_length tx_place tx_stop).2 tx_signs mk_many mk_at).2.2.2 mk_rows).2))))
set_option maxHeartbeats 200000 in
set_option maxRecDepth 10000 in
theorem dt_X9_grass {P Q : Int32 → Int32 → Int32 → Int32 → Int32 → (Nat → Int32) → Int32 → (Nat → Int32) → (Nat → Int32) → Prop} {p0 : Int32} {tx_length : Int32} {tx_place : Int32} {tx_stop : Int32} {tx_signs : Nat → Int32} {tr_standings : Int32} {tr_foot : Nat → Int32} {ro_size : Int32} {ro_numbers : Nat → Int32} {mk_many : Int32} {mk_at : Nat → Int32} {mk_rows : Nat → Int32} (hy0 : Int32.toInt (((F_X1_readAll tx_length (F_X8_open 80 tx_length tx_place tx_stop).1 (F_X8_open 80 tx_length tx_place tx_stop).2 tx_signs mk_many mk_at).2.2.1) - 1) ≤ 5) (h : wp_X9_grass P p0 tx_length tx_place tx_stop tx_signs tr_standings tr_foot ro_size ro_numbers mk_many mk_at mk_rows) (hq : ∀ o : Int32 × Int32 × Int32 × Int32 × Int32 × (Nat → Int32) × Int32 × (Nat → Int32) × (Nat → Int32), o = F_X9_grass p0 tx_length tx_place tx_stop tx_signs tr_standings tr_foot ro_size ro_numbers mk_many mk_at mk_rows → P o.1 o.2.1 o.2.2.1 o.2.2.2.1 o.2.2.2.2.1 o.2.2.2.2.2.1 o.2.2.2.2.2.2.1 o.2.2.2.2.2.2.2.1 o.2.2.2.2.2.2.2.2 → Q o.1 o.2.1 o.2.2.1 o.2.2.2.1 o.2.2.2.2.1 o.2.2.2.2.2.1 o.2.2.2.2.2.2.1 o.2.2.2.2.2.2.2.1 o.2.2.2.2.2.2.2.2) : wp_X9_grass Q p0 tx_length tx_place tx_stop tx_signs tr_standings tr_foot ro_size ro_numbers mk_many mk_at mk_rows := by
  rw [F_X9_grass] at hq
  refine And.intro (fun c1 => ?_) (fun c1 => ?_)
  · have h := And.left h c1
    rw [if_pos c1] at hq
    rw [j_X9_grass_65] at hq
    unfold ws_X9_grass_65 at h ⊢
    refine du_X8_clear h ?_
    intro h
    have q9 := hq _ rfl
    dsimp only at q9
    exact q9 h
  · have h := And.right h c1
    rw [if_neg c1] at hq
    refine And.intro (fun c2 => ?_) (fun c2 => ?_)
    · have h := And.left h c2
      rw [if_pos c2] at hq
      rw [j_X9_grass_65] at hq
      unfold ws_X9_grass_65 at h ⊢
      refine du_X8_clear h ?_
      intro h
      have q9 := hq _ rfl
      dsimp only at q9
      exact q9 h
    · have h := And.right h c2
      rw [if_neg c2] at hq
      refine du_X8_open h ?_
      intro h
      refine du_X1_readAll h ?_
      intro h
      refine And.intro (fun c3 => ?_) (fun c3 => ?_)
      · have h := And.left h c3
        rw [if_pos c3] at hq
        refine du_X8_wrong h ?_
        intro h
        rw [j_X9_grass_65] at hq
        unfold ws_X9_grass_65 at h ⊢
        refine du_X8_clear h ?_
        intro h
        have q9 := hq _ rfl
        dsimp only at q9
        exact q9 h
      · have h := And.right h c3
        rw [if_neg c3] at hq
        refine du_X1_countRows hy0 h ?_
        intro h
        refine du_X9_tellLeastMarks h ?_
        intro h
        rw [j_X9_grass_65] at hq
        unfold ws_X9_grass_65 at h ⊢
        refine du_X8_clear h ?_
        intro h
        have q9 := hq _ rfl
        dsimp only at q9
        exact q9 h
theorem du_X9_grass {P Q : Int32 → Int32 → Int32 → Int32 → Int32 → (Nat → Int32) → Int32 → (Nat → Int32) → (Nat → Int32) → Prop} {p0 : Int32} {tx_length : Int32} {tx_place : Int32} {tx_stop : Int32} {tx_signs : Nat → Int32} {tr_standings : Int32} {tr_foot : Nat → Int32} {ro_size : Int32} {ro_numbers : Nat → Int32} {mk_many : Int32} {mk_at : Nat → Int32} {mk_rows : Nat → Int32} (hy0 : Int32.toInt (((F_X1_readAll tx_length (F_X8_open 80 tx_length tx_place tx_stop).1 (F_X8_open 80 tx_length tx_place tx_stop).2 tx_signs mk_many mk_at).2.2.1) - 1) ≤ 5) (h : wp_X9_grass P p0 tx_length tx_place tx_stop tx_signs tr_standings tr_foot ro_size ro_numbers mk_many mk_at mk_rows) (hq : P (F_X9_grass p0 tx_length tx_place tx_stop tx_signs tr_standings tr_foot ro_size ro_numbers mk_many mk_at mk_rows).1 (F_X9_grass p0 tx_length tx_place tx_stop tx_signs tr_standings tr_foot ro_size ro_numbers mk_many mk_at mk_rows).2.1 (F_X9_grass p0 tx_length tx_place tx_stop tx_signs tr_standings tr_foot ro_size ro_numbers mk_many mk_at mk_rows).2.2.1 (F_X9_grass p0 tx_length tx_place tx_stop tx_signs tr_standings tr_foot ro_size ro_numbers mk_many mk_at mk_rows).2.2.2.1 (F_X9_grass p0 tx_length tx_place tx_stop tx_signs tr_standings tr_foot ro_size ro_numbers mk_many mk_at mk_rows).2.2.2.2.1 (F_X9_grass p0 tx_length tx_place tx_stop tx_signs tr_standings tr_foot ro_size ro_numbers mk_many mk_at mk_rows).2.2.2.2.2.1 (F_X9_grass p0 tx_length tx_place tx_stop tx_signs tr_standings tr_foot ro_size ro_numbers mk_many mk_at mk_rows).2.2.2.2.2.2.1 (F_X9_grass p0 tx_length tx_place tx_stop tx_signs tr_standings tr_foot ro_size ro_numbers mk_many mk_at mk_rows).2.2.2.2.2.2.2.1 (F_X9_grass p0 tx_length tx_place tx_stop tx_signs tr_standings tr_foot ro_size ro_numbers mk_many mk_at mk_rows).2.2.2.2.2.2.2.2 → Q (F_X9_grass p0 tx_length tx_place tx_stop tx_signs tr_standings tr_foot ro_size ro_numbers mk_many mk_at mk_rows).1 (F_X9_grass p0 tx_length tx_place tx_stop tx_signs tr_standings tr_foot ro_size ro_numbers mk_many mk_at mk_rows).2.1 (F_X9_grass p0 tx_length tx_place tx_stop tx_signs tr_standings tr_foot ro_size ro_numbers mk_many mk_at mk_rows).2.2.1 (F_X9_grass p0 tx_length tx_place tx_stop tx_signs tr_standings tr_foot ro_size ro_numbers mk_many mk_at mk_rows).2.2.2.1 (F_X9_grass p0 tx_length tx_place tx_stop tx_signs tr_standings tr_foot ro_size ro_numbers mk_many mk_at mk_rows).2.2.2.2.1 (F_X9_grass p0 tx_length tx_place tx_stop tx_signs tr_standings tr_foot ro_size ro_numbers mk_many mk_at mk_rows).2.2.2.2.2.1 (F_X9_grass p0 tx_length tx_place tx_stop tx_signs tr_standings tr_foot ro_size ro_numbers mk_many mk_at mk_rows).2.2.2.2.2.2.1 (F_X9_grass p0 tx_length tx_place tx_stop tx_signs tr_standings tr_foot ro_size ro_numbers mk_many mk_at mk_rows).2.2.2.2.2.2.2.1 (F_X9_grass p0 tx_length tx_place tx_stop tx_signs tr_standings tr_foot ro_size ro_numbers mk_many mk_at mk_rows).2.2.2.2.2.2.2.2) : wp_X9_grass Q p0 tx_length tx_place tx_stop tx_signs tr_standings tr_foot ro_size ro_numbers mk_many mk_at mk_rows := dt_X9_grass hy0 h (fun o eo => by rw [eo]; exact hq)
theorem dw_X9_grass {Q : Int32 → Int32 → Int32 → Int32 → Int32 → (Nat → Int32) → Int32 → (Nat → Int32) → (Nat → Int32) → Prop} {p0 : Int32} {tx_length : Int32} {tx_place : Int32} {tx_stop : Int32} {tx_signs : Nat → Int32} {tr_standings : Int32} {tr_foot : Nat → Int32} {ro_size : Int32} {ro_numbers : Nat → Int32} {mk_many : Int32} {mk_at : Nat → Int32} {mk_rows : Nat → Int32} (hy0 : Int32.toInt (((F_X1_readAll tx_length (F_X8_open 80 tx_length tx_place tx_stop).1 (F_X8_open 80 tx_length tx_place tx_stop).2 tx_signs mk_many mk_at).2.2.1) - 1) ≤ 5) (h : wp_X9_grass (fun o0 o1 o2 o3 o4 o5 o6 o7 o8 => (o0, o1, o2, o3, o4, o5, o6, o7, o8) = F_X9_grass p0 tx_length tx_place tx_stop tx_signs tr_standings tr_foot ro_size ro_numbers mk_many mk_at mk_rows → Q o0 o1 o2 o3 o4 o5 o6 o7 o8) p0 tx_length tx_place tx_stop tx_signs tr_standings tr_foot ro_size ro_numbers mk_many mk_at mk_rows) : wp_X9_grass Q p0 tx_length tx_place tx_stop tx_signs tr_standings tr_foot ro_size ro_numbers mk_many mk_at mk_rows := dt_X9_grass hy0 h (fun o eo hp => hp eo)
noncomputable def j_X5_isFitting_34 {R : Type} (k2 : Int32 → Int32 → Int32 → R) (pl_near : Nat → Int32) (tr_standings : Int32) (x1 : Int32) (x2 : Int32) (x3 : Int32) : R := k2 x1 x2 (x3 + 1)
noncomputable def fs_X5_isFitting_2 {R : Type} (po : Int32 → R) (pl_near : Nat → Int32) (tr_standings : Int32) (nx : Int32 → Int32 → Int32 → R) (x1 : Int32) (x2 : Int32) (x3 : Int32) : R := if tr_standings ≤ x3 then (if (x2 &&& ((F_X5_reachedBy x1 pl_near tr_standings) ^^^ (-1))) = 0 then (po 1) else (po 0)) else (if ((x1 >>> (x3 &&& 31)) &&& 1) = 0 then (j_X5_isFitting_34 nx pl_near tr_standings x1 x2 x3) else (if ((pl_near x3.toNatClampNeg) &&& x2) = 0 then (po 0) else (j_X5_isFitting_34 nx pl_near tr_standings x1 x2 x3)))
set_option maxHeartbeats 200000 in
set_option maxRecDepth 10000 in
theorem dl_X5_isFitting_2 {P Q : Int32 → Prop} {pl_near : Nat → Int32} {tr_standings : Int32} {R : Type} {po : Int32 → R} {d : Int32 → Int32 → Int32 → R} : ∀ (n m : Nat) (x1 : Int32) (x2 : Int32) (x3 : Int32), 0 ≤ Int32.toInt x3 ∧ Int32.toInt x3 ≤ 8 ∧ Int32.toInt tr_standings ≤ 8 → 8 - Int32.toInt x3 < (m : Int) → wb_X5_isFitting_2 P pl_near tr_standings n x1 x2 x3 → (∀ (b0 : Int32), po b0 = flp (fs_X5_isFitting_2 po pl_near tr_standings) d m x1 x2 x3 → P b0 → Q b0) → wb_X5_isFitting_2 Q pl_near tr_standings n x1 x2 x3 := by
  have l1 : Int32.toInt (1 : Int32) = 1 := by decide
  intro n
  induction n with
  | zero => intro m x1 x2 x3 hv hm h hq; exact False.elim h
  | succ n ih =>
    intro m x1 x2 x3 hv hm h hq
    cases m with
    | zero => exfalso; omega
    | succ m =>
      rw [flp_s, fs_X5_isFitting_2] at hq
      have h : ws_X5_isFitting_2 P (wb_X5_isFitting_2 P pl_near tr_standings n) pl_near tr_standings x1 x2 x3 := h
      show ws_X5_isFitting_2 Q (wb_X5_isFitting_2 Q pl_near tr_standings n) pl_near tr_standings x1 x2 x3
      unfold ws_X5_isFitting_2 at h ⊢
      refine And.intro (fun c1 => ?_) (fun c1 => ?_)
      · have h := And.left h c1
        rw [if_pos c1] at hq
        have dc1 := (fa_le _ _).mp c1
        refine du_X5_reachedBy h ?_
        intro h
        refine And.intro (fun c2 => ?_) (fun c2 => ?_)
        · have h := And.left h c2
          rw [if_neg c2] at hq
          have dc2 := mt (fa_eq _ _).mpr c2
          exact hq _ rfl h
        · have h := And.right h c2
          rw [if_pos c2] at hq
          have dc2 := (fa_eq _ _).mp c2
          exact hq _ rfl h
      · have h := And.right h c1
        rw [if_neg c1] at hq
        have dc1 := mt (fa_le _ _).mpr c1
        refine ae ?_
        have h := h _ rfl
        refine And.intro (fun c3 => ?_) (fun c3 => ?_)
        · have h := And.left h c3
          rw [if_pos c3] at hq
          have dc3 := (fa_eq _ _).mp c3
          rw [j_X5_isFitting_34] at hq
          unfold ws_X5_isFitting_34 at h ⊢
          refine ae ?_
          have h := h _ rfl
          have f9 := ta_add x3 1 (by omega)
          exact ih m _ _ _ (by omega) (by omega) h hq
        · have h := And.right h c3
          rw [if_neg c3] at hq
          have dc3 := mt (fa_eq _ _).mpr c3
          refine And.intro (And.left h) ?_
          have h := And.right h
          refine ae ?_
          have h := h _ rfl
          refine And.intro (fun c4 => ?_) (fun c4 => ?_)
          · have h := And.left h c4
            rw [if_neg c4] at hq
            have dc4 := mt (fa_eq _ _).mpr c4
            rw [j_X5_isFitting_34] at hq
            unfold ws_X5_isFitting_34 at h ⊢
            refine ae ?_
            have h := h _ rfl
            have f9 := ta_add x3 1 (by omega)
            exact ih m _ _ _ (by omega) (by omega) h hq
          · have h := And.right h c4
            rw [if_pos c4] at hq
            have dc4 := (fa_eq _ _).mp c4
            exact hq _ rfl h
noncomputable def F_X5_isFitting (p0 : Int32) (p1 : Int32) (pl_near : Nat → Int32) (tr_standings : Int32) : Int32 := flp (fs_X5_isFitting_2 (fun o0 => o0) pl_near tr_standings) (fun _ _ _ => 0) 9 p0 p1 0
set_option maxHeartbeats 200000 in
set_option maxRecDepth 10000 in
theorem dt_X5_isFitting {P Q : Int32 → Prop} {p0 : Int32} {p1 : Int32} {pl_near : Nat → Int32} {tr_standings : Int32} (hy0 : Int32.toInt tr_standings ≤ 8) (h : wp_X5_isFitting P p0 p1 pl_near tr_standings) (hq : ∀ o : Int32, o = F_X5_isFitting p0 p1 pl_near tr_standings → P o → Q o) : wp_X5_isFitting Q p0 p1 pl_near tr_standings := by
  rw [F_X5_isFitting] at hq
  obtain ⟨n1, h⟩ := h
  exact ⟨n1, dl_X5_isFitting_2 n1 9 _ _ _ ⟨by decide, by decide, hy0⟩ (by decide) h (fun b0 e9 h9 => hq b0 e9 h9)⟩
theorem du_X5_isFitting {P Q : Int32 → Prop} {p0 : Int32} {p1 : Int32} {pl_near : Nat → Int32} {tr_standings : Int32} (hy0 : Int32.toInt tr_standings ≤ 8) (h : wp_X5_isFitting P p0 p1 pl_near tr_standings) (hq : P (F_X5_isFitting p0 p1 pl_near tr_standings) → Q (F_X5_isFitting p0 p1 pl_near tr_standings)) : wp_X5_isFitting Q p0 p1 pl_near tr_standings := dt_X5_isFitting hy0 h (fun o eo => by rw [eo]; exact hq)
noncomputable def j_X9_fits_104 {R : Type} (k33 : Int32 → Int32 → Int32 → Int32 → Int32 → Int32 → (Nat → Int32) → Int32 → (Nat → Int32) → R) (tr_fruits : Int32) (tr_standings : Int32) (tr_x : Nat → Int32) (tr_height : Nat → Int32) (tr_ripe : Nat → Int32) (tr_foot : Nat → Int32) (tr_fork : Nat → Int32) (tr_settings : Nat → Int32) (no_apron : Int32) (no_basket : Int32) (no_ground : Int32) (no_helper : Int32) (no_today : Int32) (x1 : Int32) (x2 : Int32) (x3 : Int32) (x4 : Int32) (x5 : Int32) (pl_wanted : Int32) (pl_near : Nat → Int32) (ro_size : Int32) (ro_numbers : Nat → Int32) : R := k33 x1 x2 x3 x4 (x5 + 1) pl_wanted pl_near ro_size ro_numbers
noncomputable def j_X9_fits_100 {R : Type} (k33 : Int32 → Int32 → Int32 → Int32 → Int32 → Int32 → (Nat → Int32) → Int32 → (Nat → Int32) → R) (tr_fruits : Int32) (tr_standings : Int32) (tr_x : Nat → Int32) (tr_height : Nat → Int32) (tr_ripe : Nat → Int32) (tr_foot : Nat → Int32) (tr_fork : Nat → Int32) (tr_settings : Nat → Int32) (no_apron : Int32) (no_basket : Int32) (no_ground : Int32) (no_helper : Int32) (no_today : Int32) (x1 : Int32) (x2 : Int32) (x3 : Int32) (x5 : Int32) (pl_wanted : Int32) (pl_near : Nat → Int32) (ro_size : Int32) (ro_numbers : Nat → Int32) : R := j_X9_fits_104 k33 tr_fruits tr_standings tr_x tr_height tr_ripe tr_foot tr_fork tr_settings no_apron no_basket no_ground no_helper no_today x1 x2 x3 x5 x5 pl_wanted pl_near ro_size ro_numbers
noncomputable def j_X9_fits_81 {R : Type} (k33 : Int32 → Int32 → Int32 → Int32 → Int32 → Int32 → (Nat → Int32) → Int32 → (Nat → Int32) → R) (tr_fruits : Int32) (tr_standings : Int32) (tr_x : Nat → Int32) (tr_height : Nat → Int32) (tr_ripe : Nat → Int32) (tr_foot : Nat → Int32) (tr_fork : Nat → Int32) (tr_settings : Nat → Int32) (no_apron : Int32) (no_basket : Int32) (no_ground : Int32) (no_helper : Int32) (no_today : Int32) (x1 : Int32) (x2 : Int32) (x3 : Int32) (x4 : Int32) (x5 : Int32) (pl_wanted : Int32) (pl_near : Nat → Int32) (ro_size : Int32) (ro_numbers : Nat → Int32) : R := if x4 = (-1) then (j_X9_fits_100 k33 tr_fruits tr_standings tr_x tr_height tr_ripe tr_foot tr_fork tr_settings no_apron no_basket no_ground no_helper no_today x1 x2 x3 x5 pl_wanted pl_near ro_size ro_numbers) else (if (F_J6_bitCount_0f7a4 x5) ≤ (F_J6_bitCount_0f7a4 x4) then (j_X9_fits_104 k33 tr_fruits tr_standings tr_x tr_height tr_ripe tr_foot tr_fork tr_settings no_apron no_basket no_ground no_helper no_today x1 x2 x3 x4 x5 pl_wanted pl_near ro_size ro_numbers) else (j_X9_fits_100 k33 tr_fruits tr_standings tr_x tr_height tr_ripe tr_foot tr_fork tr_settings no_apron no_basket no_ground no_helper no_today x1 x2 x3 x5 pl_wanted pl_near ro_size ro_numbers))
noncomputable def j_X9_fits_78 {R : Type} (k33 : Int32 → Int32 → Int32 → Int32 → Int32 → Int32 → (Nat → Int32) → Int32 → (Nat → Int32) → R) (tr_fruits : Int32) (tr_standings : Int32) (tr_x : Nat → Int32) (tr_height : Nat → Int32) (tr_ripe : Nat → Int32) (tr_foot : Nat → Int32) (tr_fork : Nat → Int32) (tr_settings : Nat → Int32) (no_apron : Int32) (no_basket : Int32) (no_ground : Int32) (no_helper : Int32) (no_today : Int32) (x1 : Int32) (x2 : Int32) (x4 : Int32) (x5 : Int32) (pl_wanted : Int32) (pl_near : Nat → Int32) (ro_size : Int32) (ro_numbers : Nat → Int32) : R := j_X9_fits_81 k33 tr_fruits tr_standings tr_x tr_height tr_ripe tr_foot tr_fork tr_settings no_apron no_basket no_ground no_helper no_today x1 x2 x5 x4 x5 pl_wanted pl_near ro_size ro_numbers
noncomputable def bd_X9_fits_33 (tr_fruits : Int32) (tr_standings : Int32) (tr_x : Nat → Int32) (tr_height : Nat → Int32) (tr_ripe : Nat → Int32) (tr_foot : Nat → Int32) (tr_fork : Nat → Int32) (tr_settings : Nat → Int32) (no_apron : Int32) (no_basket : Int32) (no_ground : Int32) (no_helper : Int32) (no_today : Int32) (x1 : Int32) (pl_wanted : Int32) (pl_near : Nat → Int32) (ro_size : Int32) (ro_numbers : Nat → Int32) (c : Int32) (s : Int32 × Int32 × Int32) : Int32 × Int32 × Int32 := if (F_X5_isFitting c x1 pl_near tr_standings) = 0 then (j_X9_fits_104 (fun q0 q1 q2 q3 q4 q5 q6 q7 q8 => (q1, q2, q3)) tr_fruits tr_standings tr_x tr_height tr_ripe tr_foot tr_fork tr_settings no_apron no_basket no_ground no_helper no_today x1 s.1 s.2.1 s.2.2 c pl_wanted pl_near ro_size ro_numbers) else (if s.2.1 = (-1) then (j_X9_fits_78 (fun q0 q1 q2 q3 q4 q5 q6 q7 q8 => (q1, q2, q3)) tr_fruits tr_standings tr_x tr_height tr_ripe tr_foot tr_fork tr_settings no_apron no_basket no_ground no_helper no_today x1 (s.1 + 1) s.2.2 c pl_wanted pl_near ro_size ro_numbers) else (if (F_J6_bitCount_0f7a4 s.2.1) ≤ (F_J6_bitCount_0f7a4 c) then (j_X9_fits_81 (fun q0 q1 q2 q3 q4 q5 q6 q7 q8 => (q1, q2, q3)) tr_fruits tr_standings tr_x tr_height tr_ripe tr_foot tr_fork tr_settings no_apron no_basket no_ground no_helper no_today x1 (s.1 + 1) s.2.1 s.2.2 c pl_wanted pl_near ro_size ro_numbers) else (j_X9_fits_78 (fun q0 q1 q2 q3 q4 q5 q6 q7 q8 => (q1, q2, q3)) tr_fruits tr_standings tr_x tr_height tr_ripe tr_foot tr_fork tr_settings no_apron no_basket no_ground no_helper no_today x1 (s.1 + 1) s.2.2 c pl_wanted pl_near ro_size ro_numbers)))
noncomputable def ex_X9_fits_33 {R : Type} (po : Int32 → Int32 → (Nat → Int32) → Int32 → (Nat → Int32) → R) (tr_fruits : Int32) (tr_standings : Int32) (tr_x : Nat → Int32) (tr_height : Nat → Int32) (tr_ripe : Nat → Int32) (tr_foot : Nat → Int32) (tr_fork : Nat → Int32) (tr_settings : Nat → Int32) (no_apron : Int32) (no_basket : Int32) (no_ground : Int32) (no_helper : Int32) (no_today : Int32) (x1 : Int32) (pl_wanted : Int32) (pl_near : Nat → Int32) (ro_size : Int32) (ro_numbers : Nat → Int32) (c : Int32) (s : Int32 × Int32 × Int32) : R := po s.1 pl_wanted pl_near ((F_X9_tell_ s.2.1 s.2.2 ro_size ro_numbers).1) ((F_X9_tell_ s.2.1 s.2.2 ro_size ro_numbers).2)
set_option maxHeartbeats 200000 in
set_option maxRecDepth 10000 in
theorem dl_X9_fits_33 {P Q : Int32 → Int32 → (Nat → Int32) → Int32 → (Nat → Int32) → Prop} {tr_fruits : Int32} {tr_standings : Int32} {tr_x : Nat → Int32} {tr_height : Nat → Int32} {tr_ripe : Nat → Int32} {tr_foot : Nat → Int32} {tr_fork : Nat → Int32} {tr_settings : Nat → Int32} {no_apron : Int32} {no_basket : Int32} {no_ground : Int32} {no_helper : Int32} {no_today : Int32} {x1 : Int32} {pl_wanted : Int32} {pl_near : Nat → Int32} {ro_size : Int32} {ro_numbers : Nat → Int32} {a : Int32 × Int32 × Int32} {i : Nat} (hi0 : i < 2147483648) (hz0 : Int32.toInt (F_X3_allStandings tr_standings) < 2147483647) (hz1 : Int32.toInt tr_standings ≤ 8) (hE : ∀ (c : Int32) (s : Int32 × Int32 × Int32), c = nI (i + (Int32.toInt (F_X3_allStandings tr_standings) + 1 - ((i : Nat) : Int)).toNat) → s = itr (bd_X9_fits_33 tr_fruits tr_standings tr_x tr_height tr_ripe tr_foot tr_fork tr_settings no_apron no_basket no_ground no_helper no_today x1 pl_wanted pl_near ro_size ro_numbers) a i (Int32.toInt (F_X3_allStandings tr_standings) + 1 - ((i : Nat) : Int)).toNat → (wp_X9_tell_ (fun ro_size_5 ro_numbers_6 => P s.1 pl_wanted pl_near ro_size_5 ro_numbers_6) s.2.1 s.2.2 ro_size ro_numbers) → (wp_X9_tell_ (fun ro_size_5 ro_numbers_6 => Q s.1 pl_wanted pl_near ro_size_5 ro_numbers_6) s.2.1 s.2.2 ro_size ro_numbers)) : ∀ (n k : Nat) (c : Int32), c = nI (i + k) → k ≤ (Int32.toInt (F_X3_allStandings tr_standings) + 1 - ((i : Nat) : Int)).toNat → wb_X9_fits_33 P tr_fruits tr_standings tr_x tr_height tr_ripe tr_foot tr_fork tr_settings no_apron no_basket no_ground no_helper no_today n x1 (itr (bd_X9_fits_33 tr_fruits tr_standings tr_x tr_height tr_ripe tr_foot tr_fork tr_settings no_apron no_basket no_ground no_helper no_today x1 pl_wanted pl_near ro_size ro_numbers) a i k).1 (itr (bd_X9_fits_33 tr_fruits tr_standings tr_x tr_height tr_ripe tr_foot tr_fork tr_settings no_apron no_basket no_ground no_helper no_today x1 pl_wanted pl_near ro_size ro_numbers) a i k).2.1 (itr (bd_X9_fits_33 tr_fruits tr_standings tr_x tr_height tr_ripe tr_foot tr_fork tr_settings no_apron no_basket no_ground no_helper no_today x1 pl_wanted pl_near ro_size ro_numbers) a i k).2.2 c pl_wanted pl_near ro_size ro_numbers → wb_X9_fits_33 Q tr_fruits tr_standings tr_x tr_height tr_ripe tr_foot tr_fork tr_settings no_apron no_basket no_ground no_helper no_today n x1 (itr (bd_X9_fits_33 tr_fruits tr_standings tr_x tr_height tr_ripe tr_foot tr_fork tr_settings no_apron no_basket no_ground no_helper no_today x1 pl_wanted pl_near ro_size ro_numbers) a i k).1 (itr (bd_X9_fits_33 tr_fruits tr_standings tr_x tr_height tr_ripe tr_foot tr_fork tr_settings no_apron no_basket no_ground no_helper no_today x1 pl_wanted pl_near ro_size ro_numbers) a i k).2.1 (itr (bd_X9_fits_33 tr_fruits tr_standings tr_x tr_height tr_ripe tr_foot tr_fork tr_settings no_apron no_basket no_ground no_helper no_today x1 pl_wanted pl_near ro_size ro_numbers) a i k).2.2 c pl_wanted pl_near ro_size ro_numbers := by
  intro n
  induction n with
  | zero => intro k c hc hk h; exact False.elim h
  | succ n ih =>
    intro k c hc hk h
    have hr := tp_r (F_X3_allStandings tr_standings)
    have hi : Int32.toInt c = ((i + k : Nat) : Int) := by rw [hc]; exact nI_toInt (by omega)
    have h : ws_X9_fits_33 P (wb_X9_fits_33 P tr_fruits tr_standings tr_x tr_height tr_ripe tr_foot tr_fork tr_settings no_apron no_basket no_ground no_helper no_today n) tr_fruits tr_standings tr_x tr_height tr_ripe tr_foot tr_fork tr_settings no_apron no_basket no_ground no_helper no_today x1 (itr (bd_X9_fits_33 tr_fruits tr_standings tr_x tr_height tr_ripe tr_foot tr_fork tr_settings no_apron no_basket no_ground no_helper no_today x1 pl_wanted pl_near ro_size ro_numbers) a i k).1 (itr (bd_X9_fits_33 tr_fruits tr_standings tr_x tr_height tr_ripe tr_foot tr_fork tr_settings no_apron no_basket no_ground no_helper no_today x1 pl_wanted pl_near ro_size ro_numbers) a i k).2.1 (itr (bd_X9_fits_33 tr_fruits tr_standings tr_x tr_height tr_ripe tr_foot tr_fork tr_settings no_apron no_basket no_ground no_helper no_today x1 pl_wanted pl_near ro_size ro_numbers) a i k).2.2 c pl_wanted pl_near ro_size ro_numbers := h
    show ws_X9_fits_33 Q (wb_X9_fits_33 Q tr_fruits tr_standings tr_x tr_height tr_ripe tr_foot tr_fork tr_settings no_apron no_basket no_ground no_helper no_today n) tr_fruits tr_standings tr_x tr_height tr_ripe tr_foot tr_fork tr_settings no_apron no_basket no_ground no_helper no_today x1 (itr (bd_X9_fits_33 tr_fruits tr_standings tr_x tr_height tr_ripe tr_foot tr_fork tr_settings no_apron no_basket no_ground no_helper no_today x1 pl_wanted pl_near ro_size ro_numbers) a i k).1 (itr (bd_X9_fits_33 tr_fruits tr_standings tr_x tr_height tr_ripe tr_foot tr_fork tr_settings no_apron no_basket no_ground no_helper no_today x1 pl_wanted pl_near ro_size ro_numbers) a i k).2.1 (itr (bd_X9_fits_33 tr_fruits tr_standings tr_x tr_height tr_ripe tr_foot tr_fork tr_settings no_apron no_basket no_ground no_helper no_today x1 pl_wanted pl_near ro_size ro_numbers) a i k).2.2 c pl_wanted pl_near ro_size ro_numbers
    unfold ws_X9_fits_33 at h ⊢
    refine du_X3_allStandings h ?_
    intro h
    refine And.intro (fun t0 => ?_) (fun t0 => ?_)
    · have h := And.left h t0
      have t1 := (fa_lt _ _).mp t0
      have hk2 : k = (Int32.toInt (F_X3_allStandings tr_standings) + 1 - ((i : Nat) : Int)).toNat := by omega
      subst hk2
      exact hE _ _ hc rfl h
    · have h := And.right h t0
      have t1 := mt (fa_lt _ _).mpr t0
      have hs : ∀ o : Int32 × Int32 × Int32, o = itr (bd_X9_fits_33 tr_fruits tr_standings tr_x tr_height tr_ripe tr_foot tr_fork tr_settings no_apron no_basket no_ground no_helper no_today x1 pl_wanted pl_near ro_size ro_numbers) a i (k + 1) → wb_X9_fits_33 P tr_fruits tr_standings tr_x tr_height tr_ripe tr_foot tr_fork tr_settings no_apron no_basket no_ground no_helper no_today n x1 o.1 o.2.1 o.2.2 (c + 1) pl_wanted pl_near ro_size ro_numbers → wb_X9_fits_33 Q tr_fruits tr_standings tr_x tr_height tr_ripe tr_foot tr_fork tr_settings no_apron no_basket no_ground no_helper no_today n x1 o.1 o.2.1 o.2.2 (c + 1) pl_wanted pl_near ro_size ro_numbers := by
        intro o eo h9
        have q := ih (k + 1) (c + 1) (by rw [hc]; exact nI_1 _) (by omega)
        rw [← eo] at q
        exact q h9
      rw [itr_s, ← hc, bd_X9_fits_33] at hs
      refine du_X5_isFitting hz1 h ?_
      intro h
      refine And.intro (fun c1 => ?_) (fun c1 => ?_)
      · have h := And.left h c1
        rw [if_pos c1] at hs
        rw [j_X9_fits_104] at hs
        unfold ws_X9_fits_104 at h ⊢
        refine ae ?_
        have h := h _ rfl
        have q9 := hs _ rfl
        dsimp only at q9
        exact q9 h
      · have h := And.right h c1
        rw [if_neg c1] at hs
        refine ae ?_
        have h := h _ rfl
        refine And.intro (fun c2 => ?_) (fun c2 => ?_)
        · have h := And.left h c2
          rw [if_pos c2] at hs
          rw [j_X9_fits_78] at hs
          unfold ws_X9_fits_78 at h ⊢
          rw [j_X9_fits_81] at hs
          unfold ws_X9_fits_81 at h ⊢
          refine And.intro (fun c3 => ?_) (fun c3 => ?_)
          · have h := And.left h c3
            rw [if_pos c3] at hs
            rw [j_X9_fits_100] at hs
            unfold ws_X9_fits_100 at h ⊢
            rw [j_X9_fits_104] at hs
            unfold ws_X9_fits_104 at h ⊢
            refine ae ?_
            have h := h _ rfl
            have q9 := hs _ rfl
            dsimp only at q9
            exact q9 h
          · have h := And.right h c3
            rw [if_neg c3] at hs
            refine du_J6_bitCount_0f7a4 h ?_
            intro h
            refine du_J6_bitCount_0f7a4 h ?_
            intro h
            refine And.intro (fun c4 => ?_) (fun c4 => ?_)
            · have h := And.left h c4
              rw [if_pos c4] at hs
              rw [j_X9_fits_104] at hs
              unfold ws_X9_fits_104 at h ⊢
              refine ae ?_
              have h := h _ rfl
              have q9 := hs _ rfl
              dsimp only at q9
              exact q9 h
            · have h := And.right h c4
              rw [if_neg c4] at hs
              rw [j_X9_fits_100] at hs
              unfold ws_X9_fits_100 at h ⊢
              rw [j_X9_fits_104] at hs
              unfold ws_X9_fits_104 at h ⊢
              refine ae ?_
              have h := h _ rfl
              have q9 := hs _ rfl
              dsimp only at q9
              exact q9 h
        · have h := And.right h c2
          rw [if_neg c2] at hs
          refine du_J6_bitCount_0f7a4 h ?_
          intro h
          refine du_J6_bitCount_0f7a4 h ?_
          intro h
          refine And.intro (fun c5 => ?_) (fun c5 => ?_)
          · have h := And.left h c5
            rw [if_pos c5] at hs
            rw [j_X9_fits_81] at hs
            unfold ws_X9_fits_81 at h ⊢
            refine And.intro (fun c6 => ?_) (fun c6 => ?_)
            · have h := And.left h c6
              rw [if_pos c6] at hs
              rw [j_X9_fits_100] at hs
              unfold ws_X9_fits_100 at h ⊢
              rw [j_X9_fits_104] at hs
              unfold ws_X9_fits_104 at h ⊢
              refine ae ?_
              have h := h _ rfl
              have q9 := hs _ rfl
              dsimp only at q9
              exact q9 h
            · have h := And.right h c6
              rw [if_neg c6] at hs
              refine du_J6_bitCount_0f7a4 h ?_
              intro h
              refine du_J6_bitCount_0f7a4 h ?_
              intro h
              refine And.intro (fun c7 => ?_) (fun c7 => ?_)
              · have h := And.left h c7
                rw [if_pos c7] at hs
                rw [j_X9_fits_104] at hs
                unfold ws_X9_fits_104 at h ⊢
                refine ae ?_
                have h := h _ rfl
                have q9 := hs _ rfl
                dsimp only at q9
                exact q9 h
              · have h := And.right h c7
                rw [if_neg c7] at hs
                rw [j_X9_fits_100] at hs
                unfold ws_X9_fits_100 at h ⊢
                rw [j_X9_fits_104] at hs
                unfold ws_X9_fits_104 at h ⊢
                refine ae ?_
                have h := h _ rfl
                have q9 := hs _ rfl
                dsimp only at q9
                exact q9 h
          · have h := And.right h c5
            rw [if_neg c5] at hs
            rw [j_X9_fits_78] at hs
            unfold ws_X9_fits_78 at h ⊢
            rw [j_X9_fits_81] at hs
            unfold ws_X9_fits_81 at h ⊢
            refine And.intro (fun c8 => ?_) (fun c8 => ?_)
            · have h := And.left h c8
              rw [if_pos c8] at hs
              rw [j_X9_fits_100] at hs
              unfold ws_X9_fits_100 at h ⊢
              rw [j_X9_fits_104] at hs
              unfold ws_X9_fits_104 at h ⊢
              refine ae ?_
              have h := h _ rfl
              have q9 := hs _ rfl
              dsimp only at q9
              exact q9 h
            · have h := And.right h c8
              rw [if_neg c8] at hs
              refine du_J6_bitCount_0f7a4 h ?_
              intro h
              refine du_J6_bitCount_0f7a4 h ?_
              intro h
              refine And.intro (fun c9 => ?_) (fun c9 => ?_)
              · have h := And.left h c9
                rw [if_pos c9] at hs
                rw [j_X9_fits_104] at hs
                unfold ws_X9_fits_104 at h ⊢
                refine ae ?_
                have h := h _ rfl
                have q9 := hs _ rfl
                dsimp only at q9
                exact q9 h
              · have h := And.right h c9
                rw [if_neg c9] at hs
                rw [j_X9_fits_100] at hs
                unfold ws_X9_fits_100 at h ⊢
                rw [j_X9_fits_104] at hs
                unfold ws_X9_fits_104 at h ⊢
                refine ae ?_
                have h := h _ rfl
                have q9 := hs _ rfl
                dsimp only at q9
                exact q9 h
noncomputable def F_X9_fits (p0 : Int32) (pl_wanted : Int32) (pl_near : Nat → Int32) (tr_fruits : Int32) (tr_standings : Int32) (tr_x : Nat → Int32) (tr_height : Nat → Int32) (tr_ripe : Nat → Int32) (tr_foot : Nat → Int32) (tr_fork : Nat → Int32) (tr_settings : Nat → Int32) (no_apron : Int32) (no_basket : Int32) (no_ground : Int32) (no_helper : Int32) (no_today : Int32) (ro_size : Int32) (ro_numbers : Nat → Int32) : Int32 × Int32 × (Nat → Int32) × Int32 × (Nat → Int32) := if (p0 &&& ((F_X3_allFruits tr_fruits) ^^^ (-1))) = 0 then (ex_X9_fits_33 (fun o0 o1 o2 o3 o4 => (o0, o1, o2, o3, o4)) tr_fruits tr_standings tr_x tr_height tr_ripe tr_foot tr_fork tr_settings no_apron no_basket no_ground no_helper no_today p0 ((F_X5_look pl_wanted pl_near tr_fruits tr_standings tr_x tr_height tr_ripe tr_foot tr_fork tr_settings no_apron no_basket no_ground no_helper no_today).1) ((F_X5_look pl_wanted pl_near tr_fruits tr_standings tr_x tr_height tr_ripe tr_foot tr_fork tr_settings no_apron no_basket no_ground no_helper no_today).2) ro_size ro_numbers (nI (0 + (Int32.toInt (F_X3_allStandings tr_standings) + 1 - ((0 : Nat) : Int)).toNat)) (itr (bd_X9_fits_33 tr_fruits tr_standings tr_x tr_height tr_ripe tr_foot tr_fork tr_settings no_apron no_basket no_ground no_helper no_today p0 ((F_X5_look pl_wanted pl_near tr_fruits tr_standings tr_x tr_height tr_ripe tr_foot tr_fork tr_settings no_apron no_basket no_ground no_helper no_today).1) ((F_X5_look pl_wanted pl_near tr_fruits tr_standings tr_x tr_height tr_ripe tr_foot tr_fork tr_settings no_apron no_basket no_ground no_helper no_today).2) ro_size ro_numbers) (0, (-1), (-1)) 0 (Int32.toInt (F_X3_allStandings tr_standings) + 1 - ((0 : Nat) : Int)).toNat)) else ((-1), pl_wanted, pl_near, ro_size, ro_numbers)
set_option maxHeartbeats 200000 in
set_option maxRecDepth 10000 in
theorem dt_X9_fits {P Q : Int32 → Int32 → (Nat → Int32) → Int32 → (Nat → Int32) → Prop} {p0 : Int32} {pl_wanted : Int32} {pl_near : Nat → Int32} {tr_fruits : Int32} {tr_standings : Int32} {tr_x : Nat → Int32} {tr_height : Nat → Int32} {tr_ripe : Nat → Int32} {tr_foot : Nat → Int32} {tr_fork : Nat → Int32} {tr_settings : Nat → Int32} {no_apron : Int32} {no_basket : Int32} {no_ground : Int32} {no_helper : Int32} {no_today : Int32} {ro_size : Int32} {ro_numbers : Nat → Int32} (hy0 : Int32.toInt (F_X3_allStandings tr_standings) < 2147483647) (hy1 : Int32.toInt tr_standings ≤ 8) (h : wp_X9_fits P p0 pl_wanted pl_near tr_fruits tr_standings tr_x tr_height tr_ripe tr_foot tr_fork tr_settings no_apron no_basket no_ground no_helper no_today ro_size ro_numbers) (hq : ∀ o : Int32 × Int32 × (Nat → Int32) × Int32 × (Nat → Int32), o = F_X9_fits p0 pl_wanted pl_near tr_fruits tr_standings tr_x tr_height tr_ripe tr_foot tr_fork tr_settings no_apron no_basket no_ground no_helper no_today ro_size ro_numbers → P o.1 o.2.1 o.2.2.1 o.2.2.2.1 o.2.2.2.2 → Q o.1 o.2.1 o.2.2.1 o.2.2.2.1 o.2.2.2.2) : wp_X9_fits Q p0 pl_wanted pl_near tr_fruits tr_standings tr_x tr_height tr_ripe tr_foot tr_fork tr_settings no_apron no_basket no_ground no_helper no_today ro_size ro_numbers := by
  rw [F_X9_fits] at hq
  refine du_X3_allFruits h ?_
  intro h
  refine And.intro (fun c1 => ?_) (fun c1 => ?_)
  · have h := And.left h c1
    rw [if_pos c1] at hq
    refine du_X5_look h ?_
    intro h
    obtain ⟨n2, h⟩ := h
    refine ⟨n2, dl_X9_fits_33 (a := (0, (-1), (-1))) (i := 0) (by decide) hy0 hy1 ?_ n2 0 0 (by decide) (Nat.zero_le _) h⟩
    intro cc3 s4 ec5 es6 h
    rw [← ec5, ← es6, ex_X9_fits_33] at hq
    refine du_X9_tell_ h ?_
    intro h
    have q9 := hq _ rfl
    dsimp only at q9
    exact q9 h
  · have h := And.right h c1
    rw [if_neg c1] at hq
    have q9 := hq _ rfl
    dsimp only at q9
    exact q9 h
theorem du_X9_fits {P Q : Int32 → Int32 → (Nat → Int32) → Int32 → (Nat → Int32) → Prop} {p0 : Int32} {pl_wanted : Int32} {pl_near : Nat → Int32} {tr_fruits : Int32} {tr_standings : Int32} {tr_x : Nat → Int32} {tr_height : Nat → Int32} {tr_ripe : Nat → Int32} {tr_foot : Nat → Int32} {tr_fork : Nat → Int32} {tr_settings : Nat → Int32} {no_apron : Int32} {no_basket : Int32} {no_ground : Int32} {no_helper : Int32} {no_today : Int32} {ro_size : Int32} {ro_numbers : Nat → Int32} (hy0 : Int32.toInt (F_X3_allStandings tr_standings) < 2147483647) (hy1 : Int32.toInt tr_standings ≤ 8) (h : wp_X9_fits P p0 pl_wanted pl_near tr_fruits tr_standings tr_x tr_height tr_ripe tr_foot tr_fork tr_settings no_apron no_basket no_ground no_helper no_today ro_size ro_numbers) (hq : P (F_X9_fits p0 pl_wanted pl_near tr_fruits tr_standings tr_x tr_height tr_ripe tr_foot tr_fork tr_settings no_apron no_basket no_ground no_helper no_today ro_size ro_numbers).1 (F_X9_fits p0 pl_wanted pl_near tr_fruits tr_standings tr_x tr_height tr_ripe tr_foot tr_fork tr_settings no_apron no_basket no_ground no_helper no_today ro_size ro_numbers).2.1 (F_X9_fits p0 pl_wanted pl_near tr_fruits tr_standings tr_x tr_height tr_ripe tr_foot tr_fork tr_settings no_apron no_basket no_ground no_helper no_today ro_size ro_numbers).2.2.1 (F_X9_fits p0 pl_wanted pl_near tr_fruits tr_standings tr_x tr_height tr_ripe tr_foot tr_fork tr_settings no_apron no_basket no_ground no_helper no_today ro_size ro_numbers).2.2.2.1 (F_X9_fits p0 pl_wanted pl_near tr_fruits tr_standings tr_x tr_height tr_ripe tr_foot tr_fork tr_settings no_apron no_basket no_ground no_helper no_today ro_size ro_numbers).2.2.2.2 → Q (F_X9_fits p0 pl_wanted pl_near tr_fruits tr_standings tr_x tr_height tr_ripe tr_foot tr_fork tr_settings no_apron no_basket no_ground no_helper no_today ro_size ro_numbers).1 (F_X9_fits p0 pl_wanted pl_near tr_fruits tr_standings tr_x tr_height tr_ripe tr_foot tr_fork tr_settings no_apron no_basket no_ground no_helper no_today ro_size ro_numbers).2.1 (F_X9_fits p0 pl_wanted pl_near tr_fruits tr_standings tr_x tr_height tr_ripe tr_foot tr_fork tr_settings no_apron no_basket no_ground no_helper no_today ro_size ro_numbers).2.2.1 (F_X9_fits p0 pl_wanted pl_near tr_fruits tr_standings tr_x tr_height tr_ripe tr_foot tr_fork tr_settings no_apron no_basket no_ground no_helper no_today ro_size ro_numbers).2.2.2.1 (F_X9_fits p0 pl_wanted pl_near tr_fruits tr_standings tr_x tr_height tr_ripe tr_foot tr_fork tr_settings no_apron no_basket no_ground no_helper no_today ro_size ro_numbers).2.2.2.2) : wp_X9_fits Q p0 pl_wanted pl_near tr_fruits tr_standings tr_x tr_height tr_ripe tr_foot tr_fork tr_settings no_apron no_basket no_ground no_helper no_today ro_size ro_numbers := dt_X9_fits hy0 hy1 h (fun o eo => by rw [eo]; exact hq)
