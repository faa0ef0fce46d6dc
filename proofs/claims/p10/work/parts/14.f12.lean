theorem dw_X9_fits {Q : Int32 → Int32 → (Nat → Int32) → Int32 → (Nat → Int32) → Prop} {p0 : Int32} {pl_wanted : Int32} {pl_near : Nat → Int32} {tr_fruits : Int32} {tr_standings : Int32} {tr_x : Nat → Int32} {tr_height : Nat → Int32} {tr_ripe : Nat → Int32} {tr_foot : Nat → Int32} {tr_fork : Nat → Int32} {tr_settings : Nat → Int32} {no_apron : Int32} {no_basket : Int32} {no_ground : Int32} {no_helper : Int32} {no_today : Int32} {ro_size : Int32} {ro_numbers : Nat → Int32} (hy0 : Int32.toInt (F_X3_allStandings tr_standings) < 2147483647) (hy1 : Int32.toInt tr_standings ≤ 8) (h : wp_X9_fits (fun o0 o1 o2 o3 o4 => (o0, o1, o2, o3, o4) = F_X9_fits p0 pl_wanted pl_near tr_fruits tr_standings tr_x tr_height tr_ripe tr_foot tr_fork tr_settings no_apron no_basket no_ground no_helper no_today ro_size ro_numbers → Q o0 o1 o2 o3 o4) p0 pl_wanted pl_near tr_fruits tr_standings tr_x tr_height tr_ripe tr_foot tr_fork tr_settings no_apron no_basket no_ground no_helper no_today ro_size ro_numbers) : wp_X9_fits Q p0 pl_wanted pl_near tr_fruits tr_standings tr_x tr_height tr_ripe tr_foot tr_fork tr_settings no_apron no_basket no_ground no_helper no_today ro_size ro_numbers := dt_X9_fits hy0 hy1 h (fun o eo hp => hp eo)
noncomputable def j_X9_autumn_149 {R : Type} (k91 : Int32 → Int32 → Int32 → Int32 → Int32 → Int32 → Int32 → Int32 → Int32 → Int32 → Int32 → Int32 → (Nat → Int32) → R) (tr_fruits : Int32) (tr_worth : Nat → Int32) (tr_ripe : Nat → Int32) (no_apron : Int32) (no_basket : Int32) (no_ground : Int32) (no_bruised : Int32) (no_today : Int32) (x2 : Int32) (x3 : Int32) (x4 : Int32) (x5 : Int32) (x6 : Int32) (x7 : Int32) (x8 : Int32) (x9 : Int32) (x10 : Int32) (x11 : Int32) (x12 : Int32) (ro_size : Int32) (ro_numbers : Nat → Int32) : R := k91 x2 x3 x4 x5 x6 x7 x8 x9 x10 x11 (x12 + 1) ro_size ro_numbers
noncomputable def bd_X9_autumn_91 (tr_fruits : Int32) (tr_worth : Nat → Int32) (tr_ripe : Nat → Int32) (no_apron : Int32) (no_basket : Int32) (no_ground : Int32) (no_bruised : Int32) (no_today : Int32) (x2 : Int32) (x3 : Int32) (x5 : Int32) (x7 : Int32) (x8 : Int32) (x9 : Int32) (x10 : Int32) (ro_size : Int32) (ro_numbers : Nat → Int32) (c : Int32) (s : Int32 × Int32 × Int32) : Int32 × Int32 × Int32 := if ((x10 >>> (c &&& 31)) &&& 1) = 0 then (j_X9_autumn_149 (fun q0 q1 q2 q3 q4 q5 q6 q7 q8 q9 q10 q11 q12 => (q2, q4, q9)) tr_fruits tr_worth tr_ripe no_apron no_basket no_ground no_bruised no_today x2 x3 s.1 x5 s.2.1 x7 x8 x9 x10 s.2.2 c ro_size ro_numbers) else (if x3 ≤ (((((s.1 * 1103515245) + 12345).toUInt32 >>> ((16 : Int32).toUInt32 &&& Int32.toUInt32 31)).toInt32) - ((((s.1 * 1103515245) + 12345).toUInt32 >>> ((16 : Int32).toUInt32 &&& Int32.toUInt32 31)).toInt32) / 10 * 10) then (j_X9_autumn_149 (fun q0 q1 q2 q3 q4 q5 q6 q7 q8 q9 q10 q11 q12 => (q2, q4, q9)) tr_fruits tr_worth tr_ripe no_apron no_basket no_ground no_bruised no_today x2 x3 ((s.1 * 1103515245) + 12345) x5 s.2.1 x7 x8 x9 x10 s.2.2 c ro_size ro_numbers) else (j_X9_autumn_149 (fun q0 q1 q2 q3 q4 q5 q6 q7 q8 q9 q10 q11 q12 => (q2, q4, q9)) tr_fruits tr_worth tr_ripe no_apron no_basket no_ground no_bruised no_today x2 x3 ((s.1 * 1103515245) + 12345) x5 (s.2.1 ||| (1 <<< (c &&& 31))) x7 x8 x9 x10 (s.2.2 + 1) c ro_size ro_numbers))
noncomputable def j_X9_autumn_170 {R : Type} (k47 : Int32 → Int32 → Int32 → Int32 → Int32 → Int32 → Int32 → Int32 → Int32 → (Nat → Int32) → R) (tr_fruits : Int32) (tr_worth : Nat → Int32) (tr_ripe : Nat → Int32) (no_apron : Int32) (no_basket : Int32) (no_ground : Int32) (no_bruised : Int32) (no_today : Int32) (x2 : Int32) (x3 : Int32) (x4 : Int32) (x5 : Int32) (x6 : Int32) (x7 : Int32) (x8 : Int32) (x9 : Int32) (ro_size : Int32) (ro_numbers : Nat → Int32) : R := k47 x2 x3 x4 x5 x6 x7 x8 (x9 + 1) ro_size ro_numbers
noncomputable def ex_X9_autumn_91 {R : Type} (k47 : Int32 → Int32 → Int32 → Int32 → Int32 → Int32 → Int32 → Int32 → Int32 → (Nat → Int32) → R) (tr_fruits : Int32) (tr_worth : Nat → Int32) (tr_ripe : Nat → Int32) (no_apron : Int32) (no_basket : Int32) (no_ground : Int32) (no_bruised : Int32) (no_today : Int32) (x2 : Int32) (x3 : Int32) (x5 : Int32) (x7 : Int32) (x8 : Int32) (x9 : Int32) (x10 : Int32) (ro_size : Int32) (ro_numbers : Nat → Int32) (c : Int32) (s : Int32 × Int32 × Int32) : R := if s.2.2 ≤ x7 then (j_X9_autumn_170 k47 tr_fruits tr_worth tr_ripe no_apron no_basket no_ground no_bruised no_today x2 x3 s.1 x5 s.2.1 x7 x8 x9 ro_size ro_numbers) else (j_X9_autumn_170 k47 tr_fruits tr_worth tr_ripe no_apron no_basket no_ground no_bruised no_today x2 x3 s.1 x5 s.2.1 s.2.2 x9 x9 ro_size ro_numbers)
set_option maxHeartbeats 200000 in
set_option maxRecDepth 10000 in
theorem dl_X9_autumn_91 {P Q : Int32 → Int32 → (Nat → Int32) → Prop} {K47 L47 : Int32 → Int32 → Int32 → Int32 → Int32 → Int32 → Int32 → Int32 → Int32 → (Nat → Int32) → Prop} {tr_fruits : Int32} {tr_worth : Nat → Int32} {tr_ripe : Nat → Int32} {no_apron : Int32} {no_basket : Int32} {no_ground : Int32} {no_bruised : Int32} {no_today : Int32} {x2 : Int32} {x3 : Int32} {x5 : Int32} {x7 : Int32} {x8 : Int32} {x9 : Int32} {x10 : Int32} {ro_size : Int32} {ro_numbers : Nat → Int32} {a : Int32 × Int32 × Int32} {i : Nat} (hi0 : i < 2147483648) (hE : ∀ (c : Int32) (s : Int32 × Int32 × Int32), c = nI (i + (Int32.toInt tr_fruits - ((i : Nat) : Int)).toNat) → s = itr (bd_X9_autumn_91 tr_fruits tr_worth tr_ripe no_apron no_basket no_ground no_bruised no_today x2 x3 x5 x7 x8 x9 x10 ro_size ro_numbers) a i (Int32.toInt tr_fruits - ((i : Nat) : Int)).toNat → ((s.2.2 ≤ x7 → ws_X9_autumn_170 P K47 tr_fruits tr_worth tr_ripe no_apron no_basket no_ground no_bruised no_today x2 x3 s.1 x5 s.2.1 x7 x8 x9 ro_size ro_numbers) ∧ (¬ s.2.2 ≤ x7 → ws_X9_autumn_170 P K47 tr_fruits tr_worth tr_ripe no_apron no_basket no_ground no_bruised no_today x2 x3 s.1 x5 s.2.1 s.2.2 x9 x9 ro_size ro_numbers)) → ((s.2.2 ≤ x7 → ws_X9_autumn_170 Q L47 tr_fruits tr_worth tr_ripe no_apron no_basket no_ground no_bruised no_today x2 x3 s.1 x5 s.2.1 x7 x8 x9 ro_size ro_numbers) ∧ (¬ s.2.2 ≤ x7 → ws_X9_autumn_170 Q L47 tr_fruits tr_worth tr_ripe no_apron no_basket no_ground no_bruised no_today x2 x3 s.1 x5 s.2.1 s.2.2 x9 x9 ro_size ro_numbers))) : ∀ (n k : Nat) (c : Int32), c = nI (i + k) → k ≤ (Int32.toInt tr_fruits - ((i : Nat) : Int)).toNat → wb_X9_autumn_91 P K47 tr_fruits tr_worth tr_ripe no_apron no_basket no_ground no_bruised no_today n x2 x3 (itr (bd_X9_autumn_91 tr_fruits tr_worth tr_ripe no_apron no_basket no_ground no_bruised no_today x2 x3 x5 x7 x8 x9 x10 ro_size ro_numbers) a i k).1 x5 (itr (bd_X9_autumn_91 tr_fruits tr_worth tr_ripe no_apron no_basket no_ground no_bruised no_today x2 x3 x5 x7 x8 x9 x10 ro_size ro_numbers) a i k).2.1 x7 x8 x9 x10 (itr (bd_X9_autumn_91 tr_fruits tr_worth tr_ripe no_apron no_basket no_ground no_bruised no_today x2 x3 x5 x7 x8 x9 x10 ro_size ro_numbers) a i k).2.2 c ro_size ro_numbers → wb_X9_autumn_91 Q L47 tr_fruits tr_worth tr_ripe no_apron no_basket no_ground no_bruised no_today n x2 x3 (itr (bd_X9_autumn_91 tr_fruits tr_worth tr_ripe no_apron no_basket no_ground no_bruised no_today x2 x3 x5 x7 x8 x9 x10 ro_size ro_numbers) a i k).1 x5 (itr (bd_X9_autumn_91 tr_fruits tr_worth tr_ripe no_apron no_basket no_ground no_bruised no_today x2 x3 x5 x7 x8 x9 x10 ro_size ro_numbers) a i k).2.1 x7 x8 x9 x10 (itr (bd_X9_autumn_91 tr_fruits tr_worth tr_ripe no_apron no_basket no_ground no_bruised no_today x2 x3 x5 x7 x8 x9 x10 ro_size ro_numbers) a i k).2.2 c ro_size ro_numbers := by
  intro n
  induction n with
  | zero => intro k c hc hk h; exact False.elim h
  | succ n ih =>
    intro k c hc hk h
    have hr := tp_r tr_fruits
    have hi : Int32.toInt c = ((i + k : Nat) : Int) := by rw [hc]; exact nI_toInt (by omega)
    refine And.intro (fun t0 => ?_) (fun t0 => ?_)
    · have h := And.left h t0
      have t1 := (fa_le _ _).mp t0
      have hk2 : k = (Int32.toInt tr_fruits - ((i : Nat) : Int)).toNat := by omega
      subst hk2
      exact hE _ _ hc rfl h
    · have h := And.right h t0
      have t1 := mt (fa_le _ _).mpr t0
      have hs : ∀ o : Int32 × Int32 × Int32, o = itr (bd_X9_autumn_91 tr_fruits tr_worth tr_ripe no_apron no_basket no_ground no_bruised no_today x2 x3 x5 x7 x8 x9 x10 ro_size ro_numbers) a i (k + 1) → wb_X9_autumn_91 P K47 tr_fruits tr_worth tr_ripe no_apron no_basket no_ground no_bruised no_today n x2 x3 o.1 x5 o.2.1 x7 x8 x9 x10 o.2.2 (c + 1) ro_size ro_numbers → wb_X9_autumn_91 Q L47 tr_fruits tr_worth tr_ripe no_apron no_basket no_ground no_bruised no_today n x2 x3 o.1 x5 o.2.1 x7 x8 x9 x10 o.2.2 (c + 1) ro_size ro_numbers := by
        intro o eo h9
        have q := ih (k + 1) (c + 1) (by rw [hc]; exact nI_1 _) (by omega)
        rw [← eo] at q
        exact q h9
      rw [itr_s, ← hc, bd_X9_autumn_91] at hs
      refine ae ?_
      have h := h _ rfl
      refine And.intro (fun c1 => ?_) (fun c1 => ?_)
      · have h := And.left h c1
        rw [if_pos c1] at hs
        rw [j_X9_autumn_149] at hs
        unfold ws_X9_autumn_149 at h ⊢
        refine ae ?_
        have h := h _ rfl
        have q9 := hs _ rfl
        dsimp only at q9
        exact q9 h
      · have h := And.right h c1
        rw [if_neg c1] at hs
        refine ae ?_
        have h := h _ rfl
        refine ae ?_
        have h := h _ rfl
        refine ae ?_
        have h := h _ rfl
        refine ae ?_
        have h := h _ rfl
        refine And.intro (fun c2 => ?_) (fun c2 => ?_)
        · have h := And.left h c2
          rw [if_pos c2] at hs
          rw [j_X9_autumn_149] at hs
          unfold ws_X9_autumn_149 at h ⊢
          refine ae ?_
          have h := h _ rfl
          have q9 := hs _ rfl
          dsimp only at q9
          exact q9 h
        · have h := And.right h c2
          rw [if_neg c2] at hs
          refine ae ?_
          have h := h _ rfl
          refine ae ?_
          have h := h _ rfl
          rw [j_X9_autumn_149] at hs
          unfold ws_X9_autumn_149 at h ⊢
          refine ae ?_
          have h := h _ rfl
          have q9 := hs _ rfl
          dsimp only at q9
          exact q9 h
noncomputable def bd_X9_autumn_47 (tr_fruits : Int32) (tr_worth : Nat → Int32) (tr_ripe : Nat → Int32) (no_apron : Int32) (no_basket : Int32) (no_ground : Int32) (no_bruised : Int32) (no_today : Int32) (x2 : Int32) (x3 : Int32) (x5 : Int32) (ro_size : Int32) (ro_numbers : Nat → Int32) (c : Int32) (s : Int32 × Int32 × Int32 × Int32) : Int32 × Int32 × Int32 × Int32 := ex_X9_autumn_91 (fun q0 q1 q2 q3 q4 q5 q6 q7 q8 q9 => (q2, q4, q5, q6)) tr_fruits tr_worth tr_ripe no_apron no_basket no_ground no_bruised no_today x2 x3 x5 s.2.2.1 s.2.2.2 c ((x5 &&& (s.2.1 ^^^ (-1))) &&& (F_X3_ripeBy (if (no_today + c) < 9 then (no_today + c) else 9) tr_fruits tr_ripe)) ro_size ro_numbers (nI (0 + (Int32.toInt tr_fruits - ((0 : Nat) : Int)).toNat)) (itr (bd_X9_autumn_91 tr_fruits tr_worth tr_ripe no_apron no_basket no_ground no_bruised no_today x2 x3 x5 s.2.2.1 s.2.2.2 c ((x5 &&& (s.2.1 ^^^ (-1))) &&& (F_X3_ripeBy (if (no_today + c) < 9 then (no_today + c) else 9) tr_fruits tr_ripe)) ro_size ro_numbers) (s.1, s.2.1, 0) 0 (Int32.toInt tr_fruits - ((0 : Nat) : Int)).toNat)
noncomputable def ex_X9_autumn_47 {R : Type} (po : Int32 → Int32 → (Nat → Int32) → R) (tr_fruits : Int32) (tr_worth : Nat → Int32) (tr_ripe : Nat → Int32) (no_apron : Int32) (no_basket : Int32) (no_ground : Int32) (no_bruised : Int32) (no_today : Int32) (x2 : Int32) (x3 : Int32) (x5 : Int32) (ro_size : Int32) (ro_numbers : Nat → Int32) (c : Int32) (s : Int32 × Int32 × Int32 × Int32) : R := po (F_J6_bitCount_0f7a4 s.2.1) ((F_X9_tell__ s.2.1 (F_X0_worthOf s.2.1 tr_fruits tr_worth no_bruised) s.2.2.2 ro_size ro_numbers).1) ((F_X9_tell__ s.2.1 (F_X0_worthOf s.2.1 tr_fruits tr_worth no_bruised) s.2.2.2 ro_size ro_numbers).2)
set_option maxHeartbeats 200000 in
set_option maxRecDepth 10000 in
theorem dl_X9_autumn_47 {P Q : Int32 → Int32 → (Nat → Int32) → Prop} {tr_fruits : Int32} {tr_worth : Nat → Int32} {tr_ripe : Nat → Int32} {no_apron : Int32} {no_basket : Int32} {no_ground : Int32} {no_bruised : Int32} {no_today : Int32} {x2 : Int32} {x3 : Int32} {x5 : Int32} {ro_size : Int32} {ro_numbers : Nat → Int32} {a : Int32 × Int32 × Int32 × Int32} {i : Nat} (hi0 : i < 2147483648) (hz0 : Int32.toInt x2 < 2147483647) (hE : ∀ (c : Int32) (s : Int32 × Int32 × Int32 × Int32), c = nI (i + (Int32.toInt x2 + 1 - ((i : Nat) : Int)).toNat) → s = itr (bd_X9_autumn_47 tr_fruits tr_worth tr_ripe no_apron no_basket no_ground no_bruised no_today x2 x3 x5 ro_size ro_numbers) a i (Int32.toInt x2 + 1 - ((i : Nat) : Int)).toNat → (wp_X0_worthOf (fun r_2 => wp_X9_tell__ (fun ro_size_3 ro_numbers_4 => wp_J6_bitCount_0f7a4 (fun r_5 => P r_5 ro_size_3 ro_numbers_4) s.2.1) s.2.1 r_2 s.2.2.2 ro_size ro_numbers) s.2.1 tr_fruits tr_worth no_bruised) → (wp_X0_worthOf (fun r_2 => wp_X9_tell__ (fun ro_size_3 ro_numbers_4 => wp_J6_bitCount_0f7a4 (fun r_5 => Q r_5 ro_size_3 ro_numbers_4) s.2.1) s.2.1 r_2 s.2.2.2 ro_size ro_numbers) s.2.1 tr_fruits tr_worth no_bruised)) : ∀ (n k : Nat) (c : Int32), c = nI (i + k) → k ≤ (Int32.toInt x2 + 1 - ((i : Nat) : Int)).toNat → wb_X9_autumn_47 P tr_fruits tr_worth tr_ripe no_apron no_basket no_ground no_bruised no_today n x2 x3 (itr (bd_X9_autumn_47 tr_fruits tr_worth tr_ripe no_apron no_basket no_ground no_bruised no_today x2 x3 x5 ro_size ro_numbers) a i k).1 x5 (itr (bd_X9_autumn_47 tr_fruits tr_worth tr_ripe no_apron no_basket no_ground no_bruised no_today x2 x3 x5 ro_size ro_numbers) a i k).2.1 (itr (bd_X9_autumn_47 tr_fruits tr_worth tr_ripe no_apron no_basket no_ground no_bruised no_today x2 x3 x5 ro_size ro_numbers) a i k).2.2.1 (itr (bd_X9_autumn_47 tr_fruits tr_worth tr_ripe no_apron no_basket no_ground no_bruised no_today x2 x3 x5 ro_size ro_numbers) a i k).2.2.2 c ro_size ro_numbers → wb_X9_autumn_47 Q tr_fruits tr_worth tr_ripe no_apron no_basket no_ground no_bruised no_today n x2 x3 (itr (bd_X9_autumn_47 tr_fruits tr_worth tr_ripe no_apron no_basket no_ground no_bruised no_today x2 x3 x5 ro_size ro_numbers) a i k).1 x5 (itr (bd_X9_autumn_47 tr_fruits tr_worth tr_ripe no_apron no_basket no_ground no_bruised no_today x2 x3 x5 ro_size ro_numbers) a i k).2.1 (itr (bd_X9_autumn_47 tr_fruits tr_worth tr_ripe no_apron no_basket no_ground no_bruised no_today x2 x3 x5 ro_size ro_numbers) a i k).2.2.1 (itr (bd_X9_autumn_47 tr_fruits tr_worth tr_ripe no_apron no_basket no_ground no_bruised no_today x2 x3 x5 ro_size ro_numbers) a i k).2.2.2 c ro_size ro_numbers := by
  intro n
  induction n with
  | zero => intro k c hc hk h; exact False.elim h
  | succ n ih =>
    intro k c hc hk h
    have hr := tp_r x2
    have hi : Int32.toInt c = ((i + k : Nat) : Int) := by rw [hc]; exact nI_toInt (by omega)
    refine And.intro (fun t0 => ?_) (fun t0 => ?_)
    · have h := And.left h t0
      have t1 := (fa_lt _ _).mp t0
      have hk2 : k = (Int32.toInt x2 + 1 - ((i : Nat) : Int)).toNat := by omega
      subst hk2
      exact hE _ _ hc rfl h
    · have h := And.right h t0
      have t1 := mt (fa_lt _ _).mpr t0
      have hs : ∀ o : Int32 × Int32 × Int32 × Int32, o = itr (bd_X9_autumn_47 tr_fruits tr_worth tr_ripe no_apron no_basket no_ground no_bruised no_today x2 x3 x5 ro_size ro_numbers) a i (k + 1) → wb_X9_autumn_47 P tr_fruits tr_worth tr_ripe no_apron no_basket no_ground no_bruised no_today n x2 x3 o.1 x5 o.2.1 o.2.2.1 o.2.2.2 (c + 1) ro_size ro_numbers → wb_X9_autumn_47 Q tr_fruits tr_worth tr_ripe no_apron no_basket no_ground no_bruised no_today n x2 x3 o.1 x5 o.2.1 o.2.2.1 o.2.2.2 (c + 1) ro_size ro_numbers := by
        intro o eo h9
        have q := ih (k + 1) (c + 1) (by rw [hc]; exact nI_1 _) (by omega)
        rw [← eo] at q
        exact q h9
      rw [itr_s, ← hc, bd_X9_autumn_47] at hs
      refine ae ?_
      have h := h _ rfl
      refine ae ?_
      have h := h _ rfl
      refine ae ?_
      have h := h _ rfl
      refine du_X3_ripeBy h ?_
      intro h
      refine ae ?_
      have h := h _ rfl
      obtain ⟨n1, h⟩ := h
      refine ⟨n1, dl_X9_autumn_91 (a := (((itr (bd_X9_autumn_47 tr_fruits tr_worth tr_ripe no_apron no_basket no_ground no_bruised no_today x2 x3 x5 ro_size ro_numbers) a i k).1), ((itr (bd_X9_autumn_47 tr_fruits tr_worth tr_ripe no_apron no_basket no_ground no_bruised no_today x2 x3 x5 ro_size ro_numbers) a i k).2.1), 0)) (i := 0) (by decide) ?_ n1 0 0 (by decide) (Nat.zero_le _) h⟩
      intro cc2 s3 ec4 es5 h
      rw [← ec4, ← es5, ex_X9_autumn_91] at hs
      refine And.intro (fun c6 => ?_) (fun c6 => ?_)
      · have h := And.left h c6
        rw [if_pos c6] at hs
        rw [j_X9_autumn_170] at hs
        unfold ws_X9_autumn_170 at h ⊢
        refine ae ?_
        have h := h _ rfl
        have q9 := hs _ rfl
        dsimp only at q9
        exact q9 h
      · have h := And.right h c6
        rw [if_neg c6] at hs
        rw [j_X9_autumn_170] at hs
        unfold ws_X9_autumn_170 at h ⊢
        refine ae ?_
        have h := h _ rfl
        have q9 := hs _ rfl
        dsimp only at q9
        exact q9 h
noncomputable def F_X9_autumn (p0 : Int32) (p1 : Int32) (p2 : Int32) (tr_fruits : Int32) (tr_worth : Nat → Int32) (tr_ripe : Nat → Int32) (no_apron : Int32) (no_basket : Int32) (no_ground : Int32) (no_bruised : Int32) (no_today : Int32) (ro_size : Int32) (ro_numbers : Nat → Int32) : Int32 × Int32 × (Nat → Int32) := if p1 < 1 then ((-1), ro_size, ro_numbers) else (if 30 < p1 then ((-1), ro_size, ro_numbers) else (if p2 < 0 then ((-1), ro_size, ro_numbers) else (if p2 ≤ 10 then (ex_X9_autumn_47 (fun o0 o1 o2 => (o0, o1, o2)) tr_fruits tr_worth tr_ripe no_apron no_basket no_ground no_bruised no_today p1 p2 (F_X0_hanging tr_fruits no_apron no_basket no_ground) ro_size ro_numbers (nI (1 + (Int32.toInt p1 + 1 - ((1 : Nat) : Int)).toNat)) (itr (bd_X9_autumn_47 tr_fruits tr_worth tr_ripe no_apron no_basket no_ground no_bruised no_today p1 p2 (F_X0_hanging tr_fruits no_apron no_basket no_ground) ro_size ro_numbers) (p0, 0, 0, (-1)) 1 (Int32.toInt p1 + 1 - ((1 : Nat) : Int)).toNat)) else ((-1), ro_size, ro_numbers))))
set_option maxHeartbeats 200000 in
set_option maxRecDepth 10000 in
theorem dt_X9_autumn {P Q : Int32 → Int32 → (Nat → Int32) → Prop} {p0 : Int32} {p1 : Int32} {p2 : Int32} {tr_fruits : Int32} {tr_worth : Nat → Int32} {tr_ripe : Nat → Int32} {no_apron : Int32} {no_basket : Int32} {no_ground : Int32} {no_bruised : Int32} {no_today : Int32} {ro_size : Int32} {ro_numbers : Nat → Int32} (hy0 : Int32.toInt p1 < 2147483647) (h : wp_X9_autumn P p0 p1 p2 tr_fruits tr_worth tr_ripe no_apron no_basket no_ground no_bruised no_today ro_size ro_numbers) (hq : ∀ o : Int32 × Int32 × (Nat → Int32), o = F_X9_autumn p0 p1 p2 tr_fruits tr_worth tr_ripe no_apron no_basket no_ground no_bruised no_today ro_size ro_numbers → P o.1 o.2.1 o.2.2 → Q o.1 o.2.1 o.2.2) : wp_X9_autumn Q p0 p1 p2 tr_fruits tr_worth tr_ripe no_apron no_basket no_ground no_bruised no_today ro_size ro_numbers := by
  rw [F_X9_autumn] at hq
  refine And.intro (fun c1 => ?_) (fun c1 => ?_)
  · have h := And.left h c1
    rw [if_pos c1] at hq
    have q9 := hq _ rfl
    dsimp only at q9
    exact q9 h
  · have h := And.right h c1
    rw [if_neg c1] at hq
    refine And.intro (fun c2 => ?_) (fun c2 => ?_)
    · have h := And.left h c2
      rw [if_pos c2] at hq
      have q9 := hq _ rfl
      dsimp only at q9
      exact q9 h
    · have h := And.right h c2
      rw [if_neg c2] at hq
      refine And.intro (fun c3 => ?_) (fun c3 => ?_)
      · have h := And.left h c3
        rw [if_pos c3] at hq
        have q9 := hq _ rfl
        dsimp only at q9
        exact q9 h
      · have h := And.right h c3
        rw [if_neg c3] at hq
        refine And.intro (fun c4 => ?_) (fun c4 => ?_)
        · have h := And.left h c4
          rw [if_pos c4] at hq
          refine du_X0_hanging h ?_
          intro h
          obtain ⟨n5, h⟩ := h
          refine ⟨n5, dl_X9_autumn_47 (a := (p0, 0, 0, (-1))) (i := 1) (by decide) hy0 ?_ n5 0 1 (by decide) (Nat.zero_le _) h⟩
          intro cc6 s7 ec8 es9 h
          rw [← ec8, ← es9, ex_X9_autumn_47] at hq
          refine du_X0_worthOf h ?_
          intro h
          refine du_X9_tell__ h ?_
          intro h
          refine du_J6_bitCount_0f7a4 h ?_
          intro h
          have q9 := hq _ rfl
          dsimp only at q9
          exact q9 h
        · have h := And.right h c4
          rw [if_neg c4] at hq
          have q9 := hq _ rfl
          dsimp only at q9
          exact q9 h
theorem du_X9_autumn {P Q : Int32 → Int32 → (Nat → Int32) → Prop} {p0 : Int32} {p1 : Int32} {p2 : Int32} {tr_fruits : Int32} {tr_worth : Nat → Int32} {tr_ripe : Nat → Int32} {no_apron : Int32} {no_basket : Int32} {no_ground : Int32} {no_bruised : Int32} {no_today : Int32} {ro_size : Int32} {ro_numbers : Nat → Int32} (hy0 : Int32.toInt p1 < 2147483647) (h : wp_X9_autumn P p0 p1 p2 tr_fruits tr_worth tr_ripe no_apron no_basket no_ground no_bruised no_today ro_size ro_numbers) (hq : P (F_X9_autumn p0 p1 p2 tr_fruits tr_worth tr_ripe no_apron no_basket no_ground no_bruised no_today ro_size ro_numbers).1 (F_X9_autumn p0 p1 p2 tr_fruits tr_worth tr_ripe no_apron no_basket no_ground no_bruised no_today ro_size ro_numbers).2.1 (F_X9_autumn p0 p1 p2 tr_fruits tr_worth tr_ripe no_apron no_basket no_ground no_bruised no_today ro_size ro_numbers).2.2 → Q (F_X9_autumn p0 p1 p2 tr_fruits tr_worth tr_ripe no_apron no_basket no_ground no_bruised no_today ro_size ro_numbers).1 (F_X9_autumn p0 p1 p2 tr_fruits tr_worth tr_ripe no_apron no_basket no_ground no_bruised no_today ro_size ro_numbers).2.1 (F_X9_autumn p0 p1 p2 tr_fruits tr_worth tr_ripe no_apron no_basket no_ground no_bruised no_today ro_size ro_numbers).2.2) : wp_X9_autumn Q p0 p1 p2 tr_fruits tr_worth tr_ripe no_apron no_basket no_ground no_bruised no_today ro_size ro_numbers := dt_X9_autumn hy0 h (fun o eo => by rw [eo]; exact hq)
theorem dw_X9_autumn {Q : Int32 → Int32 → (Nat → Int32) → Prop} {p0 : Int32} {p1 : Int32} {p2 : Int32} {tr_fruits : Int32} {tr_worth : Nat → Int32} {tr_ripe : Nat → Int32} {no_apron : Int32} {no_basket : Int32} {no_ground : Int32} {no_bruised : Int32} {no_today : Int32} {ro_size : Int32} {ro_numbers : Nat → Int32} (hy0 : Int32.toInt p1 < 2147483647) (h : wp_X9_autumn (fun o0 o1 o2 => (o0, o1, o2) = F_X9_autumn p0 p1 p2 tr_fruits tr_worth tr_ripe no_apron no_basket no_ground no_bruised no_today ro_size ro_numbers → Q o0 o1 o2) p0 p1 p2 tr_fruits tr_worth tr_ripe no_apron no_basket no_ground no_bruised no_today ro_size ro_numbers) : wp_X9_autumn Q p0 p1 p2 tr_fruits tr_worth tr_ripe no_apron no_basket no_ground no_bruised no_today ro_size ro_numbers := dt_X9_autumn hy0 h (fun o eo hp => hp eo)
noncomputable def F_X2_write_b2 (p1 : Int32) (no_apron : Int32) (no_basket : Int32) (no_ground : Int32) (no_bruised : Int32) (no_ladder : Int32) (no_helper : Int32) (no_today : Int32) (no_clock : Int32) (pa_keptCells : Nat → Int32) : (Nat → Int32) := if p1 < 0 then pa_keptCells else (if p1 ≤ (16 - 8) then (upd (upd (upd (upd (upd (upd (upd (upd pa_keptCells p1.toNatClampNeg no_apron) (p1 + 1).toNatClampNeg no_basket) (p1 + 2).toNatClampNeg no_ground) (p1 + 3).toNatClampNeg no_bruised) (p1 + 4).toNatClampNeg no_ladder) (p1 + 5).toNatClampNeg no_helper) (p1 + 6).toNatClampNeg no_today) (p1 + 7).toNatClampNeg no_clock) else pa_keptCells)
set_option maxHeartbeats 200000 in
set_option maxRecDepth 10000 in
theorem dt_X2_write_b2 {P Q : (Nat → Int32) → Prop} {p1 : Int32} {no_apron : Int32} {no_basket : Int32} {no_ground : Int32} {no_bruised : Int32} {no_ladder : Int32} {no_helper : Int32} {no_today : Int32} {no_clock : Int32} {pa_keptCells : Nat → Int32} (h : wp_X2_write_b2 P p1 no_apron no_basket no_ground no_bruised no_ladder no_helper no_today no_clock pa_keptCells) (hq : ∀ o : (Nat → Int32), o = F_X2_write_b2 p1 no_apron no_basket no_ground no_bruised no_ladder no_helper no_today no_clock pa_keptCells → P o → Q o) : wp_X2_write_b2 Q p1 no_apron no_basket no_ground no_bruised no_ladder no_helper no_today no_clock pa_keptCells := by
  rw [F_X2_write_b2] at hq
  refine And.intro (fun c1 => ?_) (fun c1 => ?_)
  · have h := And.left h c1
    rw [if_pos c1] at hq
    have q9 := hq _ rfl
    exact q9 h
  · have h := And.right h c1
    rw [if_neg c1] at hq
    refine And.intro (fun c2 => ?_) (fun c2 => ?_)
    · have h := And.left h c2
      rw [if_pos c2] at hq
      refine And.intro (And.left h) ?_
      have h := And.right h
      refine ae ?_
      have h := h _ rfl
      refine And.intro (And.left h) ?_
      have h := And.right h
      refine ae ?_
      have h := h _ rfl
      refine And.intro (And.left h) ?_
      have h := And.right h
      refine ae ?_
      have h := h _ rfl
      refine And.intro (And.left h) ?_
      have h := And.right h
      refine ae ?_
      have h := h _ rfl
      refine And.intro (And.left h) ?_
      have h := And.right h
      refine ae ?_
      have h := h _ rfl
      refine And.intro (And.left h) ?_
      have h := And.right h
      refine ae ?_
      have h := h _ rfl
      refine And.intro (And.left h) ?_
      have h := And.right h
      refine ae ?_
      have h := h _ rfl
      refine And.intro (And.left h) ?_
      have h := And.right h
      have q9 := hq _ rfl
      exact q9 h
    · have h := And.right h c2
      rw [if_neg c2] at hq
      have q9 := hq _ rfl
      exact q9 h
theorem du_X2_write_b2 {P Q : (Nat → Int32) → Prop} {p1 : Int32} {no_apron : Int32} {no_basket : Int32} {no_ground : Int32} {no_bruised : Int32} {no_ladder : Int32} {no_helper : Int32} {no_today : Int32} {no_clock : Int32} {pa_keptCells : Nat → Int32} (h : wp_X2_write_b2 P p1 no_apron no_basket no_ground no_bruised no_ladder no_helper no_today no_clock pa_keptCells) (hq : P (F_X2_write_b2 p1 no_apron no_basket no_ground no_bruised no_ladder no_helper no_today no_clock pa_keptCells) → Q (F_X2_write_b2 p1 no_apron no_basket no_ground no_bruised no_ladder no_helper no_today no_clock pa_keptCells)) : wp_X2_write_b2 Q p1 no_apron no_basket no_ground no_bruised no_ladder no_helper no_today no_clock pa_keptCells := dt_X2_write_b2 h (fun o eo => by rw [eo]; exact hq)
noncomputable def F_X4_store (p0 : Int32) (no_apron : Int32) (no_basket : Int32) (no_ground : Int32) (no_bruised : Int32) (no_ladder : Int32) (no_helper : Int32) (no_today : Int32) (no_clock : Int32) (pa_keptCells : Nat → Int32) (pa_isKept : Nat → Int32) : Int32 × (Nat → Int32) × (Nat → Int32) := if p0 < 0 then (0, pa_keptCells, pa_isKept) else (if p0 < 2 then (1, (F_X2_write_b2 (p0 * 8) no_apron no_basket no_ground no_bruised no_ladder no_helper no_today no_clock pa_keptCells), (upd pa_isKept p0.toNatClampNeg (vp_nar .boolean 1))) else (0, pa_keptCells, pa_isKept))
set_option maxHeartbeats 200000 in
set_option maxRecDepth 10000 in
theorem dt_X4_store {P Q : Int32 → (Nat → Int32) → (Nat → Int32) → Prop} {p0 : Int32} {no_apron : Int32} {no_basket : Int32} {no_ground : Int32} {no_bruised : Int32} {no_ladder : Int32} {no_helper : Int32} {no_today : Int32} {no_clock : Int32} {pa_keptCells : Nat → Int32} {pa_isKept : Nat → Int32} (h : wp_X4_store P p0 no_apron no_basket no_ground no_bruised no_ladder no_helper no_today no_clock pa_keptCells pa_isKept) (hq : ∀ o : Int32 × (Nat → Int32) × (Nat → Int32), o = F_X4_store p0 no_apron no_basket no_ground no_bruised no_ladder no_helper no_today no_clock pa_keptCells pa_isKept → P o.1 o.2.1 o.2.2 → Q o.1 o.2.1 o.2.2) : wp_X4_store Q p0 no_apron no_basket no_ground no_bruised no_ladder no_helper no_today no_clock pa_keptCells pa_isKept := by
  rw [F_X4_store] at hq
  refine And.intro (fun c1 => ?_) (fun c1 => ?_)
  · have h := And.left h c1
    rw [if_pos c1] at hq
    have q9 := hq _ rfl
    dsimp only at q9
    exact q9 h
  · have h := And.right h c1
    rw [if_neg c1] at hq
    refine And.intro (fun c2 => ?_) (fun c2 => ?_)
    · have h := And.left h c2
      rw [if_pos c2] at hq
      refine ae ?_
      have h := h _ rfl
      refine du_X2_write_b2 h ?_
      intro h
      refine And.intro (And.left h) ?_
      have h := And.right h
      have q9 := hq _ rfl
      dsimp only at q9
      exact q9 h
    · have h := And.right h c2
      rw [if_neg c2] at hq
      have q9 := hq _ rfl
      dsimp only at q9
      exact q9 h
theorem du_X4_store {P Q : Int32 → (Nat → Int32) → (Nat → Int32) → Prop} {p0 : Int32} {no_apron : Int32} {no_basket : Int32} {no_ground : Int32} {no_bruised : Int32} {no_ladder : Int32} {no_helper : Int32} {no_today : Int32} {no_clock : Int32} {pa_keptCells : Nat → Int32} {pa_isKept : Nat → Int32} (h : wp_X4_store P p0 no_apron no_basket no_ground no_bruised no_ladder no_helper no_today no_clock pa_keptCells pa_isKept) (hq : P (F_X4_store p0 no_apron no_basket no_ground no_bruised no_ladder no_helper no_today no_clock pa_keptCells pa_isKept).1 (F_X4_store p0 no_apron no_basket no_ground no_bruised no_ladder no_helper no_today no_clock pa_keptCells pa_isKept).2.1 (F_X4_store p0 no_apron no_basket no_ground no_bruised no_ladder no_helper no_today no_clock pa_keptCells pa_isKept).2.2 → Q (F_X4_store p0 no_apron no_basket no_ground no_bruised no_ladder no_helper no_today no_clock pa_keptCells pa_isKept).1 (F_X4_store p0 no_apron no_basket no_ground no_bruised no_ladder no_helper no_today no_clock pa_keptCells pa_isKept).2.1 (F_X4_store p0 no_apron no_basket no_ground no_bruised no_ladder no_helper no_today no_clock pa_keptCells pa_isKept).2.2) : wp_X4_store Q p0 no_apron no_basket no_ground no_bruised no_ladder no_helper no_today no_clock pa_keptCells pa_isKept := dt_X4_store h (fun o eo => by rw [eo]; exact hq)
noncomputable def F_X9_keep (p0 : Int32) (no_apron : Int32) (no_basket : Int32) (no_ground : Int32) (no_bruised : Int32) (no_ladder : Int32) (no_helper : Int32) (no_today : Int32) (no_clock : Int32) (pa_keptCells : Nat → Int32) (pa_isKept : Nat → Int32) : Int32 × (Nat → Int32) × (Nat → Int32) := ((F_X4_store p0 no_apron no_basket no_ground no_bruised no_ladder no_helper no_today no_clock pa_keptCells pa_isKept).1, (F_X4_store p0 no_apron no_basket no_ground no_bruised no_ladder no_helper no_today no_clock pa_keptCells pa_isKept).2.1, (F_X4_store p0 no_apron no_basket no_ground no_bruised no_ladder no_helper no_today no_clock pa_keptCells pa_isKept).2.2)
set_option maxHeartbeats 200000 in
set_option maxRecDepth 10000 in
theorem dt_X9_keep {P Q : Int32 → (Nat → Int32) → (Nat → Int32) → Prop} {p0 : Int32} {no_apron : Int32} {no_basket : Int32} {no_ground : Int32} {no_bruised : Int32} {no_ladder : Int32} {no_helper : Int32} {no_today : Int32} {no_clock : Int32} {pa_keptCells : Nat → Int32} {pa_isKept : Nat → Int32} (h : wp_X9_keep P p0 no_apron no_basket no_ground no_bruised no_ladder no_helper no_today no_clock pa_keptCells pa_isKept) (hq : ∀ o : Int32 × (Nat → Int32) × (Nat → Int32), o = F_X9_keep p0 no_apron no_basket no_ground no_bruised no_ladder no_helper no_today no_clock pa_keptCells pa_isKept → P o.1 o.2.1 o.2.2 → Q o.1 o.2.1 o.2.2) : wp_X9_keep Q p0 no_apron no_basket no_ground no_bruised no_ladder no_helper no_today no_clock pa_keptCells pa_isKept := by
  rw [F_X9_keep] at hq
  refine du_X4_store h ?_
  intro h
  refine And.intro (And.left h) ?_
  have h := And.right h
  have q9 := hq _ rfl
  dsimp only at q9
  exact q9 h
theorem du_X9_keep {P Q : Int32 → (Nat → Int32) → (Nat → Int32) → Prop} {p0 : Int32} {no_apron : Int32} {no_basket : Int32} {no_ground : Int32} {no_bruised : Int32} {no_ladder : Int32} {no_helper : Int32} {no_today : Int32} {no_clock : Int32} {pa_keptCells : Nat → Int32} {pa_isKept : Nat → Int32} (h : wp_X9_keep P p0 no_apron no_basket no_ground no_bruised no_ladder no_helper no_today no_clock pa_keptCells pa_isKept) (hq : P (F_X9_keep p0 no_apron no_basket no_ground no_bruised no_ladder no_helper no_today no_clock pa_keptCells pa_isKept).1 (F_X9_keep p0 no_apron no_basket no_ground no_bruised no_ladder no_helper no_today no_clock pa_keptCells pa_isKept).2.1 (F_X9_keep p0 no_apron no_basket no_ground no_bruised no_ladder no_helper no_today no_clock pa_keptCells pa_isKept).2.2 → Q (F_X9_keep p0 no_apron no_basket no_ground no_bruised no_ladder no_helper no_today no_clock pa_keptCells pa_isKept).1 (F_X9_keep p0 no_apron no_basket no_ground no_bruised no_ladder no_helper no_today no_clock pa_keptCells pa_isKept).2.1 (F_X9_keep p0 no_apron no_basket no_ground no_bruised no_ladder no_helper no_today no_clock pa_keptCells pa_isKept).2.2) : wp_X9_keep Q p0 no_apron no_basket no_ground no_bruised no_ladder no_helper no_today no_clock pa_keptCells pa_isKept := dt_X9_keep h (fun o eo => by rw [eo]; exact hq)
theorem dw_X9_keep {Q : Int32 → (Nat → Int32) → (Nat → Int32) → Prop} {p0 : Int32} {no_apron : Int32} {no_basket : Int32} {no_ground : Int32} {no_bruised : Int32} {no_ladder : Int32} {no_helper : Int32} {no_today : Int32} {no_clock : Int32} {pa_keptCells : Nat → Int32} {pa_isKept : Nat → Int32} (h : wp_X9_keep (fun o0 o1 o2 => (o0, o1, o2) = F_X9_keep p0 no_apron no_basket no_ground no_bruised no_ladder no_helper no_today no_clock pa_keptCells pa_isKept → Q o0 o1 o2) p0 no_apron no_basket no_ground no_bruised no_ladder no_helper no_today no_clock pa_keptCells pa_isKept) : wp_X9_keep Q p0 no_apron no_basket no_ground no_bruised no_ladder no_helper no_today no_clock pa_keptCells pa_isKept := dt_X9_keep h (fun o eo hp => hp eo)
noncomputable def F_X2_read_b2 (p1 : Int32) (no_apron : Int32) (no_basket : Int32) (no_ground : Int32) (no_bruised : Int32) (no_ladder : Int32) (no_helper : Int32) (no_today : Int32) (no_clock : Int32) (pa_keptCells : Nat → Int32) : Int32 × Int32 × Int32 × Int32 × Int32 × Int32 × Int32 × Int32 := if p1 < 0 then (no_apron, no_basket, no_ground, no_bruised, no_ladder, no_helper, no_today, no_clock) else (if p1 ≤ (16 - 8) then ((pa_keptCells p1.toNatClampNeg), (pa_keptCells (p1 + 1).toNatClampNeg), (pa_keptCells (p1 + 2).toNatClampNeg), (pa_keptCells (p1 + 3).toNatClampNeg), (pa_keptCells (p1 + 4).toNatClampNeg), (pa_keptCells (p1 + 5).toNatClampNeg), (pa_keptCells (p1 + 6).toNatClampNeg), (pa_keptCells (p1 + 7).toNatClampNeg)) else (no_apron, no_basket, no_ground, no_bruised, no_ladder, no_helper, no_today, no_clock))
set_option maxHeartbeats 200000 in
set_option maxRecDepth 10000 in
theorem dt_X2_read_b2 {P Q : Int32 → Int32 → Int32 → Int32 → Int32 → Int32 → Int32 → Int32 → Prop} {p1 : Int32} {no_apron : Int32} {no_basket : Int32} {no_ground : Int32} {no_bruised : Int32} {no_ladder : Int32} {no_helper : Int32} {no_today : Int32} {no_clock : Int32} {pa_keptCells : Nat → Int32} (h : wp_X2_read_b2 P p1 no_apron no_basket no_ground no_bruised no_ladder no_helper no_today no_clock pa_keptCells) (hq : ∀ o : Int32 × Int32 × Int32 × Int32 × Int32 × Int32 × Int32 × Int32, o = F_X2_read_b2 p1 no_apron no_basket no_ground no_bruised no_ladder no_helper no_today no_clock pa_keptCells → P o.1 o.2.1 o.2.2.1 o.2.2.2.1 o.2.2.2.2.1 o.2.2.2.2.2.1 o.2.2.2.2.2.2.1 o.2.2.2.2.2.2.2 → Q o.1 o.2.1 o.2.2.1 o.2.2.2.1 o.2.2.2.2.1 o.2.2.2.2.2.1 o.2.2.2.2.2.2.1 o.2.2.2.2.2.2.2) : wp_X2_read_b2 Q p1 no_apron no_basket no_ground no_bruised no_ladder no_helper no_today no_clock pa_keptCells := by
  rw [F_X2_read_b2] at hq
  refine And.intro (fun c1 => ?_) (fun c1 => ?_)
  · have h := And.left h c1
    rw [if_pos c1] at hq
    have q9 := hq _ rfl
    dsimp only at q9
    exact q9 h
  · have h := And.right h c1
    rw [if_neg c1] at hq
    refine And.intro (fun c2 => ?_) (fun c2 => ?_)
    · have h := And.left h c2
      rw [if_pos c2] at hq
      refine And.intro (And.left h) ?_
      have h := And.right h
      refine ae ?_
      have h := h _ rfl
      refine ae ?_
      have h := h _ rfl
      refine And.intro (And.left h) ?_
      have h := And.right h
      refine ae ?_
      have h := h _ rfl
      refine ae ?_
      have h := h _ rfl
      refine And.intro (And.left h) ?_
      have h := And.right h
      refine ae ?_
      have h := h _ rfl
      refine ae ?_
      have h := h _ rfl
      refine And.intro (And.left h) ?_
      have h := And.right h
      refine ae ?_
      have h := h _ rfl
      refine ae ?_
      have h := h _ rfl
      refine And.intro (And.left h) ?_
      have h := And.right h
      refine ae ?_
      have h := h _ rfl
      refine ae ?_
      have h := h _ rfl
      refine And.intro (And.left h) ?_
      have h := And.right h
      refine ae ?_
      have h := h _ rfl
      refine ae ?_
      have h := h _ rfl
      refine And.intro (And.left h) ?_
      have h := And.right h
      refine ae ?_
      have h := h _ rfl
      refine ae ?_
      have h := h _ rfl
      refine And.intro (And.left h) ?_
      have h := And.right h
      refine ae ?_
      have h := h _ rfl
      have q9 := hq _ rfl
      dsimp only at q9
      exact q9 h
    · have h := And.right h c2
      rw [if_neg c2] at hq
      have q9 := hq _ rfl
      dsimp only at q9
      exact q9 h
theorem du_X2_read_b2 {P Q : Int32 → Int32 → Int32 → Int32 → Int32 → Int32 → Int32 → Int32 → Prop} {p1 : Int32} {no_apron : Int32} {no_basket : Int32} {no_ground : Int32} {no_bruised : Int32} {no_ladder : Int32} {no_helper : Int32} {no_today : Int32} {no_clock : Int32} {pa_keptCells : Nat → Int32} (h : wp_X2_read_b2 P p1 no_apron no_basket no_ground no_bruised no_ladder no_helper no_today no_clock pa_keptCells) (hq : P (F_X2_read_b2 p1 no_apron no_basket no_ground no_bruised no_ladder no_helper no_today no_clock pa_keptCells).1 (F_X2_read_b2 p1 no_apron no_basket no_ground no_bruised no_ladder no_helper no_today no_clock pa_keptCells).2.1 (F_X2_read_b2 p1 no_apron no_basket no_ground no_bruised no_ladder no_helper no_today no_clock pa_keptCells).2.2.1 (F_X2_read_b2 p1 no_apron no_basket no_ground no_bruised no_ladder no_helper no_today no_clock pa_keptCells).2.2.2.1 (F_X2_read_b2 p1 no_apron no_basket no_ground no_bruised no_ladder no_helper no_today no_clock pa_keptCells).2.2.2.2.1 (F_X2_read_b2 p1 no_apron no_basket no_ground no_bruised no_ladder no_helper no_today no_clock pa_keptCells).2.2.2.2.2.1 (F_X2_read_b2 p1 no_apron no_basket no_ground no_bruised no_ladder no_helper no_today no_clock pa_keptCells).2.2.2.2.2.2.1 (F_X2_read_b2 p1 no_apron no_basket no_ground no_bruised no_ladder no_helper no_today no_clock pa_keptCells).2.2.2.2.2.2.2 → Q (F_X2_read_b2 p1 no_apron no_basket no_ground no_bruised no_ladder no_helper no_today no_clock pa_keptCells).1 (F_X2_read_b2 p1 no_apron no_basket no_ground no_bruised no_ladder no_helper no_today no_clock pa_keptCells).2.1 (F_X2_read_b2 p1 no_apron no_basket no_ground no_bruised no_ladder no_helper no_today no_clock pa_keptCells).2.2.1 (F_X2_read_b2 p1 no_apron no_basket no_ground no_bruised no_ladder no_helper no_today no_clock pa_keptCells).2.2.2.1 (F_X2_read_b2 p1 no_apron no_basket no_ground no_bruised no_ladder no_helper no_today no_clock pa_keptCells).2.2.2.2.1 (F_X2_read_b2 p1 no_apron no_basket no_ground no_bruised no_ladder no_helper no_today no_clock pa_keptCells).2.2.2.2.2.1 (F_X2_read_b2 p1 no_apron no_basket no_ground no_bruised no_ladder no_helper no_today no_clock pa_keptCells).2.2.2.2.2.2.1 (F_X2_read_b2 p1 no_apron no_basket no_ground no_bruised no_ladder no_helper no_today no_clock pa_keptCells).2.2.2.2.2.2.2) : wp_X2_read_b2 Q p1 no_apron no_basket no_ground no_bruised no_ladder no_helper no_today no_clock pa_keptCells := dt_X2_read_b2 h (fun o eo => by rw [eo]; exact hq)
noncomputable def F_X4_fetch (p0 : Int32) (no_apron : Int32) (no_basket : Int32) (no_ground : Int32) (no_bruised : Int32) (no_ladder : Int32) (no_helper : Int32) (no_today : Int32) (no_clock : Int32) (pa_undoable : Int32) (pa_keptCells : Nat → Int32) (pa_isKept : Nat → Int32) : Int32 × Int32 × Int32 × Int32 × Int32 × Int32 × Int32 × Int32 × Int32 × Int32 := if p0 < 0 then (0, no_apron, no_basket, no_ground, no_bruised, no_ladder, no_helper, no_today, no_clock, pa_undoable) else (if 2 ≤ p0 then (0, no_apron, no_basket, no_ground, no_bruised, no_ladder, no_helper, no_today, no_clock, pa_undoable) else (if (pa_isKept p0.toNatClampNeg) = 0 then (0, no_apron, no_basket, no_ground, no_bruised, no_ladder, no_helper, no_today, no_clock, pa_undoable) else (1, (F_X2_read_b2 (p0 * 8) no_apron no_basket no_ground no_bruised no_ladder no_helper no_today no_clock pa_keptCells).1, (F_X2_read_b2 (p0 * 8) no_apron no_basket no_ground no_bruised no_ladder no_helper no_today no_clock pa_keptCells).2.1, (F_X2_read_b2 (p0 * 8) no_apron no_basket no_ground no_bruised no_ladder no_helper no_today no_clock pa_keptCells).2.2.1, (F_X2_read_b2 (p0 * 8) no_apron no_basket no_ground no_bruised no_ladder no_helper no_today no_clock pa_keptCells).2.2.2.1, (F_X2_read_b2 (p0 * 8) no_apron no_basket no_ground no_bruised no_ladder no_helper no_today no_clock pa_keptCells).2.2.2.2.1, (F_X2_read_b2 (p0 * 8) no_apron no_basket no_ground no_bruised no_ladder no_helper no_today no_clock pa_keptCells).2.2.2.2.2.1, (F_X2_read_b2 (p0 * 8) no_apron no_basket no_ground no_bruised no_ladder no_helper no_today no_clock pa_keptCells).2.2.2.2.2.2.1, (F_X2_read_b2 (p0 * 8) no_apron no_basket no_ground no_bruised no_ladder no_helper no_today no_clock pa_keptCells).2.2.2.2.2.2.2, 0)))
set_option maxHeartbeats 200000 in
set_option maxRecDepth 10000 in
theorem dt_X4_fetch {P Q : Int32 → Int32 → Int32 → Int32 → Int32 → Int32 → Int32 → Int32 → Int32 → Int32 → Prop} {p0 : Int32} {no_apron : Int32} {no_basket : Int32} {no_ground : Int32} {no_bruised : Int32} {no_ladder : Int32} {no_helper : Int32} {no_today : Int32} {no_clock : Int32} {pa_undoable : Int32} {pa_keptCells : Nat → Int32} {pa_isKept : Nat → Int32} (h : wp_X4_fetch P p0 no_apron no_basket no_ground no_bruised no_ladder no_helper no_today no_clock pa_undoable pa_keptCells pa_isKept) (hq : ∀ o : Int32 × Int32 × Int32 × Int32 × Int32 × Int32 × Int32 × Int32 × Int32 × Int32, o = F_X4_fetch p0 no_apron no_basket no_ground no_bruised no_ladder no_helper no_today no_clock pa_undoable pa_keptCells pa_isKept → P o.1 o.2.1 o.2.2.1 o.2.2.2.1 o.2.2.2.2.1 o.2.2.2.2.2.1 o.2.2.2.2.2.2.1 o.2.2.2.2.2.2.2.1 o.2.2.2.2.2.2.2.2.1 o.2.2.2.2.2.2.2.2.2 → Q o.1 o.2.1 o.2.2.1 o.2.2.2.1 o.2.2.2.2.1 o.2.2.2.2.2.1 o.2.2.2.2.2.2.1 o.2.2.2.2.2.2.2.1 o.2.2.2.2.2.2.2.2.1 o.2.2.2.2.2.2.2.2.2) : wp_X4_fetch Q p0 no_apron no_basket no_ground no_bruised no_ladder no_helper no_today no_clock pa_undoable pa_keptCells pa_isKept := by
  rw [F_X4_fetch] at hq
  refine And.intro (fun c1 => ?_) (fun c1 => ?_)
  · have h := And.left h c1
    rw [if_pos c1] at hq
    have q9 := hq _ rfl
    dsimp only at q9
    exact q9 h
  · have h := And.right h c1
    rw [if_neg c1] at hq
    refine And.intro (fun c2 => ?_) (fun c2 => ?_)
    · have h := And.left h c2
      rw [if_pos c2] at hq
      have q9 := hq _ rfl
      dsimp only at q9
      exact q9 h
    · have h := And.right h c2
      rw [if_neg c2] at hq
      refine And.intro (And.left h) ?_
      have h := And.right h
      refine And.intro (fun c3 => ?_) (fun c3 => ?_)
      · have h := And.left h c3
        rw [if_neg c3] at hq
        refine ae ?_
        have h := h _ rfl
        refine du_X2_read_b2 h ?_
        intro h
        have q9 := hq _ rfl
        dsimp only at q9
        exact q9 h
      · have h := And.right h c3
        rw [if_pos c3] at hq
        have q9 := hq _ rfl
        dsimp only at q9
        exact q9 h
theorem du_X4_fetch {P Q : Int32 → Int32 → Int32 → Int32 → Int32 → Int32 → Int32 → Int32 → Int32 → Int32 → Prop} {p0 : Int32} {no_apron : Int32} {no_basket : Int32} {no_ground : Int32} {no_bruised : Int32} {no_ladder : Int32} {no_helper : Int32} {no_today : Int32} {no_clock : Int32} {pa_undoable : Int32} {pa_keptCells : Nat → Int32} {pa_isKept : Nat → Int32} (h : wp_X4_fetch P p0 no_apron no_basket no_ground no_bruised no_ladder no_helper no_today no_clock pa_undoable pa_keptCells pa_isKept) (hq : P (F_X4_fetch p0 no_apron no_basket no_ground no_bruised no_ladder no_helper no_today no_clock pa_undoable pa_keptCells pa_isKept).1 (F_X4_fetch p0 no_apron no_basket no_ground no_bruised no_ladder no_helper no_today no_clock pa_undoable pa_keptCells pa_isKept).2.1 (F_X4_fetch p0 no_apron no_basket no_ground no_bruised no_ladder no_helper no_today no_clock pa_undoable pa_keptCells pa_isKept).2.2.1 (F_X4_fetch p0 no_apron no_basket no_ground no_bruised no_ladder no_helper no_today no_clock pa_undoable pa_keptCells pa_isKept).2.2.2.1 (F_X4_fetch p0 no_apron no_basket no_ground no_bruised no_ladder no_helper no_today no_clock pa_undoable pa_keptCells pa_isKept).2.2.2.2.1 (F_X4_fetch p0 no_apron no_basket no_ground no_bruised no_ladder no_helper no_today no_clock pa_undoable pa_keptCells pa_isKept).2.2.2.2.2.1 (F_X4_fetch p0 no_apron no_basket no_ground no_bruised no_ladder no_helper no_today no_clock pa_undoable pa_keptCells pa_isKept).2.2.2.2.2.2.1 (F_X4_fetch p0 no_apron no_basket no_ground no_bruised no_ladder no_helper no_today no_clock pa_undoable pa_keptCells pa_isKept).2.2.2.2.2.2.2.1 (F_X4_fetch p0 no_apron no_basket no_ground no_bruised no_ladder no_helper no_today no_clock pa_undoable pa_keptCells pa_isKept).2.2.2.2.2.2.2.2.1 (F_X4_fetch p0 no_apron no_basket no_ground no_bruised no_ladder no_helper no_today no_clock pa_undoable pa_keptCells pa_isKept).2.2.2.2.2.2.2.2.2 → Q (F_X4_fetch p0 no_apron no_basket no_ground no_bruised no_ladder no_helper no_today no_clock pa_undoable pa_keptCells pa_isKept).1 (F_X4_fetch p0 no_apron no_basket no_ground no_bruised no_ladder no_helper no_today no_clock pa_undoable pa_keptCells pa_isKept).2.1 (F_X4_fetch p0 no_apron no_basket no_ground no_bruised no_ladder no_helper no_today no_clock pa_undoable pa_keptCells pa_isKept).2.2.1 (F_X4_fetch p0 no_apron no_basket no_ground no_bruised no_ladder no_helper no_today no_clock pa_undoable pa_keptCells pa_isKept).2.2.2.1 (F_X4_fetch p0 no_apron no_basket no_ground no_bruised no_ladder no_helper no_today no_clock pa_undoable pa_keptCells pa_isKept).2.2.2.2.1 (F_X4_fetch p0 no_apron no_basket no_ground no_bruised no_ladder no_helper no_today no_clock pa_undoable pa_keptCells pa_isKept).2.2.2.2.2.1 (F_X4_fetch p0 no_apron no_basket no_ground no_bruised no_ladder no_helper no_today no_clock pa_undoable pa_keptCells pa_isKept).2.2.2.2.2.2.1 (F_X4_fetch p0 no_apron no_basket no_ground no_bruised no_ladder no_helper no_today no_clock pa_undoable pa_keptCells pa_isKept).2.2.2.2.2.2.2.1 (F_X4_fetch p0 no_apron no_basket no_ground no_bruised no_ladder no_helper no_today no_clock pa_undoable pa_keptCells pa_isKept).2.2.2.2.2.2.2.2.1 (F_X4_fetch p0 no_apron no_basket no_ground no_bruised no_ladder no_helper no_today no_clock pa_undoable pa_keptCells pa_isKept).2.2.2.2.2.2.2.2.2) : wp_X4_fetch Q p0 no_apron no_basket no_ground no_bruised no_ladder no_helper no_today no_clock pa_undoable pa_keptCells pa_isKept := dt_X4_fetch h (fun o eo => by rw [eo]; exact hq)
noncomputable def F_X9_again (p0 : Int32) (no_apron : Int32) (no_basket : Int32) (no_ground : Int32) (no_bruised : Int32) (no_ladder : Int32) (no_helper : Int32) (no_today : Int32) (no_clock : Int32) (pa_undoable : Int32) (pa_keptCells : Nat → Int32) (pa_isKept : Nat → Int32) : Int32 × Int32 × Int32 × Int32 × Int32 × Int32 × Int32 × Int32 × Int32 × Int32 := ((F_X4_fetch p0 no_apron no_basket no_ground no_bruised no_ladder no_helper no_today no_clock pa_undoable pa_keptCells pa_isKept).1, (F_X4_fetch p0 no_apron no_basket no_ground no_bruised no_ladder no_helper no_today no_clock pa_undoable pa_keptCells pa_isKept).2.1, (F_X4_fetch p0 no_apron no_basket no_ground no_bruised no_ladder no_helper no_today no_clock pa_undoable pa_keptCells pa_isKept).2.2.1, (F_X4_fetch p0 no_apron no_basket no_ground no_bruised no_ladder no_helper no_today no_clock pa_undoable pa_keptCells pa_isKept).2.2.2.1, (F_X4_fetch p0 no_apron no_basket no_ground no_bruised no_ladder no_helper no_today no_clock pa_undoable pa_keptCells pa_isKept).2.2.2.2.1, (F_X4_fetch p0 no_apron no_basket no_ground no_bruised no_ladder no_helper no_today no_clock pa_undoable pa_keptCells pa_isKept).2.2.2.2.2.1, (F_X4_fetch p0 no_apron no_basket no_ground no_bruised no_ladder no_helper no_today no_clock pa_undoable pa_keptCells pa_isKept).2.2.2.2.2.2.1, (F_X4_fetch p0 no_apron no_basket no_ground no_bruised no_ladder no_helper no_today no_clock pa_undoable pa_keptCells pa_isKept).2.2.2.2.2.2.2.1, (F_X4_fetch p0 no_apron no_basket no_ground no_bruised no_ladder no_helper no_today no_clock pa_undoable pa_keptCells pa_isKept).2.2.2.2.2.2.2.2.1, (F_X4_fetch p0 no_apron no_basket no_ground no_bruised no_ladder no_helper no_today no_clock pa_undoable pa_keptCells pa_isKept).2.2.2.2.2.2.2.2.2)
set_option maxHeartbeats 200000 in
set_option maxRecDepth 10000 in
theorem dt_X9_again {P Q : Int32 → Int32 → Int32 → Int32 → Int32 → Int32 → Int32 → Int32 → Int32 → Int32 → Prop} {p0 : Int32} {no_apron : Int32} {no_basket : Int32} {no_ground : Int32} {no_bruised : Int32} {no_ladder : Int32} {no_helper : Int32} {no_today : Int32} {no_clock : Int32} {pa_undoable : Int32} {pa_keptCells : Nat → Int32} {pa_isKept : Nat → Int32} (h : wp_X9_again P p0 no_apron no_basket no_ground no_bruised no_ladder no_helper no_today no_clock pa_undoable pa_keptCells pa_isKept) (hq : ∀ o : Int32 × Int32 × Int32 × Int32 × Int32 × Int32 × Int32 × Int32 × Int32 × Int32, o = F_X9_again p0 no_apron no_basket no_ground no_bruised no_ladder no_helper no_today no_clock pa_undoable pa_keptCells pa_isKept → P o.1 o.2.1 o.2.2.1 o.2.2.2.1 o.2.2.2.2.1 o.2.2.2.2.2.1 o.2.2.2.2.2.2.1 o.2.2.2.2.2.2.2.1 o.2.2.2.2.2.2.2.2.1 o.2.2.2.2.2.2.2.2.2 → Q o.1 o.2.1 o.2.2.1 o.2.2.2.1 o.2.2.2.2.1 o.2.2.2.2.2.1 o.2.2.2.2.2.2.1 o.2.2.2.2.2.2.2.1 o.2.2.2.2.2.2.2.2.1 o.2.2.2.2.2.2.2.2.2) : wp_X9_again Q p0 no_apron no_basket no_ground no_bruised no_ladder no_helper no_today no_clock pa_undoable pa_keptCells pa_isKept := by
  rw [F_X9_again] at hq
  refine du_X4_fetch h ?_
  intro h
  refine And.intro (And.left h) ?_
  have h := And.right h
  have q9 := hq _ rfl
  dsimp only at q9
  exact q9 h
theorem du_X9_again {P Q : Int32 → Int32 → Int32 → Int32 → Int32 → Int32 → Int32 → Int32 → Int32 → Int32 → Prop} {p0 : Int32} {no_apron : Int32} {no_basket : Int32} {no_ground : Int32} {no_bruised : Int32} {no_ladder : Int32} {no_helper : Int32} {no_today : Int32} {no_clock : Int32} {pa_undoable : Int32} {pa_keptCells : Nat → Int32} {pa_isKept : Nat → Int32} (h : wp_X9_again P p0 no_apron no_basket no_ground no_bruised no_ladder no_helper no_today no_clock pa_undoable pa_keptCells pa_isKept) (hq : P (F_X9_again p0 no_apron no_basket no_ground no_bruised no_ladder no_helper no_today no_clock pa_undoable pa_keptCells pa_isKept).1 (F_X9_again p0 no_apron no_basket no_ground no_bruised no_ladder no_helper no_today no_clock pa_undoable pa_keptCells pa_isKept).2.1 (F_X9_again p0 no_apron no_basket no_ground no_bruised no_ladder no_helper no_today no_clock pa_undoable pa_keptCells pa_isKept).2.2.1 (F_X9_again p0 no_apron no_basket no_ground no_bruised no_ladder no_helper no_today no_clock pa_undoable pa_keptCells pa_isKept).2.2.2.1 (F_X9_again p0 no_apron no_basket no_ground no_bruised no_ladder no_helper no_today no_clock pa_undoable pa_keptCells pa_isKept).2.2.2.2.1 (F_X9_again p0 no_apron no_basket no_ground no_bruised no_ladder no_helper no_today no_clock pa_undoable pa_keptCells pa_isKept).2.2.2.2.2.1 (F_X9_again p0 no_apron no_basket no_ground no_bruised no_ladder no_helper no_today no_clock pa_undoable pa_keptCells pa_isKept).2.2.2.2.2.2.1 (F_X9_again p0 no_apron no_basket no_ground no_bruised no_ladder no_helper no_today no_clock pa_undoable pa_keptCells pa_isKept).2.2.2.2.2.2.2.1 (F_X9_again p0 no_apron no_basket no_ground no_bruised no_ladder no_helper no_today no_clock pa_undoable pa_keptCells pa_isKept).2.2.2.2.2.2.2.2.1 (F_X9_again p0 no_apron no_basket no_ground no_bruised no_ladder no_helper no_today no_clock pa_undoable pa_keptCells pa_isKept).2.2.2.2.2.2.2.2.2 → Q (F_X9_again p0 no_apron no_basket no_ground no_bruised no_ladder no_helper no_today no_clock pa_undoable pa_keptCells pa_isKept).1 (F_X9_again p0 no_apron no_basket no_ground no_bruised no_ladder no_helper no_today no_clock pa_undoable pa_keptCells pa_isKept).2.1 (F_X9_again p0 no_apron no_basket no_ground no_bruised no_ladder no_helper no_today no_clock pa_undoable pa_keptCells pa_isKept).2.2.1 (F_X9_again p0 no_apron no_basket no_ground no_bruised no_ladder no_helper no_today no_clock pa_undoable pa_keptCells pa_isKept).2.2.2.1 (F_X9_again p0 no_apron no_basket no_ground no_bruised no_ladder no_helper no_today no_clock pa_undoable pa_keptCells pa_isKept).2.2.2.2.1 (F_X9_again p0 no_apron no_basket no_ground no_bruised no_ladder no_helper no_today no_clock pa_undoable pa_keptCells pa_isKept).2.2.2.2.2.1 (F_X9_again p0 no_apron no_basket no_ground no_bruised no_ladder no_helper no_today no_clock pa_undoable pa_keptCells pa_isKept).2.2.2.2.2.2.1 (F_X9_again p0 no_apron no_basket no_ground no_bruised no_ladder no_helper no_today no_clock pa_undoable pa_keptCells pa_isKept).2.2.2.2.2.2.2.1 (F_X9_again p0 no_apron no_basket no_ground no_bruised no_ladder no_helper no_today no_clock pa_undoable pa_keptCells pa_isKept).2.2.2.2.2.2.2.2.1 (F_X9_again p0 no_apron no_basket no_ground no_bruised no_ladder no_helper no_today no_clock pa_undoable pa_keptCells pa_isKept).2.2.2.2.2.2.2.2.2) : wp_X9_again Q p0 no_apron no_basket no_ground no_bruised no_ladder no_helper no_today no_clock pa_undoable pa_keptCells pa_isKept := dt_X9_again h (fun o eo => by rw [eo]; exact hq)
theorem dw_X9_again {Q : Int32 → Int32 → Int32 → Int32 → Int32 → Int32 → Int32 → Int32 → Int32 → Int32 → Prop} {p0 : Int32} {no_apron : Int32} {no_basket : Int32} {no_ground : Int32} {no_bruised : Int32} {no_ladder : Int32} {no_helper : Int32} {no_today : Int32} {no_clock : Int32} {pa_undoable : Int32} {pa_keptCells : Nat → Int32} {pa_isKept : Nat → Int32} (h : wp_X9_again (fun o0 o1 o2 o3 o4 o5 o6 o7 o8 o9 => (o0, o1, o2, o3, o4, o5, o6, o7, o8, o9) = F_X9_again p0 no_apron no_basket no_ground no_bruised no_ladder no_helper no_today no_clock pa_undoable pa_keptCells pa_isKept → Q o0 o1 o2 o3 o4 o5 o6 o7 o8 o9) p0 no_apron no_basket no_ground no_bruised no_ladder no_helper no_today no_clock pa_undoable pa_keptCells pa_isKept) : wp_X9_again Q p0 no_apron no_basket no_ground no_bruised no_ladder no_helper no_today no_clock pa_undoable pa_keptCells pa_isKept := dt_X9_again h (fun o eo hp => hp eo)
noncomputable def F_X9_count (p0 : Int32) (tx_length : Int32) (tr_fruits : Int32) (tr_standings : Int32) (tr_worth : Nat → Int32) (no_apron : Int32) (no_basket : Int32) (no_ground : Int32) (no_bruised : Int32) (no_ladder : Int32) (no_today : Int32) (no_clock : Int32) (pa_undoable : Int32) (ro_size : Int32) : Int32 := if p0 = 0 then tr_fruits else (if p0 = 1 then tr_standings else (if p0 = 2 then no_ladder else (if p0 = 3 then no_today else (if p0 = 4 then no_clock else (if p0 = 5 then (F_X0_hanging tr_fruits no_apron no_basket no_ground) else (if p0 = 6 then no_apron else (if p0 = 7 then no_basket else (if p0 = 8 then no_ground else (if p0 = 9 then no_bruised else (if p0 = 10 then (F_X0_worthOf no_basket tr_fruits tr_worth no_bruised) else (if p0 = 11 then pa_undoable else (if p0 = 12 then ro_size else (if p0 = 13 then tx_length else (-100))))))))))))))
set_option maxHeartbeats 200000 in
set_option maxRecDepth 10000 in
theorem dt_X9_count {P Q : Int32 → Prop} {p0 : Int32} {tx_length : Int32} {tr_fruits : Int32} {tr_standings : Int32} {tr_worth : Nat → Int32} {no_apron : Int32} {no_basket : Int32} {no_ground : Int32} {no_bruised : Int32} {no_ladder : Int32} {no_today : Int32} {no_clock : Int32} {pa_undoable : Int32} {ro_size : Int32} (h : wp_X9_count P p0 tx_length tr_fruits tr_standings tr_worth no_apron no_basket no_ground no_bruised no_ladder no_today no_clock pa_undoable ro_size) (hq : ∀ o : Int32, o = F_X9_count p0 tx_length tr_fruits tr_standings tr_worth no_apron no_basket no_ground no_bruised no_ladder no_today no_clock pa_undoable ro_size → P o → Q o) : wp_X9_count Q p0 tx_length tr_fruits tr_standings tr_worth no_apron no_basket no_ground no_bruised no_ladder no_today no_clock pa_undoable ro_size := by
  rw [F_X9_count] at hq
  refine (And.intro (fun c1 => ?_) (And.intro (fun c2 => ?_) (And.intro (fun c3 => ?_) (And.intro (fun c4 => ?_) (And.intro (fun c5 => ?_) (And.intro (fun c6 => ?_) (And.intro (fun c7 => ?_) (And.intro (fun c8 => ?_) (And.intro (fun c9 => ?_) (And.intro (fun c10 => ?_) (And.intro (fun c11 => ?_) (And.intro (fun c12 => ?_) (And.intro (fun c13 => ?_) (And.intro (fun c14 => ?_) (fun c1 c2 c3 c4 c5 c6 c7 c8 c9 c10 c11 c12 c13 c14 => ?_)))))))))))))))
  · have h := And.left h c1
    rw [if_pos c1] at hq
    have q9 := hq _ rfl
    exact q9 h
  · have h := And.left (And.right h) c2
    rw [if_neg (fun e9 => absurd (e9.symm.trans c2) (by decide)), if_pos c2] at hq
    have q9 := hq _ rfl
    exact q9 h
  · have h := And.left (And.right (And.right h)) c3
    rw [if_neg (fun e9 => absurd (e9.symm.trans c3) (by decide)), if_neg (fun e9 => absurd (e9.symm.trans c3) (by decide)), if_pos c3] at hq
    have q9 := hq _ rfl
    exact q9 h
  · have h := And.left (And.right (And.right (And.right h))) c4
    rw [if_neg (fun e9 => absurd (e9.symm.trans c4) (by decide)), if_neg (fun e9 => absurd (e9.symm.trans c4) (by decide)), if_neg (fun e9 => absurd (e9.symm.trans c4) (by decide)), if_pos c4] at hq
    have q9 := hq _ rfl
    exact q9 h
  · have h := And.left (And.right (And.right (And.right (And.right h)))) c5
    rw [if_neg (fun e9 => absurd (e9.symm.trans c5) (by decide)), if_neg (fun e9 => absurd (e9.symm.trans c5) (by decide)), if_neg (fun e9 => absurd (e9.symm.trans c5) (by decide)), if_neg (fun e9 => absurd (e9.symm.trans c5) (by decide)), if_pos c5] at hq
    have q9 := hq _ rfl
    exact q9 h
  · have h := And.left (And.right (And.right (And.right (And.right (And.right h))))) c6
    rw [if_neg (fun e9 => absurd (e9.symm.trans c6) (by decide)), if_neg (fun e9 => absurd (e9.symm.trans c6) (by decide)), if_neg (fun e9 => absurd (e9.symm.trans c6) (by decide)), if_neg (fun e9 => absurd (e9.symm.trans c6) (by decide)), if_neg (fun e9 => absurd (e9.symm.trans c6) (by decide)), if_pos c6] at hq
    refine du_X0_hanging h ?_
    intro h
    have q9 := hq _ rfl
    exact q9 h
  · have h := And.left (And.right (And.right (And.right (And.right (And.right (And.right h)))))) c7
    rw [if_neg (fun e9 => absurd (e9.symm.trans c7) (by decide)), if_neg (fun e9 => absurd (e9.symm.trans c7) (by decide)), if_neg (fun e9 => absurd (e9.symm.trans c7) (by decide)), if_neg (fun e9 => absurd (e9.symm.trans c7) (by decide)), if_neg (fun e9 => absurd (e9.symm.trans c7) (by decide)), if_neg (fun e9 => absurd (e9.symm.trans c7) (by decide)), if_pos c7] at hq
    have q9 := hq _ rfl
    exact q9 h
  · have h := And.left (And.right (And.right (And.right (And.right (And.right (And.right (And.right h))))))) c8
    rw [if_neg (fun e9 => absurd (e9.symm.trans c8) (by decide)), if_neg (fun e9 => absurd (e9.symm.trans c8) (by decide)), if_neg (fun e9 => absurd (e9.symm.trans c8) (by decide)), if_neg (fun e9 => absurd (e9.symm.trans c8) (by decide)), if_neg (fun e9 => absurd (e9.symm.trans c8) (by decide)), if_neg (fun e9 => absurd (e9.symm.trans c8) (by decide)), if_neg (fun e9 => absurd (e9.symm.trans c8) (by decide)), if_pos c8] at hq
    have q9 := hq _ rfl
    exact q9 h
  · have h := And.left (And.right (And.right (And.right (And.right (And.right (And.right (And.right (And.right h)))))))) c9
    rw [if_neg (fun e9 => absurd (e9.symm.trans c9) (by decide)), if_neg (fun e9 => absurd (e9.symm.trans c9) (by decide)), if_neg (fun e9 => absurd (e9.symm.trans c9) (by decide)), if_neg (fun e9 => absurd (e9.symm.trans c9) (by decide)), if_neg (fun e9 => absurd (e9.symm.trans c9) (by decide)), if_neg (fun e9 => absurd (e9.symm.trans c9) (by decide)), if_neg (fun e9 => absurd (e9.symm.trans c9) (by decide)), if_neg (fun e9 => absurd (e9.symm.trans c9) (by decide)), if_pos c9] at hq
    have q9 := hq _ rfl
    exact q9 h
  · have h := And.left (And.right (And.right (And.right (And.right (And.right (And.right (And.right (And.right (And.right h))))))))) c10
    rw [if_neg (fun e9 => absurd (e9.symm.trans c10) (by decide)), if_neg (fun e9 => absurd (e9.symm.trans c10) (by decide)), if_neg (fun e9 => absurd (e9.symm.trans c10) (by decide)), if_neg (fun e9 => absurd (e9.symm.trans c10) (by decide)), if_neg (fun e9 => absurd (e9.symm.trans c10) (by decide)), if_neg (fun e9 => absurd (e9.symm.trans c10) (by decide)), if_neg (fun e9 => absurd (e9.symm.trans c10) (by decide)), if_neg (fun e9 => absurd (e9.symm.trans c10) (by decide)), if_neg (fun e9 => absurd (e9.symm.trans c10) (by decide)), if_pos c10] at hq
    have q9 := hq _ rfl
    exact q9 h
  · have h := And.left (And.right (And.right (And.right (And.right (And.right (And.right (And.right (And.right (And.right (And.right h)))))))))) c11
    rw [if_neg (fun e9 => absurd (e9.symm.trans c11) (by decide)), if_neg (fun e9 => absurd (e9.symm.trans c11) (by decide)), if_neg (fun e9 => absurd (e9.symm.trans c11) (by decide)), if_neg (fun e9 => absurd (e9.symm.trans c11) (by decide)), if_neg (fun e9 => absurd (e9.symm.trans c11) (by decide)), if_neg (fun e9 => absurd (e9.symm.trans c11) (by decide)), if_neg (fun e9 => absurd (e9.symm.trans c11) (by decide)), if_neg (fun e9 => absurd (e9.symm.trans c11) (by decide)), if_neg (fun e9 => absurd (e9.symm.trans c11) (by decide)), if_neg (fun e9 => absurd (e9.symm.trans c11) (by decide)), if_pos c11] at hq
    refine du_X0_worthOf h ?_
    intro h
    have q9 := hq _ rfl
    exact q9 h
  · have h := And.left (And.right (And.right (And.right (And.right (And.right (And.right (And.right (And.right (And.right (And.right (And.right h))))))))))) c12
    rw [if_neg (fun e9 => absurd (e9.symm.trans c12) (by decide)), if_neg (fun e9 => absurd (e9.symm.trans c12) (by decide)), if_neg (fun e9 => absurd (e9.symm.trans c12) (by decide)), if_neg (fun e9 => absurd (e9.symm.trans c12) (by decide)), if_neg (fun e9 => absurd (e9.symm.trans c12) (by decide)), if_neg (fun e9 => absurd (e9.symm.trans c12) (by decide)), if_neg (fun e9 => absurd (e9.symm.trans c12) (by decide)), if_neg (fun e9 => absurd (e9.symm.trans c12) (by decide)), if_neg (fun e9 => absurd (e9.symm.trans c12) (by decide)), if_neg (fun e9 => absurd (e9.symm.trans c12) (by decide)), if_neg (fun e9 => absurd (e9.symm.trans c12) (by decide)), if_pos c12] at hq
    have q9 := hq _ rfl
    exact q9 h
  · have h := And.left (And.right (And.right (And.right (And.right (And.right (And.right (And.right (And.right (And.right (And.right (And.right (And.right h)))))))))))) c13
    rw [if_neg (fun e9 => absurd (e9.symm.trans c13) (by decide)), if_neg (fun e9 => absurd (e9.symm.trans c13) (by decide)), if_neg (fun e9 => absurd (e9.symm.trans c13) (by decide)), if_neg (fun e9 => absurd (e9.symm.trans c13) (by decide)), if_neg (fun e9 => absurd (e9.symm.trans c13) (by decide)), if_neg (fun e9 => absurd (e9.symm.trans c13) (by decide)), if_neg (fun e9 => absurd (e9.symm.trans c13) (by decide)), if_neg (fun e9 => absurd (e9.symm.trans c13) (by decide)), if_neg (fun e9 => absurd (e9.symm.trans c13) (by decide)), if_neg (fun e9 => absurd (e9.symm.trans c13) (by decide)), if_neg (fun e9 => absurd (e9.symm.trans c13) (by decide)), if_neg (fun e9 => absurd (e9.symm.trans c13) (by decide)), if_pos c13] at hq
    have q9 := hq _ rfl
    exact q9 h
  · have h := And.left (And.right (And.right (And.right (And.right (And.right (And.right (And.right (And.right (And.right (And.right (And.right (And.right (And.right h))))))))))))) c14
    rw [if_neg (fun e9 => absurd (e9.symm.trans c14) (by decide)), if_neg (fun e9 => absurd (e9.symm.trans c14) (by decide)), if_neg (fun e9 => absurd (e9.symm.trans c14) (by decide)), if_neg (fun e9 => absurd (e9.symm.trans c14) (by decide)), if_neg (fun e9 => absurd (e9.symm.trans c14) (by decide)), if_neg (fun e9 => absurd (e9.symm.trans c14) (by decide)), if_neg (fun e9 => absurd (e9.symm.trans c14) (by decide)), if_neg (fun e9 => absurd (e9.symm.trans c14) (by decide)), if_neg (fun e9 => absurd (e9.symm.trans c14) (by decide)), if_neg (fun e9 => absurd (e9.symm.trans c14) (by decide)), if_neg (fun e9 => absurd (e9.symm.trans c14) (by decide)), if_neg (fun e9 => absurd (e9.symm.trans c14) (by decide)), if_neg (fun e9 => absurd (e9.symm.trans c14) (by decide)), if_pos c14] at hq
    have q9 := hq _ rfl
    exact q9 h
  · have h := And.right (And.right (And.right (And.right (And.right (And.right (And.right (And.right (And.right (And.right (And.right (And.right (And.right (And.right h))))))))))))) c1 c2 c3 c4 c5 c6 c7 c8 c9 c10 c11 c12 c13 c14
    rw [if_neg c1, if_neg c2, if_neg c3, if_neg c4, if_neg c5, if_neg c6, if_neg c7, if_neg c8, if_neg c9, if_neg c10, if_neg c11, if_neg c12, if_neg c13, if_neg c14] at hq
    have q9 := hq _ rfl
    exact q9 h
theorem du_X9_count {P Q : Int32 → Prop} {p0 : Int32} {tx_length : Int32} {tr_fruits : Int32} {tr_standings : Int32} {tr_worth : Nat → Int32} {no_apron : Int32} {no_basket : Int32} {no_ground : Int32} {no_bruised : Int32} {no_ladder : Int32} {no_today : Int32} {no_clock : Int32} {pa_undoable : Int32} {ro_size : Int32} (h : wp_X9_count P p0 tx_length tr_fruits tr_standings tr_worth no_apron no_basket no_ground no_bruised no_ladder no_today no_clock pa_undoable ro_size) (hq : P (F_X9_count p0 tx_length tr_fruits tr_standings tr_worth no_apron no_basket no_ground no_bruised no_ladder no_today no_clock pa_undoable ro_size) → Q (F_X9_count p0 tx_length tr_fruits tr_standings tr_worth no_apron no_basket no_ground no_bruised no_ladder no_today no_clock pa_undoable ro_size)) : wp_X9_count Q p0 tx_length tr_fruits tr_standings tr_worth no_apron no_basket no_ground no_bruised no_ladder no_today no_clock pa_undoable ro_size := dt_X9_count h (fun o eo => by rw [eo]; exact hq)
theorem dw_X9_count {Q : Int32 → Prop} {p0 : Int32} {tx_length : Int32} {tr_fruits : Int32} {tr_standings : Int32} {tr_worth : Nat → Int32} {no_apron : Int32} {no_basket : Int32} {no_ground : Int32} {no_bruised : Int32} {no_ladder : Int32} {no_today : Int32} {no_clock : Int32} {pa_undoable : Int32} {ro_size : Int32} (h : wp_X9_count (fun o0 => o0 = F_X9_count p0 tx_length tr_fruits tr_standings tr_worth no_apron no_basket no_ground no_bruised no_ladder no_today no_clock pa_undoable ro_size → Q o0) p0 tx_length tr_fruits tr_standings tr_worth no_apron no_basket no_ground no_bruised no_ladder no_today no_clock pa_undoable ro_size) : wp_X9_count Q p0 tx_length tr_fruits tr_standings tr_worth no_apron no_basket no_ground no_bruised no_ladder no_today no_clock pa_undoable ro_size := dt_X9_count h (fun o eo hp => hp eo)
noncomputable def F_X9_row (p0 : Int32) (ro_size : Int32) (ro_numbers : Nat → Int32) : Option Int32 := if p0 < 0 then none else (if p0 < ro_size then (some (ro_numbers p0.toNatClampNeg)) else none)
set_option maxHeartbeats 200000 in
set_option maxRecDepth 10000 in
theorem dt_X9_row {P Q : Int32 → Prop} {Px Qx : Prop} {p0 : Int32} {ro_size : Int32} {ro_numbers : Nat → Int32} (h : wp_X9_row P Px p0 ro_size ro_numbers) (hq : ∀ o : Option Int32, o = F_X9_row p0 ro_size ro_numbers → Option.elim o Px P → Option.elim o Qx Q) : wp_X9_row Q Qx p0 ro_size ro_numbers := by
  rw [F_X9_row] at hq
  refine And.intro (fun c1 => ?_) (fun c1 => ?_)
  · have h := And.left h c1
    rw [if_pos c1] at hq
    have q9 := hq _ rfl
    exact q9 h
  · have h := And.right h c1
    rw [if_neg c1] at hq
    refine And.intro (fun c2 => ?_) (fun c2 => ?_)
    · have h := And.left h c2
      rw [if_pos c2] at hq
      refine And.intro (And.left h) ?_
      have h := And.right h
      have q9 := hq _ rfl
      exact q9 h
    · have h := And.right h c2
      rw [if_neg c2] at hq
      have q9 := hq _ rfl
      exact q9 h
noncomputable def F_X10_end (p0 : Int32) (m_typed : Int32) (m_thrown : Int32) : Int32 × Int32 × Int32 := if (F_X10_in p0 0 m_typed) = 0 then (0, m_typed, 0) else (1, p0, 0)
set_option maxHeartbeats 200000 in
set_option maxRecDepth 10000 in
theorem dt_X10_end {P Q : Int32 → Int32 → Int32 → Prop} {p0 : Int32} {m_typed : Int32} {m_thrown : Int32} (h : wp_X10_end P p0 m_typed m_thrown) (hq : ∀ o : Int32 × Int32 × Int32, o = F_X10_end p0 m_typed m_thrown → P o.1 o.2.1 o.2.2 → Q o.1 o.2.1 o.2.2) : wp_X10_end Q p0 m_typed m_thrown := by
  rw [F_X10_end] at hq
  refine du_X10_in h ?_
  intro h
  refine And.intro (fun c1 => ?_) (fun c1 => ?_)
  · have h := And.left h c1
    rw [if_neg c1] at hq
    have q9 := hq _ rfl
    dsimp only at q9
    exact q9 h
  · have h := And.right h c1
    rw [if_pos c1] at hq
    have q9 := hq _ rfl
    dsimp only at q9
    exact q9 h
theorem du_X10_end {P Q : Int32 → Int32 → Int32 → Prop} {p0 : Int32} {m_typed : Int32} {m_thrown : Int32} (h : wp_X10_end P p0 m_typed m_thrown) (hq : P (F_X10_end p0 m_typed m_thrown).1 (F_X10_end p0 m_typed m_thrown).2.1 (F_X10_end p0 m_typed m_thrown).2.2 → Q (F_X10_end p0 m_typed m_thrown).1 (F_X10_end p0 m_typed m_thrown).2.1 (F_X10_end p0 m_typed m_thrown).2.2) : wp_X10_end Q p0 m_typed m_thrown := dt_X10_end h (fun o eo => by rw [eo]; exact hq)
theorem dw_X10_end {Q : Int32 → Int32 → Int32 → Prop} {p0 : Int32} {m_typed : Int32} {m_thrown : Int32} (h : wp_X10_end (fun o0 o1 o2 => (o0, o1, o2) = F_X10_end p0 m_typed m_thrown → Q o0 o1 o2) p0 m_typed m_thrown) : wp_X10_end Q p0 m_typed m_thrown := dt_X10_end h (fun o eo hp => hp eo)
noncomputable def F_X10_valueOf (p0 : Int32) (m_askedFruit : Int32) (m_askedStanding : Int32) (m_askedHook : Int32) (m_askedApron : Int32) (m_x : Nat → Int32) (m_height : Nat → Int32) (m_worth : Nat → Int32) (m_foot : Nat → Int32) (m_fork : Nat → Int32) : Int32 := if p0 = 100 then (F_X10_far m_askedFruit m_askedStanding m_x m_foot) else (if p0 = 107 then m_askedApron else (if p0 = 115 then m_askedStanding else (if p0 = 117 then (F_X10_above m_askedFruit m_askedStanding m_height m_fork) else (if p0 = 119 then (m_worth m_askedFruit.toNatClampNeg) else (if p0 = 121 then (m_height m_askedFruit.toNatClampNeg) else m_askedHook)))))
set_option maxHeartbeats 200000 in
set_option maxRecDepth 10000 in
theorem dt_X10_valueOf {P Q : Int32 → Prop} {p0 : Int32} {m_askedFruit : Int32} {m_askedStanding : Int32} {m_askedHook : Int32} {m_askedApron : Int32} {m_x : Nat → Int32} {m_height : Nat → Int32} {m_worth : Nat → Int32} {m_foot : Nat → Int32} {m_fork : Nat → Int32} (h : wp_X10_valueOf P p0 m_askedFruit m_askedStanding m_askedHook m_askedApron m_x m_height m_worth m_foot m_fork) (hq : ∀ o : Int32, o = F_X10_valueOf p0 m_askedFruit m_askedStanding m_askedHook m_askedApron m_x m_height m_worth m_foot m_fork → P o → Q o) : wp_X10_valueOf Q p0 m_askedFruit m_askedStanding m_askedHook m_askedApron m_x m_height m_worth m_foot m_fork := by
  rw [F_X10_valueOf] at hq
  refine (And.intro (fun c1 => ?_) (And.intro (fun c2 => ?_) (And.intro (fun c3 => ?_) (And.intro (fun c4 => ?_) (And.intro (fun c5 => ?_) (And.intro (fun c6 => ?_) (fun c1 c2 c3 c4 c5 c6 => ?_)))))))
  · have h := And.left h c1
    rw [if_pos c1] at hq
    refine du_X10_far h ?_
    intro h
    have q9 := hq _ rfl
    exact q9 h
  · have h := And.left (And.right h) c2
    rw [if_neg (fun e9 => absurd (e9.symm.trans c2) (by decide)), if_pos c2] at hq
    have q9 := hq _ rfl
    exact q9 h
  · have h := And.left (And.right (And.right h)) c3
    rw [if_neg (fun e9 => absurd (e9.symm.trans c3) (by decide)), if_neg (fun e9 => absurd (e9.symm.trans c3) (by decide)), if_pos c3] at hq
    have q9 := hq _ rfl
    exact q9 h
  · have h := And.left (And.right (And.right (And.right h))) c4
    rw [if_neg (fun e9 => absurd (e9.symm.trans c4) (by decide)), if_neg (fun e9 => absurd (e9.symm.trans c4) (by decide)), if_neg (fun e9 => absurd (e9.symm.trans c4) (by decide)), if_pos c4] at hq
    refine du_X10_above h ?_
    intro h
    have q9 := hq _ rfl
    exact q9 h
  · have h := And.left (And.right (And.right (And.right (And.right h)))) c5
    rw [if_neg (fun e9 => absurd (e9.symm.trans c5) (by decide)), if_neg (fun e9 => absurd (e9.symm.trans c5) (by decide)), if_neg (fun e9 => absurd (e9.symm.trans c5) (by decide)), if_neg (fun e9 => absurd (e9.symm.trans c5) (by decide)), if_pos c5] at hq
    refine And.intro (And.left h) ?_
    have h := And.right h
    have q9 := hq _ rfl
    exact q9 h
  · have h := And.left (And.right (And.right (And.right (And.right (And.right h))))) c6
    rw [if_neg (fun e9 => absurd (e9.symm.trans c6) (by decide)), if_neg (fun e9 => absurd (e9.symm.trans c6) (by decide)), if_neg (fun e9 => absurd (e9.symm.trans c6) (by decide)), if_neg (fun e9 => absurd (e9.symm.trans c6) (by decide)), if_neg (fun e9 => absurd (e9.symm.trans c6) (by decide)), if_pos c6] at hq
    refine And.intro (And.left h) ?_
    have h := And.right h
    have q9 := hq _ rfl
    exact q9 h
  · have h := And.right (And.right (And.right (And.right (And.right (And.right h))))) c1 c2 c3 c4 c5 c6
    rw [if_neg c1, if_neg c2, if_neg c3, if_neg c4, if_neg c5, if_neg c6] at hq
    have q9 := hq _ rfl
    exact q9 h
theorem du_X10_valueOf {P Q : Int32 → Prop} {p0 : Int32} {m_askedFruit : Int32} {m_askedStanding : Int32} {m_askedHook : Int32} {m_askedApron : Int32} {m_x : Nat → Int32} {m_height : Nat → Int32} {m_worth : Nat → Int32} {m_foot : Nat → Int32} {m_fork : Nat → Int32} (h : wp_X10_valueOf P p0 m_askedFruit m_askedStanding m_askedHook m_askedApron m_x m_height m_worth m_foot m_fork) (hq : P (F_X10_valueOf p0 m_askedFruit m_askedStanding m_askedHook m_askedApron m_x m_height m_worth m_foot m_fork) → Q (F_X10_valueOf p0 m_askedFruit m_askedStanding m_askedHook m_askedApron m_x m_height m_worth m_foot m_fork)) : wp_X10_valueOf Q p0 m_askedFruit m_askedStanding m_askedHook m_askedApron m_x m_height m_worth m_foot m_fork := dt_X10_valueOf h (fun o eo => by rw [eo]; exact hq)
theorem dw_X10_valueOf {Q : Int32 → Prop} {p0 : Int32} {m_askedFruit : Int32} {m_askedStanding : Int32} {m_askedHook : Int32} {m_askedApron : Int32} {m_x : Nat → Int32} {m_height : Nat → Int32} {m_worth : Nat → Int32} {m_foot : Nat → Int32} {m_fork : Nat → Int32} (h : wp_X10_valueOf (fun o0 => o0 = F_X10_valueOf p0 m_askedFruit m_askedStanding m_askedHook m_askedApron m_x m_height m_worth m_foot m_fork → Q o0) p0 m_askedFruit m_askedStanding m_askedHook m_askedApron m_x m_height m_worth m_foot m_fork) : wp_X10_valueOf Q p0 m_askedFruit m_askedStanding m_askedHook m_askedApron m_x m_height m_worth m_foot m_fork := dt_X10_valueOf h (fun o eo hp => hp eo)
noncomputable def j_X10_which_31 {R : Type} (k5 : Int32 → Int32 → Int32 → R) (m_fruits : Int32) (m_now : Nat → Int32) (x2 : Int32) (x4 : Int32) (k0 : Int32) (k1 : Int32) : R := k5 x2 (k0 ||| k1) (x4 + 1)
noncomputable def bd_X10_which_5 (m_fruits : Int32) (m_now : Nat → Int32) (x2 : Int32) (c : Int32) (s : Int32) : Int32 := if (m_now c.toNatClampNeg) = x2 then (j_X10_which_31 (fun q0 q1 q2 => q1) m_fruits m_now x2 c s (1 <<< (c &&& 31))) else (j_X10_which_31 (fun q0 q1 q2 => q1) m_fruits m_now x2 c s 0)
noncomputable def ex_X10_which_5 {R : Type} (po : Int32 → R) (m_fruits : Int32) (m_now : Nat → Int32) (x2 : Int32) (c : Int32) (s : Int32) : R := po s
set_option maxHeartbeats 200000 in
set_option maxRecDepth 10000 in
theorem dl_X10_which_5 {P Q : Int32 → Prop} {m_fruits : Int32} {m_now : Nat → Int32} {x2 : Int32} {a : Int32} {i : Nat} (hi0 : i < 2147483648) (hE : ∀ (c : Int32) (s : Int32), c = nI (i + (Int32.toInt m_fruits - ((i : Nat) : Int)).toNat) → s = itr (bd_X10_which_5 m_fruits m_now x2) a i (Int32.toInt m_fruits - ((i : Nat) : Int)).toNat → (P s) → (Q s)) : ∀ (n k : Nat) (c : Int32), c = nI (i + k) → k ≤ (Int32.toInt m_fruits - ((i : Nat) : Int)).toNat → wb_X10_which_5 P m_fruits m_now n x2 (itr (bd_X10_which_5 m_fruits m_now x2) a i k) c → wb_X10_which_5 Q m_fruits m_now n x2 (itr (bd_X10_which_5 m_fruits m_now x2) a i k) c := by
  intro n
  induction n with
  | zero => intro k c hc hk h; exact False.elim h
  | succ n ih =>
    intro k c hc hk h
    have hr := tp_r m_fruits
    have hi : Int32.toInt c = ((i + k : Nat) : Int) := by rw [hc]; exact nI_toInt (by omega)
    refine And.intro (fun t0 => ?_) (fun t0 => ?_)
    · have h := And.left h t0
      have t1 := (fa_le _ _).mp t0
      have hk2 : k = (Int32.toInt m_fruits - ((i : Nat) : Int)).toNat := by omega
      subst hk2
      exact hE _ _ hc rfl h
    · have h := And.right h t0
      have t1 := mt (fa_le _ _).mpr t0
      have hs : ∀ o : Int32, o = itr (bd_X10_which_5 m_fruits m_now x2) a i (k + 1) → wb_X10_which_5 P m_fruits m_now n x2 o (c + 1) → wb_X10_which_5 Q m_fruits m_now n x2 o (c + 1) := by
        intro o eo h9
        have q := ih (k + 1) (c + 1) (by rw [hc]; exact nI_1 _) (by omega)
        rw [← eo] at q
        exact q h9
      rw [itr_s, ← hc, bd_X10_which_5] at hs
      refine And.intro (And.left h) ?_
      have h := And.right h
      refine ae ?_
      have h := h _ rfl
      refine And.intro (fun c1 => ?_) (fun c1 => ?_)
      · have h := And.left h c1
        rw [if_neg c1] at hs
        rw [j_X10_which_31] at hs
        unfold ws_X10_which_31 at h ⊢
        refine ae ?_
        have h := h _ rfl
        refine ae ?_
        have h := h _ rfl
        have q9 := hs _ rfl
        exact q9 h
      · have h := And.right h c1
        rw [if_pos c1] at hs
        refine ae ?_
        have h := h _ rfl
        rw [j_X10_which_31] at hs
        unfold ws_X10_which_31 at h ⊢
        refine ae ?_
        have h := h _ rfl
        refine ae ?_
        have h := h _ rfl
        have q9 := hs _ rfl
        exact q9 h
noncomputable def F_X10_which (p1 : Int32) (m_fruits : Int32) (m_now : Nat → Int32) : Int32 := ex_X10_which_5 (fun o0 => o0) m_fruits m_now p1 (nI (0 + (Int32.toInt m_fruits - ((0 : Nat) : Int)).toNat)) (itr (bd_X10_which_5 m_fruits m_now p1) 0 0 (Int32.toInt m_fruits - ((0 : Nat) : Int)).toNat)
set_option maxHeartbeats 200000 in
set_option maxRecDepth 10000 in
theorem dt_X10_which {P Q : Int32 → Prop} {p1 : Int32} {m_fruits : Int32} {m_now : Nat → Int32} (h : wp_X10_which P p1 m_fruits m_now) (hq : ∀ o : Int32, o = F_X10_which p1 m_fruits m_now → P o → Q o) : wp_X10_which Q p1 m_fruits m_now := by
  rw [F_X10_which] at hq
  obtain ⟨n1, h⟩ := h
  refine ⟨n1, dl_X10_which_5 (a := 0) (i := 0) (by decide) ?_ n1 0 0 (by decide) (Nat.zero_le _) h⟩
  intro cc2 s3 ec4 es5 h
  rw [← ec4, ← es5, ex_X10_which_5] at hq
  have q9 := hq _ rfl
  exact q9 h
theorem du_X10_which {P Q : Int32 → Prop} {p1 : Int32} {m_fruits : Int32} {m_now : Nat → Int32} (h : wp_X10_which P p1 m_fruits m_now) (hq : P (F_X10_which p1 m_fruits m_now) → Q (F_X10_which p1 m_fruits m_now)) : wp_X10_which Q p1 m_fruits m_now := dt_X10_which h (fun o eo => by rw [eo]; exact hq)
theorem dw_X10_which {Q : Int32 → Prop} {p1 : Int32} {m_fruits : Int32} {m_now : Nat → Int32} (h : wp_X10_which (fun o0 => o0 = F_X10_which p1 m_fruits m_now → Q o0) p1 m_fruits m_now) : wp_X10_which Q p1 m_fruits m_now := dt_X10_which h (fun o eo hp => hp eo)
noncomputable def F_X10_has (p0 : Int32) (p1 : Int32) : Int32 := if ((p0 >>> (p1 &&& 31)) &&& 1) = 1 then 1 else 0
set_option maxHeartbeats 200000 in
set_option maxRecDepth 10000 in
theorem dt_X10_has {P Q : Int32 → Prop} {p0 : Int32} {p1 : Int32} (h : wp_X10_has P p0 p1) (hq : ∀ o : Int32, o = F_X10_has p0 p1 → P o → Q o) : wp_X10_has Q p0 p1 := by
  rw [F_X10_has] at hq
  refine ae ?_
  have h := h _ rfl
  refine ae ?_
  have h := h _ rfl
  refine And.intro (fun c1 => ?_) (fun c1 => ?_)
  · have h := And.left h c1
    rw [if_neg c1] at hq
    have q9 := hq _ rfl
    exact q9 h
  · have h := And.right h c1
    rw [if_pos c1] at hq
    have q9 := hq _ rfl
    exact q9 h
theorem du_X10_has {P Q : Int32 → Prop} {p0 : Int32} {p1 : Int32} (h : wp_X10_has P p0 p1) (hq : P (F_X10_has p0 p1) → Q (F_X10_has p0 p1)) : wp_X10_has Q p0 p1 := dt_X10_has h (fun o eo => by rw [eo]; exact hq)
theorem dw_X10_has {Q : Int32 → Prop} {p0 : Int32} {p1 : Int32} (h : wp_X10_has (fun o0 => o0 = F_X10_has p0 p1 → Q o0) p0 p1) : wp_X10_has Q p0 p1 := dt_X10_has h (fun o eo hp => hp eo)
noncomputable def F_X10_isBelow (p0 : Int32) (p1 : Int32) (m_x : Nat → Int32) (m_height : Nat → Int32) : Int32 := if 1 < (if 0 ≤ ((m_x p1.toNatClampNeg) - (m_x p0.toNatClampNeg)) then ((m_x p1.toNatClampNeg) - (m_x p0.toNatClampNeg)) else 0 - ((m_x p1.toNatClampNeg) - (m_x p0.toNatClampNeg))) then 0 else (if (m_height p1.toNatClampNeg) ≤ (m_height p0.toNatClampNeg) then 0 else 1)
set_option maxHeartbeats 200000 in
set_option maxRecDepth 10000 in
theorem dt_X10_isBelow {P Q : Int32 → Prop} {p0 : Int32} {p1 : Int32} {m_x : Nat → Int32} {m_height : Nat → Int32} (h : wp_X10_isBelow P p0 p1 m_x m_height) (hq : ∀ o : Int32, o = F_X10_isBelow p0 p1 m_x m_height → P o → Q o) : wp_X10_isBelow Q p0 p1 m_x m_height := by
  rw [F_X10_isBelow] at hq
  refine And.intro (And.left h) ?_
  have h := And.right h
  refine ae ?_
  have h := h _ rfl
  refine And.intro (And.left h) ?_
  have h := And.right h
  refine ae ?_
  have h := h _ rfl
  refine ae ?_
  have h := h _ rfl
  refine And.intro (fun c1 => ?_) (fun c1 => ?_)
  · have h := And.left h c1
    rw [if_pos c1] at hq
    have q9 := hq _ rfl
    exact q9 h
  · have h := And.right h c1
    rw [if_neg c1] at hq
    refine And.intro (And.left h) ?_
    have h := And.right h
    refine ae ?_
    have h := h _ rfl
    refine And.intro (And.left h) ?_
    have h := And.right h
    refine And.intro (fun c2 => ?_) (fun c2 => ?_)
    · have h := And.left h c2
      rw [if_pos c2] at hq
      have q9 := hq _ rfl
      exact q9 h
    · have h := And.right h c2
      rw [if_neg c2] at hq
      have q9 := hq _ rfl
      exact q9 h
theorem du_X10_isBelow {P Q : Int32 → Prop} {p0 : Int32} {p1 : Int32} {m_x : Nat → Int32} {m_height : Nat → Int32} (h : wp_X10_isBelow P p0 p1 m_x m_height) (hq : P (F_X10_isBelow p0 p1 m_x m_height) → Q (F_X10_isBelow p0 p1 m_x m_height)) : wp_X10_isBelow Q p0 p1 m_x m_height := dt_X10_isBelow h (fun o eo => by rw [eo]; exact hq)
theorem dw_X10_isBelow {Q : Int32 → Prop} {p0 : Int32} {p1 : Int32} {m_x : Nat → Int32} {m_height : Nat → Int32} (h : wp_X10_isBelow (fun o0 => o0 = F_X10_isBelow p0 p1 m_x m_height → Q o0) p0 p1 m_x m_height) : wp_X10_isBelow Q p0 p1 m_x m_height := dt_X10_isBelow h (fun o eo hp => hp eo)
noncomputable def j_X10_below_42 {R : Type} (k5 : Int32 → Int32 → Int32 → Int32 → R) (m_fruits : Int32) (m_x : Nat → Int32) (m_height : Nat → Int32) (x1 : Int32) (x2 : Int32) (x4 : Int32) (k0 : Int32) (k1 : Int32) : R := k5 x1 x2 (k0 ||| k1) (x4 + 1)
noncomputable def j_X10_below_41 {R : Type} (k5 : Int32 → Int32 → Int32 → Int32 → R) (m_fruits : Int32) (m_x : Nat → Int32) (m_height : Nat → Int32) (x1 : Int32) (x2 : Int32) (x4 : Int32) (k0 : Int32) : R := j_X10_below_42 k5 m_fruits m_x m_height x1 x2 x4 k0 0
noncomputable def bd_X10_below_5 (m_fruits : Int32) (m_x : Nat → Int32) (m_height : Nat → Int32) (x1 : Int32) (x2 : Int32) (c : Int32) (s : Int32) : Int32 := if (F_X10_has x2 c) = 0 then (j_X10_below_41 (fun q0 q1 q2 q3 => q2) m_fruits m_x m_height x1 x2 c s) else (if (F_X10_isBelow c x1 m_x m_height) = 0 then (j_X10_below_41 (fun q0 q1 q2 q3 => q2) m_fruits m_x m_height x1 x2 c s) else (j_X10_below_42 (fun q0 q1 q2 q3 => q2) m_fruits m_x m_height x1 x2 c s (1 <<< (c &&& 31))))
noncomputable def ex_X10_below_5 {R : Type} (po : Int32 → R) (m_fruits : Int32) (m_x : Nat → Int32) (m_height : Nat → Int32) (x1 : Int32) (x2 : Int32) (c : Int32) (s : Int32) : R := po s
set_option maxHeartbeats 200000 in
set_option maxRecDepth 10000 in
theorem dl_X10_below_5 {P Q : Int32 → Prop} {m_fruits : Int32} {m_x : Nat → Int32} {m_height : Nat → Int32} {x1 : Int32} {x2 : Int32} {a : Int32} {i : Nat} (hi0 : i < 2147483648) (hE : ∀ (c : Int32) (s : Int32), c = nI (i + (Int32.toInt m_fruits - ((i : Nat) : Int)).toNat) → s = itr (bd_X10_below_5 m_fruits m_x m_height x1 x2) a i (Int32.toInt m_fruits - ((i : Nat) : Int)).toNat → (P s) → (Q s)) : ∀ (n k : Nat) (c : Int32), c = nI (i + k) → k ≤ (Int32.toInt m_fruits - ((i : Nat) : Int)).toNat → wb_X10_below_5 P m_fruits m_x m_height n x1 x2 (itr (bd_X10_below_5 m_fruits m_x m_height x1 x2) a i k) c → wb_X10_below_5 Q m_fruits m_x m_height n x1 x2 (itr (bd_X10_below_5 m_fruits m_x m_height x1 x2) a i k) c := by
  intro n
  induction n with
  | zero => intro k c hc hk h; exact False.elim h
  | succ n ih =>
    intro k c hc hk h
    have hr := tp_r m_fruits
    have hi : Int32.toInt c = ((i + k : Nat) : Int) := by rw [hc]; exact nI_toInt (by omega)
    refine And.intro (fun t0 => ?_) (fun t0 => ?_)
    · have h := And.left h t0
      have t1 := (fa_le _ _).mp t0
      have hk2 : k = (Int32.toInt m_fruits - ((i : Nat) : Int)).toNat := by omega
      subst hk2
      exact hE _ _ hc rfl h
    · have h := And.right h t0
      have t1 := mt (fa_le _ _).mpr t0
      have hs : ∀ o : Int32, o = itr (bd_X10_below_5 m_fruits m_x m_height x1 x2) a i (k + 1) → wb_X10_below_5 P m_fruits m_x m_height n x1 x2 o (c + 1) → wb_X10_below_5 Q m_fruits m_x m_height n x1 x2 o (c + 1) := by
        intro o eo h9
        have q := ih (k + 1) (c + 1) (by rw [hc]; exact nI_1 _) (by omega)
        rw [← eo] at q
        exact q h9
      rw [itr_s, ← hc, bd_X10_below_5] at hs
      refine du_X10_has h ?_
      intro h
      refine And.intro (fun c1 => ?_) (fun c1 => ?_)
      · have h := And.left h c1
        rw [if_pos c1] at hs
        rw [j_X10_below_41] at hs
        unfold ws_X10_below_41 at h ⊢
        rw [j_X10_below_42] at hs
        unfold ws_X10_below_42 at h ⊢
        refine ae ?_
        have h := h _ rfl
        refine ae ?_
        have h := h _ rfl
        have q9 := hs _ rfl
        exact q9 h
      · have h := And.right h c1
        rw [if_neg c1] at hs
        refine du_X10_isBelow h ?_
        intro h
        refine And.intro (fun c2 => ?_) (fun c2 => ?_)
        · have h := And.left h c2
          rw [if_pos c2] at hs
          rw [j_X10_below_41] at hs
          unfold ws_X10_below_41 at h ⊢
          rw [j_X10_below_42] at hs
          unfold ws_X10_below_42 at h ⊢
          refine ae ?_
          have h := h _ rfl
          refine ae ?_
          have h := h _ rfl
          have q9 := hs _ rfl
          exact q9 h
        · have h := And.right h c2
          rw [if_neg c2] at hs
          refine ae ?_
          have h := h _ rfl
          rw [j_X10_below_42] at hs
          unfold ws_X10_below_42 at h ⊢
          refine ae ?_
          have h := h _ rfl
          refine ae ?_
          have h := h _ rfl
          have q9 := hs _ rfl
          exact q9 h
noncomputable def F_X10_below (p0 : Int32) (p1 : Int32) (m_fruits : Int32) (m_x : Nat → Int32) (m_height : Nat → Int32) : Int32 := ex_X10_below_5 (fun o0 => o0) m_fruits m_x m_height p0 p1 (nI (0 + (Int32.toInt m_fruits - ((0 : Nat) : Int)).toNat)) (itr (bd_X10_below_5 m_fruits m_x m_height p0 p1) 0 0 (Int32.toInt m_fruits - ((0 : Nat) : Int)).toNat)
set_option maxHeartbeats 200000 in
set_option maxRecDepth 10000 in
theorem dt_X10_below {P Q : Int32 → Prop} {p0 : Int32} {p1 : Int32} {m_fruits : Int32} {m_x : Nat → Int32} {m_height : Nat → Int32} (h : wp_X10_below P p0 p1 m_fruits m_x m_height) (hq : ∀ o : Int32, o = F_X10_below p0 p1 m_fruits m_x m_height → P o → Q o) : wp_X10_below Q p0 p1 m_fruits m_x m_height := by
  rw [F_X10_below] at hq
  obtain ⟨n1, h⟩ := h
  refine ⟨n1, dl_X10_below_5 (a := 0) (i := 0) (by decide) ?_ n1 0 0 (by decide) (Nat.zero_le _) h⟩
  intro cc2 s3 ec4 es5 h
  rw [← ec4, ← es5, ex_X10_below_5] at hq
  have q9 := hq _ rfl
  exact q9 h
theorem du_X10_below {P Q : Int32 → Prop} {p0 : Int32} {p1 : Int32} {m_fruits : Int32} {m_x : Nat → Int32} {m_height : Nat → Int32} (h : wp_X10_below P p0 p1 m_fruits m_x m_height) (hq : P (F_X10_below p0 p1 m_fruits m_x m_height) → Q (F_X10_below p0 p1 m_fruits m_x m_height)) : wp_X10_below Q p0 p1 m_fruits m_x m_height := dt_X10_below h (fun o eo => by rw [eo]; exact hq)
theorem dw_X10_below {Q : Int32 → Prop} {p0 : Int32} {p1 : Int32} {m_fruits : Int32} {m_x : Nat → Int32} {m_height : Nat → Int32} (h : wp_X10_below (fun o0 => o0 = F_X10_below p0 p1 m_fruits m_x m_height → Q o0) p0 p1 m_fruits m_x m_height) : wp_X10_below Q p0 p1 m_fruits m_x m_height := dt_X10_below h (fun o eo hp => hp eo)
noncomputable def j_X10_fruit_23 {R : Type} (po : Int32 → Int32 → R) (m_fruits : Int32) (m_now : Nat → Int32) (m_x : Nat → Int32) (m_height : Nat → Int32) (m_worth : Nat → Int32) (m_ripe : Nat → Int32) (m_thrown : Int32) : R := po ((F_X10_lost m_thrown).1) ((F_X10_lost m_thrown).2)
noncomputable def F_X10_fruit (p0 : Int32) (p1 : Int32) (m_fruits : Int32) (m_thrown : Int32) (m_now : Nat → Int32) (m_x : Nat → Int32) (m_height : Nat → Int32) (m_worth : Nat → Int32) (m_ripe : Nat → Int32) : Int32 × Int32 := if (F_X10_isFruit p0 m_fruits) = 0 then (j_X10_fruit_23 (fun o0 o1 => (o0, o1)) m_fruits m_now m_x m_height m_worth m_ripe 0) else (if (F_X10_in p1 0 6) = 0 then (j_X10_fruit_23 (fun o0 o1 => (o0, o1)) m_fruits m_now m_x m_height m_worth m_ripe 0) else (if p1 = 0 then ((m_x p0.toNatClampNeg), 0) else (if p1 = 1 then ((m_height p0.toNatClampNeg), 0) else (if p1 = 2 then ((m_worth p0.toNatClampNeg), 0) else (if p1 = 3 then ((m_ripe p0.toNatClampNeg), 0) else (if p1 = 4 then ((m_now p0.toNatClampNeg), 0) else (if p1 = 5 then ((((m_now (16 : Int32).toNatClampNeg) >>> (p0 &&& 31)) &&& 1), 0) else (if (m_now p0.toNatClampNeg) = 0 then ((F_X10_below p0 (F_X10_which 0 m_fruits m_now) m_fruits m_x m_height), 0) else (0, 0)))))))))
set_option maxHeartbeats 200000 in
set_option maxRecDepth 10000 in
theorem dt_X10_fruit {P Q : Int32 → Int32 → Prop} {p0 : Int32} {p1 : Int32} {m_fruits : Int32} {m_thrown : Int32} {m_now : Nat → Int32} {m_x : Nat → Int32} {m_height : Nat → Int32} {m_worth : Nat → Int32} {m_ripe : Nat → Int32} (h : wp_X10_fruit P p0 p1 m_fruits m_thrown m_now m_x m_height m_worth m_ripe) (hq : ∀ o : Int32 × Int32, o = F_X10_fruit p0 p1 m_fruits m_thrown m_now m_x m_height m_worth m_ripe → P o.1 o.2 → Q o.1 o.2) : wp_X10_fruit Q p0 p1 m_fruits m_thrown m_now m_x m_height m_worth m_ripe := by
  rw [F_X10_fruit] at hq
  refine du_X10_isFruit h ?_
  intro h
  refine And.intro (fun c1 => ?_) (fun c1 => ?_)
  · have h := And.left h c1
    rw [if_pos c1] at hq
    rw [j_X10_fruit_23] at hq
    unfold ws_X10_fruit_23 at h ⊢
    refine du_X10_lost h ?_
    intro h
    have q9 := hq _ rfl
    dsimp only at q9
    exact q9 h
  · have h := And.right h c1
    rw [if_neg c1] at hq
    refine du_X10_in h ?_
    intro h
    refine And.intro (fun c2 => ?_) (fun c2 => ?_)
    · have h := And.left h c2
      rw [if_neg c2] at hq
      refine (And.intro (fun c3 => ?_) (And.intro (fun c4 => ?_) (And.intro (fun c5 => ?_) (And.intro (fun c6 => ?_) (And.intro (fun c7 => ?_) (And.intro (fun c8 => ?_) (fun c3 c4 c5 c6 c7 c8 => ?_)))))))
      · have h := And.left h c3
        rw [if_pos c3] at hq
        refine And.intro (And.left h) ?_
        have h := And.right h
        have q9 := hq _ rfl
        dsimp only at q9
        exact q9 h
      · have h := And.left (And.right h) c4
        rw [if_neg (fun e9 => absurd (e9.symm.trans c4) (by decide)), if_pos c4] at hq
        refine And.intro (And.left h) ?_
        have h := And.right h
        have q9 := hq _ rfl
        dsimp only at q9
        exact q9 h
      · have h := And.left (And.right (And.right h)) c5
        rw [if_neg (fun e9 => absurd (e9.symm.trans c5) (by decide)), if_neg (fun e9 => absurd (e9.symm.trans c5) (by decide)), if_pos c5] at hq
        refine And.intro (And.left h) ?_
        have h := And.right h
        have q9 := hq _ rfl
        dsimp only at q9
        exact q9 h
      · have h := And.left (And.right (And.right (And.right h))) c6
        rw [if_neg (fun e9 => absurd (e9.symm.trans c6) (by decide)), if_neg (fun e9 => absurd (e9.symm.trans c6) (by decide)), if_neg (fun e9 => absurd (e9.symm.trans c6) (by decide)), if_pos c6] at hq
        refine And.intro (And.left h) ?_
        have h := And.right h
        have q9 := hq _ rfl
        dsimp only at q9
        exact q9 h
      · have h := And.left (And.right (And.right (And.right (And.right h)))) c7
        rw [if_neg (fun e9 => absurd (e9.symm.trans c7) (by decide)), if_neg (fun e9 => absurd (e9.symm.trans c7) (by decide)), if_neg (fun e9 => absurd (e9.symm.trans c7) (by decide)), if_neg (fun e9 => absurd (e9.symm.trans c7) (by decide)), if_pos c7] at hq
        refine And.intro (And.left h) ?_
        have h := And.right h
        have q9 := hq _ rfl
        dsimp only at q9
        exact q9 h
      · have h := And.left (And.right (And.right (And.right (And.right (And.right h))))) c8
        rw [if_neg (fun e9 => absurd (e9.symm.trans c8) (by decide)), if_neg (fun e9 => absurd (e9.symm.trans c8) (by decide)), if_neg (fun e9 => absurd (e9.symm.trans c8) (by decide)), if_neg (fun e9 => absurd (e9.symm.trans c8) (by decide)), if_neg (fun e9 => absurd (e9.symm.trans c8) (by decide)), if_pos c8] at hq
        refine ae ?_
        have h := h _ rfl
        refine ae ?_
        have h := h _ rfl
        have q9 := hq _ rfl
        dsimp only at q9
        exact q9 h
      · have h := And.right (And.right (And.right (And.right (And.right (And.right h))))) c3 c4 c5 c6 c7 c8
        rw [if_neg c3, if_neg c4, if_neg c5, if_neg c6, if_neg c7, if_neg c8] at hq
        refine And.intro (And.left h) ?_
        have h := And.right h
        refine And.intro (fun c9 => ?_) (fun c9 => ?_)
        · have h := And.left h c9
          rw [if_neg c9] at hq
          have q9 := hq _ rfl
          dsimp only at q9
          exact q9 h
        · have h := And.right h c9
          rw [if_pos c9] at hq
          refine du_X10_which h ?_
          intro h
          refine du_X10_below h ?_
          intro h
          have q9 := hq _ rfl
          dsimp only at q9
          exact q9 h
    · have h := And.right h c2
      rw [if_pos c2] at hq
      rw [j_X10_fruit_23] at hq
      unfold ws_X10_fruit_23 at h ⊢
      refine du_X10_lost h ?_
      intro h
      have q9 := hq _ rfl
      dsimp only at q9
      exact q9 h
theorem du_X10_fruit {P Q : Int32 → Int32 → Prop} {p0 : Int32} {p1 : Int32} {m_fruits : Int32} {m_thrown : Int32} {m_now : Nat → Int32} {m_x : Nat → Int32} {m_height : Nat → Int32} {m_worth : Nat → Int32} {m_ripe : Nat → Int32} (h : wp_X10_fruit P p0 p1 m_fruits m_thrown m_now m_x m_height m_worth m_ripe) (hq : P (F_X10_fruit p0 p1 m_fruits m_thrown m_now m_x m_height m_worth m_ripe).1 (F_X10_fruit p0 p1 m_fruits m_thrown m_now m_x m_height m_worth m_ripe).2 → Q (F_X10_fruit p0 p1 m_fruits m_thrown m_now m_x m_height m_worth m_ripe).1 (F_X10_fruit p0 p1 m_fruits m_thrown m_now m_x m_height m_worth m_ripe).2) : wp_X10_fruit Q p0 p1 m_fruits m_thrown m_now m_x m_height m_worth m_ripe := dt_X10_fruit h (fun o eo => by rw [eo]; exact hq)
theorem dw_X10_fruit {Q : Int32 → Int32 → Prop} {p0 : Int32} {p1 : Int32} {m_fruits : Int32} {m_thrown : Int32} {m_now : Nat → Int32} {m_x : Nat → Int32} {m_height : Nat → Int32} {m_worth : Nat → Int32} {m_ripe : Nat → Int32} (h : wp_X10_fruit (fun o0 o1 => (o0, o1) = F_X10_fruit p0 p1 m_fruits m_thrown m_now m_x m_height m_worth m_ripe → Q o0 o1) p0 p1 m_fruits m_thrown m_now m_x m_height m_worth m_ripe) : wp_X10_fruit Q p0 p1 m_fruits m_thrown m_now m_x m_height m_worth m_ripe := dt_X10_fruit h (fun o eo hp => hp eo)
noncomputable def F_X10_refusesMove (p0 : Int32) (m_standings : Int32) (m_now : Nat → Int32) : Int32 := if (F_X10_isStanding p0 m_standings) = 0 then (-1) else (if (m_now (17 : Int32).toNatClampNeg) = p0 then (-2) else 0)
set_option maxHeartbeats 200000 in
set_option maxRecDepth 10000 in
theorem dt_X10_refusesMove {P Q : Int32 → Prop} {p0 : Int32} {m_standings : Int32} {m_now : Nat → Int32} (h : wp_X10_refusesMove P p0 m_standings m_now) (hq : ∀ o : Int32, o = F_X10_refusesMove p0 m_standings m_now → P o → Q o) : wp_X10_refusesMove Q p0 m_standings m_now := by
  rw [F_X10_refusesMove] at hq
  refine du_X10_isStanding h ?_
  intro h
  refine And.intro (fun c1 => ?_) (fun c1 => ?_)
  · have h := And.left h c1
    rw [if_neg c1] at hq
    refine ae ?_
    have h := h _ rfl
    refine And.intro (fun c2 => ?_) (fun c2 => ?_)
    · have h := And.left h c2
      rw [if_neg c2] at hq
      have q9 := hq _ rfl
      exact q9 h
    · have h := And.right h c2
      rw [if_pos c2] at hq
      have q9 := hq _ rfl
      exact q9 h
  · have h := And.right h c1
    rw [if_pos c1] at hq
    have q9 := hq _ rfl
    exact q9 h
theorem du_X10_refusesMove {P Q : Int32 → Prop} {p0 : Int32} {m_standings : Int32} {m_now : Nat → Int32} (h : wp_X10_refusesMove P p0 m_standings m_now) (hq : P (F_X10_refusesMove p0 m_standings m_now) → Q (F_X10_refusesMove p0 m_standings m_now)) : wp_X10_refusesMove Q p0 m_standings m_now := dt_X10_refusesMove h (fun o eo => by rw [eo]; exact hq)
theorem dw_X10_refusesMove {Q : Int32 → Prop} {p0 : Int32} {m_standings : Int32} {m_now : Nat → Int32} (h : wp_X10_refusesMove (fun o0 => o0 = F_X10_refusesMove p0 m_standings m_now → Q o0) p0 m_standings m_now) : wp_X10_refusesMove Q p0 m_standings m_now := dt_X10_refusesMove h (fun o eo hp => hp eo)
noncomputable def bd_X10_lay_2 (m_now : Nat → Int32) (x2 : Int32) (c : Int32) (s : (Nat → Int32)) : (Nat → Int32) := (upd s (x2 + c).toNatClampNeg (m_now c.toNatClampNeg))
noncomputable def ex_X10_lay_2 {R : Type} (po : (Nat → Int32) → R) (m_now : Nat → Int32) (x2 : Int32) (c : Int32) (s : (Nat → Int32)) : R := po s
set_option maxHeartbeats 200000 in
set_option maxRecDepth 10000 in
theorem dl_X10_lay_2 {P Q : (Nat → Int32) → Prop} {m_now : Nat → Int32} {x2 : Int32} {a : (Nat → Int32)} {i : Nat} (hi0 : i < 2147483648) (hE : ∀ (c : Int32) (s : (Nat → Int32)), c = nI (i + (Int32.toInt 21 - ((i : Nat) : Int)).toNat) → s = itr (bd_X10_lay_2 m_now x2) a i (Int32.toInt 21 - ((i : Nat) : Int)).toNat → (P s) → (Q s)) : ∀ (n k : Nat) (c : Int32), c = nI (i + k) → k ≤ (Int32.toInt 21 - ((i : Nat) : Int)).toNat → wb_X10_lay_2 P m_now n x2 c (itr (bd_X10_lay_2 m_now x2) a i k) → wb_X10_lay_2 Q m_now n x2 c (itr (bd_X10_lay_2 m_now x2) a i k) := by
  intro n
  induction n with
  | zero => intro k c hc hk h; exact False.elim h
  | succ n ih =>
    intro k c hc hk h
    have hr := tp_r 21
    have hi : Int32.toInt c = ((i + k : Nat) : Int) := by rw [hc]; exact nI_toInt (by omega)
    refine And.intro (fun t0 => ?_) (fun t0 => ?_)
    · have h := And.left h t0
      have t1 := (fa_le _ _).mp t0
      have hk2 : k = (Int32.toInt 21 - ((i : Nat) : Int)).toNat := by omega
      subst hk2
      exact hE _ _ hc rfl h
    · have h := And.right h t0
      have t1 := mt (fa_le _ _).mpr t0
      have hs : ∀ o : (Nat → Int32), o = itr (bd_X10_lay_2 m_now x2) a i (k + 1) → wb_X10_lay_2 P m_now n x2 (c + 1) o → wb_X10_lay_2 Q m_now n x2 (c + 1) o := by
        intro o eo h9
        have q := ih (k + 1) (c + 1) (by rw [hc]; exact nI_1 _) (by omega)
        rw [← eo] at q
        exact q h9
      rw [itr_s, ← hc, bd_X10_lay_2] at hs
      refine ae ?_
      have h := h _ rfl
      refine And.intro (And.left h) ?_
      have h := And.right h
      refine ae ?_
      have h := h _ rfl
      refine And.intro (And.left h) ?_
      have h := And.right h
      refine ae ?_
      have h := h _ rfl
      have q9 := hs _ rfl
      exact q9 h
noncomputable def F_X10_lay (p2 : Int32) (m_now : Nat → Int32) (m_undos : Nat → Int32) : (Nat → Int32) := ex_X10_lay_2 (fun o0 => o0) m_now p2 (nI (0 + (Int32.toInt 21 - ((0 : Nat) : Int)).toNat)) (itr (bd_X10_lay_2 m_now p2) m_undos 0 (Int32.toInt 21 - ((0 : Nat) : Int)).toNat)
set_option maxHeartbeats 200000 in
set_option maxRecDepth 10000 in
theorem dt_X10_lay {P Q : (Nat → Int32) → Prop} {p2 : Int32} {m_now : Nat → Int32} {m_undos : Nat → Int32} (h : wp_X10_lay P p2 m_now m_undos) (hq : ∀ o : (Nat → Int32), o = F_X10_lay p2 m_now m_undos → P o → Q o) : wp_X10_lay Q p2 m_now m_undos := by
  rw [F_X10_lay] at hq
  obtain ⟨n1, h⟩ := h
  refine ⟨n1, dl_X10_lay_2 (a := m_undos) (i := 0) (by decide) ?_ n1 0 0 (by decide) (Nat.zero_le _) h⟩
  intro cc2 s3 ec4 es5 h
  rw [← ec4, ← es5, ex_X10_lay_2] at hq
  have q9 := hq _ rfl
  exact q9 h
theorem du_X10_lay {P Q : (Nat → Int32) → Prop} {p2 : Int32} {m_now : Nat → Int32} {m_undos : Nat → Int32} (h : wp_X10_lay P p2 m_now m_undos) (hq : P (F_X10_lay p2 m_now m_undos) → Q (F_X10_lay p2 m_now m_undos)) : wp_X10_lay Q p2 m_now m_undos := dt_X10_lay h (fun o eo => by rw [eo]; exact hq)
theorem dw_X10_lay {Q : (Nat → Int32) → Prop} {p2 : Int32} {m_now : Nat → Int32} {m_undos : Nat → Int32} (h : wp_X10_lay (fun o0 => o0 = F_X10_lay p2 m_now m_undos → Q o0) p2 m_now m_undos) : wp_X10_lay Q p2 m_now m_undos := dt_X10_lay h (fun o eo hp => hp eo)
