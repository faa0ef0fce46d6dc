theorem du_X10_fewest {P Q : Int32 → Int32 → Int32 → Int32 → (Nat → Int32) → (Nat → Int32) → Prop} {m_fruits : Int32} {m_standings : Int32} {m_rowMany : Int32} {m_thrown : Int32} {m_wanted : Int32} {m_now : Nat → Int32} {m_x : Nat → Int32} {m_height : Nat → Int32} {m_ripe : Nat → Int32} {m_foot : Nat → Int32} {m_fork : Nat → Int32} {m_told : Nat → Int32} {m_row : Nat → Int32} {m_hand : Nat → Int32} (hy0 : Int32.toInt (F_X10_allStandings m_standings) < 2147483647) (h : wp_X10_fewest P m_fruits m_standings m_rowMany m_thrown m_wanted m_now m_x m_height m_ripe m_foot m_fork m_told m_row m_hand) (hq : P (F_X10_fewest m_fruits m_standings m_rowMany m_thrown m_wanted m_now m_x m_height m_ripe m_foot m_fork m_told m_row m_hand).1 (F_X10_fewest m_fruits m_standings m_rowMany m_thrown m_wanted m_now m_x m_height m_ripe m_foot m_fork m_told m_row m_hand).2.1 (F_X10_fewest m_fruits m_standings m_rowMany m_thrown m_wanted m_now m_x m_height m_ripe m_foot m_fork m_told m_row m_hand).2.2.1 (F_X10_fewest m_fruits m_standings m_rowMany m_thrown m_wanted m_now m_x m_height m_ripe m_foot m_fork m_told m_row m_hand).2.2.2.1 (F_X10_fewest m_fruits m_standings m_rowMany m_thrown m_wanted m_now m_x m_height m_ripe m_foot m_fork m_told m_row m_hand).2.2.2.2.1 (F_X10_fewest m_fruits m_standings m_rowMany m_thrown m_wanted m_now m_x m_height m_ripe m_foot m_fork m_told m_row m_hand).2.2.2.2.2 → Q (F_X10_fewest m_fruits m_standings m_rowMany m_thrown m_wanted m_now m_x m_height m_ripe m_foot m_fork m_told m_row m_hand).1 (F_X10_fewest m_fruits m_standings m_rowMany m_thrown m_wanted m_now m_x m_height m_ripe m_foot m_fork m_told m_row m_hand).2.1 (F_X10_fewest m_fruits m_standings m_rowMany m_thrown m_wanted m_now m_x m_height m_ripe m_foot m_fork m_told m_row m_hand).2.2.1 (F_X10_fewest m_fruits m_standings m_rowMany m_thrown m_wanted m_now m_x m_height m_ripe m_foot m_fork m_told m_row m_hand).2.2.2.1 (F_X10_fewest m_fruits m_standings m_rowMany m_thrown m_wanted m_now m_x m_height m_ripe m_foot m_fork m_told m_row m_hand).2.2.2.2.1 (F_X10_fewest m_fruits m_standings m_rowMany m_thrown m_wanted m_now m_x m_height m_ripe m_foot m_fork m_told m_row m_hand).2.2.2.2.2) : wp_X10_fewest Q m_fruits m_standings m_rowMany m_thrown m_wanted m_now m_x m_height m_ripe m_foot m_fork m_told m_row m_hand := dt_X10_fewest hy0 h (fun o eo => by rw [eo]; exact hq)
theorem dw_X10_fewest {Q : Int32 → Int32 → Int32 → Int32 → (Nat → Int32) → (Nat → Int32) → Prop} {m_fruits : Int32} {m_standings : Int32} {m_rowMany : Int32} {m_thrown : Int32} {m_wanted : Int32} {m_now : Nat → Int32} {m_x : Nat → Int32} {m_height : Nat → Int32} {m_ripe : Nat → Int32} {m_foot : Nat → Int32} {m_fork : Nat → Int32} {m_told : Nat → Int32} {m_row : Nat → Int32} {m_hand : Nat → Int32} (hy0 : Int32.toInt (F_X10_allStandings m_standings) < 2147483647) (h : wp_X10_fewest (fun o0 o1 o2 o3 o4 o5 => (o0, o1, o2, o3, o4, o5) = F_X10_fewest m_fruits m_standings m_rowMany m_thrown m_wanted m_now m_x m_height m_ripe m_foot m_fork m_told m_row m_hand → Q o0 o1 o2 o3 o4 o5) m_fruits m_standings m_rowMany m_thrown m_wanted m_now m_x m_height m_ripe m_foot m_fork m_told m_row m_hand) : wp_X10_fewest Q m_fruits m_standings m_rowMany m_thrown m_wanted m_now m_x m_height m_ripe m_foot m_fork m_told m_row m_hand := dt_X10_fewest hy0 h (fun o eo hp => hp eo)
noncomputable def j_X10_needed_62 {R : Type} (k29 : Int32 → Int32 → Int32 → Int32 → Int32 → Int32 → Int32 → Int32 → (Nat → Int32) → (Nat → Int32) → R) (m_fruits : Int32) (m_standings : Int32) (m_now : Nat → Int32) (m_x : Nat → Int32) (m_height : Nat → Int32) (m_ripe : Nat → Int32) (m_foot : Nat → Int32) (m_fork : Nat → Int32) (m_told : Nat → Int32) (x1 : Int32) (x2 : Int32) (x3 : Int32) (x5 : Int32) (k0 : Int32) (k1 : Int32) (m_rowMany : Int32) (m_thrown : Int32) (m_wanted : Int32) (m_row : Nat → Int32) (m_hand : Nat → Int32) : R := k29 x1 x2 x3 (k0 ||| k1) (x5 + 1) m_rowMany m_thrown m_wanted m_row m_hand
noncomputable def bd_X10_needed_29 (m_fruits : Int32) (m_standings : Int32) (m_now : Nat → Int32) (m_x : Nat → Int32) (m_height : Nat → Int32) (m_ripe : Nat → Int32) (m_foot : Nat → Int32) (m_fork : Nat → Int32) (m_told : Nat → Int32) (x1 : Int32) (x2 : Int32) (x3 : Int32) (m_rowMany : Int32) (m_thrown : Int32) (m_wanted : Int32) (m_row : Nat → Int32) (m_hand : Nat → Int32) (c : Int32) (s : Int32) : Int32 := if (F_X10_has (m_hand c.toNatClampNeg) x3) = 0 then (j_X10_needed_62 (fun q0 q1 q2 q3 q4 q5 q6 q7 q8 q9 => q3) m_fruits m_standings m_now m_x m_height m_ripe m_foot m_fork m_told x1 x2 x3 c s 0 m_rowMany m_thrown m_wanted m_row m_hand) else (j_X10_needed_62 (fun q0 q1 q2 q3 q4 q5 q6 q7 q8 q9 => q3) m_fruits m_standings m_now m_x m_height m_ripe m_foot m_fork m_told x1 x2 x3 c s (1 <<< (c &&& 31)) m_rowMany m_thrown m_wanted m_row m_hand)
noncomputable def j_X10_needed_105 {R : Type} (k15 : Int32 → Int32 → Int32 → Int32 → Int32 → Int32 → (Nat → Int32) → (Nat → Int32) → R) (m_fruits : Int32) (m_standings : Int32) (m_now : Nat → Int32) (m_x : Nat → Int32) (m_height : Nat → Int32) (m_ripe : Nat → Int32) (m_foot : Nat → Int32) (m_fork : Nat → Int32) (m_told : Nat → Int32) (x1 : Int32) (x2 : Int32) (x3 : Int32) (m_rowMany : Int32) (m_thrown : Int32) (m_wanted : Int32) (m_row : Nat → Int32) (m_hand : Nat → Int32) : R := k15 x1 x2 (x3 + 1) m_rowMany m_thrown m_wanted m_row m_hand
noncomputable def ex_X10_needed_29 {R : Type} (k15 : Int32 → Int32 → Int32 → Int32 → Int32 → Int32 → (Nat → Int32) → (Nat → Int32) → R) (m_fruits : Int32) (m_standings : Int32) (m_now : Nat → Int32) (m_x : Nat → Int32) (m_height : Nat → Int32) (m_ripe : Nat → Int32) (m_foot : Nat → Int32) (m_fork : Nat → Int32) (m_told : Nat → Int32) (x1 : Int32) (x2 : Int32) (x3 : Int32) (m_rowMany : Int32) (m_thrown : Int32) (m_wanted : Int32) (m_row : Nat → Int32) (m_hand : Nat → Int32) (c : Int32) (s : Int32) : R := if (F_X10_has m_wanted x3) = 0 then (j_X10_needed_105 k15 m_fruits m_standings m_now m_x m_height m_ripe m_foot m_fork m_told x1 x2 x3 m_rowMany m_thrown m_wanted m_row m_hand) else (if (F_J6_bitCount_0f7a4 s) = 1 then (j_X10_needed_105 k15 m_fruits m_standings m_now m_x m_height m_ripe m_foot m_fork m_told (x1 ||| s) (x2 ||| (1 <<< (x3 &&& 31))) x3 m_rowMany m_thrown m_wanted m_row m_hand) else (j_X10_needed_105 k15 m_fruits m_standings m_now m_x m_height m_ripe m_foot m_fork m_told x1 x2 x3 m_rowMany m_thrown m_wanted m_row m_hand))
set_option maxHeartbeats 200000 in
set_option maxRecDepth 10000 in
theorem dl_X10_needed_29 {P Q : Int32 → Int32 → Int32 → Int32 → (Nat → Int32) → (Nat → Int32) → Prop} {K15 L15 : Int32 → Int32 → Int32 → Int32 → Int32 → Int32 → (Nat → Int32) → (Nat → Int32) → Prop} {m_fruits : Int32} {m_standings : Int32} {m_now : Nat → Int32} {m_x : Nat → Int32} {m_height : Nat → Int32} {m_ripe : Nat → Int32} {m_foot : Nat → Int32} {m_fork : Nat → Int32} {m_told : Nat → Int32} {x1 : Int32} {x2 : Int32} {x3 : Int32} {m_rowMany : Int32} {m_thrown : Int32} {m_wanted : Int32} {m_row : Nat → Int32} {m_hand : Nat → Int32} {a : Int32} {i : Nat} (hi0 : i < 2147483648) (hE : ∀ (c : Int32) (s : Int32), c = nI (i + (Int32.toInt m_standings - ((i : Nat) : Int)).toNat) → s = itr (bd_X10_needed_29 m_fruits m_standings m_now m_x m_height m_ripe m_foot m_fork m_told x1 x2 x3 m_rowMany m_thrown m_wanted m_row m_hand) a i (Int32.toInt m_standings - ((i : Nat) : Int)).toNat → (wp_X10_has (fun r_5 => (r_5 = 0 → ws_X10_needed_105 P K15 m_fruits m_standings m_now m_x m_height m_ripe m_foot m_fork m_told x1 x2 x3 m_rowMany m_thrown m_wanted m_row m_hand) ∧ (¬ r_5 = 0 → wp_J6_bitCount_0f7a4 (fun r_7 => (r_7 = 1 → ∀ v_8 : Int32, v_8 = x1 ||| s → ∀ v_9 : Int32, v_9 = x2 ||| (1 <<< (x3 &&& 31)) → ws_X10_needed_105 P K15 m_fruits m_standings m_now m_x m_height m_ripe m_foot m_fork m_told v_8 v_9 x3 m_rowMany m_thrown m_wanted m_row m_hand) ∧ (¬ r_7 = 1 → ws_X10_needed_105 P K15 m_fruits m_standings m_now m_x m_height m_ripe m_foot m_fork m_told x1 x2 x3 m_rowMany m_thrown m_wanted m_row m_hand)) s)) m_wanted x3) → (wp_X10_has (fun r_5 => (r_5 = 0 → ws_X10_needed_105 Q L15 m_fruits m_standings m_now m_x m_height m_ripe m_foot m_fork m_told x1 x2 x3 m_rowMany m_thrown m_wanted m_row m_hand) ∧ (¬ r_5 = 0 → wp_J6_bitCount_0f7a4 (fun r_7 => (r_7 = 1 → ∀ v_8 : Int32, v_8 = x1 ||| s → ∀ v_9 : Int32, v_9 = x2 ||| (1 <<< (x3 &&& 31)) → ws_X10_needed_105 Q L15 m_fruits m_standings m_now m_x m_height m_ripe m_foot m_fork m_told v_8 v_9 x3 m_rowMany m_thrown m_wanted m_row m_hand) ∧ (¬ r_7 = 1 → ws_X10_needed_105 Q L15 m_fruits m_standings m_now m_x m_height m_ripe m_foot m_fork m_told x1 x2 x3 m_rowMany m_thrown m_wanted m_row m_hand)) s)) m_wanted x3)) : ∀ (n k : Nat) (c : Int32), c = nI (i + k) → k ≤ (Int32.toInt m_standings - ((i : Nat) : Int)).toNat → wb_X10_needed_29 P K15 m_fruits m_standings m_now m_x m_height m_ripe m_foot m_fork m_told n x1 x2 x3 (itr (bd_X10_needed_29 m_fruits m_standings m_now m_x m_height m_ripe m_foot m_fork m_told x1 x2 x3 m_rowMany m_thrown m_wanted m_row m_hand) a i k) c m_rowMany m_thrown m_wanted m_row m_hand → wb_X10_needed_29 Q L15 m_fruits m_standings m_now m_x m_height m_ripe m_foot m_fork m_told n x1 x2 x3 (itr (bd_X10_needed_29 m_fruits m_standings m_now m_x m_height m_ripe m_foot m_fork m_told x1 x2 x3 m_rowMany m_thrown m_wanted m_row m_hand) a i k) c m_rowMany m_thrown m_wanted m_row m_hand := by
  intro n
  induction n with
  | zero => intro k c hc hk h; exact False.elim h
  | succ n ih =>
    intro k c hc hk h
    have hr := tp_r m_standings
    have hi : Int32.toInt c = ((i + k : Nat) : Int) := by rw [hc]; exact nI_toInt (by omega)
    refine And.intro (fun t0 => ?_) (fun t0 => ?_)
    · have h := And.left h t0
      have t1 := (fa_le _ _).mp t0
      have hk2 : k = (Int32.toInt m_standings - ((i : Nat) : Int)).toNat := by omega
      subst hk2
      exact hE _ _ hc rfl h
    · have h := And.right h t0
      have t1 := mt (fa_le _ _).mpr t0
      have hs : ∀ o : Int32, o = itr (bd_X10_needed_29 m_fruits m_standings m_now m_x m_height m_ripe m_foot m_fork m_told x1 x2 x3 m_rowMany m_thrown m_wanted m_row m_hand) a i (k + 1) → wb_X10_needed_29 P K15 m_fruits m_standings m_now m_x m_height m_ripe m_foot m_fork m_told n x1 x2 x3 o (c + 1) m_rowMany m_thrown m_wanted m_row m_hand → wb_X10_needed_29 Q L15 m_fruits m_standings m_now m_x m_height m_ripe m_foot m_fork m_told n x1 x2 x3 o (c + 1) m_rowMany m_thrown m_wanted m_row m_hand := by
        intro o eo h9
        have q := ih (k + 1) (c + 1) (by rw [hc]; exact nI_1 _) (by omega)
        rw [← eo] at q
        exact q h9
      rw [itr_s, ← hc, bd_X10_needed_29] at hs
      refine And.intro (And.left h) ?_
      have h := And.right h
      refine ae ?_
      have h := h _ rfl
      refine du_X10_has h ?_
      intro h
      refine And.intro (fun c1 => ?_) (fun c1 => ?_)
      · have h := And.left h c1
        rw [if_pos c1] at hs
        rw [j_X10_needed_62] at hs
        unfold ws_X10_needed_62 at h ⊢
        refine ae ?_
        have h := h _ rfl
        refine ae ?_
        have h := h _ rfl
        have q9 := hs _ rfl
        exact q9 h
      · have h := And.right h c1
        rw [if_neg c1] at hs
        refine ae ?_
        have h := h _ rfl
        rw [j_X10_needed_62] at hs
        unfold ws_X10_needed_62 at h ⊢
        refine ae ?_
        have h := h _ rfl
        refine ae ?_
        have h := h _ rfl
        have q9 := hs _ rfl
        exact q9 h
noncomputable def bd_X10_needed_15 (m_fruits : Int32) (m_standings : Int32) (m_now : Nat → Int32) (m_x : Nat → Int32) (m_height : Nat → Int32) (m_ripe : Nat → Int32) (m_foot : Nat → Int32) (m_fork : Nat → Int32) (m_told : Nat → Int32) (m_rowMany : Int32) (m_thrown : Int32) (m_wanted : Int32) (m_row : Nat → Int32) (m_hand : Nat → Int32) (c : Int32) (s : Int32 × Int32) : Int32 × Int32 := ex_X10_needed_29 (fun q0 q1 q2 q3 q4 q5 q6 q7 => (q0, q1)) m_fruits m_standings m_now m_x m_height m_ripe m_foot m_fork m_told s.1 s.2 c m_rowMany m_thrown m_wanted m_row m_hand (nI (0 + (Int32.toInt m_standings - ((0 : Nat) : Int)).toNat)) (itr (bd_X10_needed_29 m_fruits m_standings m_now m_x m_height m_ripe m_foot m_fork m_told s.1 s.2 c m_rowMany m_thrown m_wanted m_row m_hand) 0 0 (Int32.toInt m_standings - ((0 : Nat) : Int)).toNat)
noncomputable def ex_X10_needed_15 {R : Type} (po : Int32 → Int32 → Int32 → Int32 → (Nat → Int32) → (Nat → Int32) → R) (m_fruits : Int32) (m_standings : Int32) (m_now : Nat → Int32) (m_x : Nat → Int32) (m_height : Nat → Int32) (m_ripe : Nat → Int32) (m_foot : Nat → Int32) (m_fork : Nat → Int32) (m_told : Nat → Int32) (m_rowMany : Int32) (m_thrown : Int32) (m_wanted : Int32) (m_row : Nat → Int32) (m_hand : Nat → Int32) (c : Int32) (s : Int32 × Int32) : R := po s.1 ((F_X10_tell s.2 0 m_row).1) m_thrown m_wanted ((F_X10_tell s.2 0 m_row).2) m_hand
set_option maxHeartbeats 200000 in
set_option maxRecDepth 10000 in
theorem dl_X10_needed_15 {P Q : Int32 → Int32 → Int32 → Int32 → (Nat → Int32) → (Nat → Int32) → Prop} {m_fruits : Int32} {m_standings : Int32} {m_now : Nat → Int32} {m_x : Nat → Int32} {m_height : Nat → Int32} {m_ripe : Nat → Int32} {m_foot : Nat → Int32} {m_fork : Nat → Int32} {m_told : Nat → Int32} {m_rowMany : Int32} {m_thrown : Int32} {m_wanted : Int32} {m_row : Nat → Int32} {m_hand : Nat → Int32} {a : Int32 × Int32} {i : Nat} (hi0 : i < 2147483648) (hE : ∀ (c : Int32) (s : Int32 × Int32), c = nI (i + (Int32.toInt m_fruits - ((i : Nat) : Int)).toNat) → s = itr (bd_X10_needed_15 m_fruits m_standings m_now m_x m_height m_ripe m_foot m_fork m_told m_rowMany m_thrown m_wanted m_row m_hand) a i (Int32.toInt m_fruits - ((i : Nat) : Int)).toNat → (wp_X10_tell (fun m_rowMany_3 m_row_4 => P s.1 m_rowMany_3 m_thrown m_wanted m_row_4 m_hand) s.2 0 m_row) → (wp_X10_tell (fun m_rowMany_3 m_row_4 => Q s.1 m_rowMany_3 m_thrown m_wanted m_row_4 m_hand) s.2 0 m_row)) : ∀ (n k : Nat) (c : Int32), c = nI (i + k) → k ≤ (Int32.toInt m_fruits - ((i : Nat) : Int)).toNat → wb_X10_needed_15 P m_fruits m_standings m_now m_x m_height m_ripe m_foot m_fork m_told n (itr (bd_X10_needed_15 m_fruits m_standings m_now m_x m_height m_ripe m_foot m_fork m_told m_rowMany m_thrown m_wanted m_row m_hand) a i k).1 (itr (bd_X10_needed_15 m_fruits m_standings m_now m_x m_height m_ripe m_foot m_fork m_told m_rowMany m_thrown m_wanted m_row m_hand) a i k).2 c m_rowMany m_thrown m_wanted m_row m_hand → wb_X10_needed_15 Q m_fruits m_standings m_now m_x m_height m_ripe m_foot m_fork m_told n (itr (bd_X10_needed_15 m_fruits m_standings m_now m_x m_height m_ripe m_foot m_fork m_told m_rowMany m_thrown m_wanted m_row m_hand) a i k).1 (itr (bd_X10_needed_15 m_fruits m_standings m_now m_x m_height m_ripe m_foot m_fork m_told m_rowMany m_thrown m_wanted m_row m_hand) a i k).2 c m_rowMany m_thrown m_wanted m_row m_hand := by
  intro n
  induction n with
  | zero => intro k c hc hk h; exact False.elim h
  | succ n ih =>
    intro k c hc hk h
    have hr := tp_r m_fruits
    have hi : Int32.toInt c = ((i + k : Nat) : Int) := by rw [hc]; exact nI_toInt (by omega)
    refine And.intro (fun t0 => ?_) (fun t0 => ?_)
    · have h := And.left h t0
      have t1 := (fa_le _ _).mp t0
      have hk2 : k = (Int32.toInt m_fruits - ((i : Nat) : Int)).toNat := by omega
      subst hk2
      exact hE _ _ hc rfl h
    · have h := And.right h t0
      have t1 := mt (fa_le _ _).mpr t0
      have hs : ∀ o : Int32 × Int32, o = itr (bd_X10_needed_15 m_fruits m_standings m_now m_x m_height m_ripe m_foot m_fork m_told m_rowMany m_thrown m_wanted m_row m_hand) a i (k + 1) → wb_X10_needed_15 P m_fruits m_standings m_now m_x m_height m_ripe m_foot m_fork m_told n o.1 o.2 (c + 1) m_rowMany m_thrown m_wanted m_row m_hand → wb_X10_needed_15 Q m_fruits m_standings m_now m_x m_height m_ripe m_foot m_fork m_told n o.1 o.2 (c + 1) m_rowMany m_thrown m_wanted m_row m_hand := by
        intro o eo h9
        have q := ih (k + 1) (c + 1) (by rw [hc]; exact nI_1 _) (by omega)
        rw [← eo] at q
        exact q h9
      rw [itr_s, ← hc, bd_X10_needed_15] at hs
      obtain ⟨n1, h⟩ := h
      refine ⟨n1, dl_X10_needed_29 (a := 0) (i := 0) (by decide) ?_ n1 0 0 (by decide) (Nat.zero_le _) h⟩
      intro cc2 s3 ec4 es5 h
      rw [← ec4, ← es5, ex_X10_needed_29] at hs
      refine du_X10_has h ?_
      intro h
      refine And.intro (fun c6 => ?_) (fun c6 => ?_)
      · have h := And.left h c6
        rw [if_pos c6] at hs
        rw [j_X10_needed_105] at hs
        unfold ws_X10_needed_105 at h ⊢
        refine ae ?_
        have h := h _ rfl
        have q9 := hs _ rfl
        dsimp only at q9
        exact q9 h
      · have h := And.right h c6
        rw [if_neg c6] at hs
        refine du_J6_bitCount_0f7a4 h ?_
        intro h
        refine And.intro (fun c7 => ?_) (fun c7 => ?_)
        · have h := And.left h c7
          rw [if_pos c7] at hs
          refine ae ?_
          have h := h _ rfl
          refine ae ?_
          have h := h _ rfl
          rw [j_X10_needed_105] at hs
          unfold ws_X10_needed_105 at h ⊢
          refine ae ?_
          have h := h _ rfl
          have q9 := hs _ rfl
          dsimp only at q9
          exact q9 h
        · have h := And.right h c7
          rw [if_neg c7] at hs
          rw [j_X10_needed_105] at hs
          unfold ws_X10_needed_105 at h ⊢
          refine ae ?_
          have h := h _ rfl
          have q9 := hs _ rfl
          dsimp only at q9
          exact q9 h
noncomputable def F_X10_needed (m_fruits : Int32) (m_standings : Int32) (m_rowMany : Int32) (m_thrown : Int32) (m_wanted : Int32) (m_now : Nat → Int32) (m_x : Nat → Int32) (m_height : Nat → Int32) (m_ripe : Nat → Int32) (m_foot : Nat → Int32) (m_fork : Nat → Int32) (m_told : Nat → Int32) (m_row : Nat → Int32) (m_hand : Nat → Int32) : Int32 × Int32 × Int32 × Int32 × (Nat → Int32) × (Nat → Int32) := ex_X10_needed_15 (fun o0 o1 o2 o3 o4 o5 => (o0, o1, o2, o3, o4, o5)) m_fruits m_standings m_now m_x m_height m_ripe m_foot m_fork m_told m_rowMany 0 ((F_X10_layHands m_fruits m_standings m_wanted m_now m_x m_height m_ripe m_foot m_fork m_told m_hand).1) m_row ((F_X10_layHands m_fruits m_standings m_wanted m_now m_x m_height m_ripe m_foot m_fork m_told m_hand).2) (nI (0 + (Int32.toInt m_fruits - ((0 : Nat) : Int)).toNat)) (itr (bd_X10_needed_15 m_fruits m_standings m_now m_x m_height m_ripe m_foot m_fork m_told m_rowMany 0 ((F_X10_layHands m_fruits m_standings m_wanted m_now m_x m_height m_ripe m_foot m_fork m_told m_hand).1) m_row ((F_X10_layHands m_fruits m_standings m_wanted m_now m_x m_height m_ripe m_foot m_fork m_told m_hand).2)) (0, 0) 0 (Int32.toInt m_fruits - ((0 : Nat) : Int)).toNat)
set_option maxHeartbeats 200000 in
set_option maxRecDepth 10000 in
theorem dt_X10_needed {P Q : Int32 → Int32 → Int32 → Int32 → (Nat → Int32) → (Nat → Int32) → Prop} {m_fruits : Int32} {m_standings : Int32} {m_rowMany : Int32} {m_thrown : Int32} {m_wanted : Int32} {m_now : Nat → Int32} {m_x : Nat → Int32} {m_height : Nat → Int32} {m_ripe : Nat → Int32} {m_foot : Nat → Int32} {m_fork : Nat → Int32} {m_told : Nat → Int32} {m_row : Nat → Int32} {m_hand : Nat → Int32} (h : wp_X10_needed P m_fruits m_standings m_rowMany m_thrown m_wanted m_now m_x m_height m_ripe m_foot m_fork m_told m_row m_hand) (hq : ∀ o : Int32 × Int32 × Int32 × Int32 × (Nat → Int32) × (Nat → Int32), o = F_X10_needed m_fruits m_standings m_rowMany m_thrown m_wanted m_now m_x m_height m_ripe m_foot m_fork m_told m_row m_hand → P o.1 o.2.1 o.2.2.1 o.2.2.2.1 o.2.2.2.2.1 o.2.2.2.2.2 → Q o.1 o.2.1 o.2.2.1 o.2.2.2.1 o.2.2.2.2.1 o.2.2.2.2.2) : wp_X10_needed Q m_fruits m_standings m_rowMany m_thrown m_wanted m_now m_x m_height m_ripe m_foot m_fork m_told m_row m_hand := by
  rw [F_X10_needed] at hq
  refine du_X10_layHands h ?_
  intro h
  obtain ⟨n1, h⟩ := h
  refine ⟨n1, dl_X10_needed_15 (a := (0, 0)) (i := 0) (by decide) ?_ n1 0 0 (by decide) (Nat.zero_le _) h⟩
  intro cc2 s3 ec4 es5 h
  rw [← ec4, ← es5, ex_X10_needed_15] at hq
  refine du_X10_tell h ?_
  intro h
  have q9 := hq _ rfl
  dsimp only at q9
  exact q9 h
theorem du_X10_needed {P Q : Int32 → Int32 → Int32 → Int32 → (Nat → Int32) → (Nat → Int32) → Prop} {m_fruits : Int32} {m_standings : Int32} {m_rowMany : Int32} {m_thrown : Int32} {m_wanted : Int32} {m_now : Nat → Int32} {m_x : Nat → Int32} {m_height : Nat → Int32} {m_ripe : Nat → Int32} {m_foot : Nat → Int32} {m_fork : Nat → Int32} {m_told : Nat → Int32} {m_row : Nat → Int32} {m_hand : Nat → Int32} (h : wp_X10_needed P m_fruits m_standings m_rowMany m_thrown m_wanted m_now m_x m_height m_ripe m_foot m_fork m_told m_row m_hand) (hq : P (F_X10_needed m_fruits m_standings m_rowMany m_thrown m_wanted m_now m_x m_height m_ripe m_foot m_fork m_told m_row m_hand).1 (F_X10_needed m_fruits m_standings m_rowMany m_thrown m_wanted m_now m_x m_height m_ripe m_foot m_fork m_told m_row m_hand).2.1 (F_X10_needed m_fruits m_standings m_rowMany m_thrown m_wanted m_now m_x m_height m_ripe m_foot m_fork m_told m_row m_hand).2.2.1 (F_X10_needed m_fruits m_standings m_rowMany m_thrown m_wanted m_now m_x m_height m_ripe m_foot m_fork m_told m_row m_hand).2.2.2.1 (F_X10_needed m_fruits m_standings m_rowMany m_thrown m_wanted m_now m_x m_height m_ripe m_foot m_fork m_told m_row m_hand).2.2.2.2.1 (F_X10_needed m_fruits m_standings m_rowMany m_thrown m_wanted m_now m_x m_height m_ripe m_foot m_fork m_told m_row m_hand).2.2.2.2.2 → Q (F_X10_needed m_fruits m_standings m_rowMany m_thrown m_wanted m_now m_x m_height m_ripe m_foot m_fork m_told m_row m_hand).1 (F_X10_needed m_fruits m_standings m_rowMany m_thrown m_wanted m_now m_x m_height m_ripe m_foot m_fork m_told m_row m_hand).2.1 (F_X10_needed m_fruits m_standings m_rowMany m_thrown m_wanted m_now m_x m_height m_ripe m_foot m_fork m_told m_row m_hand).2.2.1 (F_X10_needed m_fruits m_standings m_rowMany m_thrown m_wanted m_now m_x m_height m_ripe m_foot m_fork m_told m_row m_hand).2.2.2.1 (F_X10_needed m_fruits m_standings m_rowMany m_thrown m_wanted m_now m_x m_height m_ripe m_foot m_fork m_told m_row m_hand).2.2.2.2.1 (F_X10_needed m_fruits m_standings m_rowMany m_thrown m_wanted m_now m_x m_height m_ripe m_foot m_fork m_told m_row m_hand).2.2.2.2.2) : wp_X10_needed Q m_fruits m_standings m_rowMany m_thrown m_wanted m_now m_x m_height m_ripe m_foot m_fork m_told m_row m_hand := dt_X10_needed h (fun o eo => by rw [eo]; exact hq)
theorem dw_X10_needed {Q : Int32 → Int32 → Int32 → Int32 → (Nat → Int32) → (Nat → Int32) → Prop} {m_fruits : Int32} {m_standings : Int32} {m_rowMany : Int32} {m_thrown : Int32} {m_wanted : Int32} {m_now : Nat → Int32} {m_x : Nat → Int32} {m_height : Nat → Int32} {m_ripe : Nat → Int32} {m_foot : Nat → Int32} {m_fork : Nat → Int32} {m_told : Nat → Int32} {m_row : Nat → Int32} {m_hand : Nat → Int32} (h : wp_X10_needed (fun o0 o1 o2 o3 o4 o5 => (o0, o1, o2, o3, o4, o5) = F_X10_needed m_fruits m_standings m_rowMany m_thrown m_wanted m_now m_x m_height m_ripe m_foot m_fork m_told m_row m_hand → Q o0 o1 o2 o3 o4 o5) m_fruits m_standings m_rowMany m_thrown m_wanted m_now m_x m_height m_ripe m_foot m_fork m_told m_row m_hand) : wp_X10_needed Q m_fruits m_standings m_rowMany m_thrown m_wanted m_now m_x m_height m_ripe m_foot m_fork m_told m_row m_hand := dt_X10_needed h (fun o eo hp => hp eo)
noncomputable def F_X10_leftBy (p0 : Int32) (m_fruits : Int32) (m_standings : Int32) (m_wanted : Int32) (m_now : Nat → Int32) (m_worth : Nat → Int32) (m_hand : Nat → Int32) : Int32 := (F_X10_worthOfAll (m_wanted &&& ((F_X10_handOf p0 m_standings m_hand) ^^^ (-1))) (m_now (16 : Int32).toNatClampNeg) m_fruits m_worth)
set_option maxHeartbeats 200000 in
set_option maxRecDepth 10000 in
theorem dt_X10_leftBy {P Q : Int32 → Prop} {p0 : Int32} {m_fruits : Int32} {m_standings : Int32} {m_wanted : Int32} {m_now : Nat → Int32} {m_worth : Nat → Int32} {m_hand : Nat → Int32} (h : wp_X10_leftBy P p0 m_fruits m_standings m_wanted m_now m_worth m_hand) (hq : ∀ o : Int32, o = F_X10_leftBy p0 m_fruits m_standings m_wanted m_now m_worth m_hand → P o → Q o) : wp_X10_leftBy Q p0 m_fruits m_standings m_wanted m_now m_worth m_hand := by
  rw [F_X10_leftBy] at hq
  refine du_X10_handOf h ?_
  intro h
  refine ae ?_
  have h := h _ rfl
  refine ae ?_
  have h := h _ rfl
  refine du_X10_worthOfAll h ?_
  intro h
  have q9 := hq _ rfl
  exact q9 h
theorem du_X10_leftBy {P Q : Int32 → Prop} {p0 : Int32} {m_fruits : Int32} {m_standings : Int32} {m_wanted : Int32} {m_now : Nat → Int32} {m_worth : Nat → Int32} {m_hand : Nat → Int32} (h : wp_X10_leftBy P p0 m_fruits m_standings m_wanted m_now m_worth m_hand) (hq : P (F_X10_leftBy p0 m_fruits m_standings m_wanted m_now m_worth m_hand) → Q (F_X10_leftBy p0 m_fruits m_standings m_wanted m_now m_worth m_hand)) : wp_X10_leftBy Q p0 m_fruits m_standings m_wanted m_now m_worth m_hand := dt_X10_leftBy h (fun o eo => by rw [eo]; exact hq)
theorem dw_X10_leftBy {Q : Int32 → Prop} {p0 : Int32} {m_fruits : Int32} {m_standings : Int32} {m_wanted : Int32} {m_now : Nat → Int32} {m_worth : Nat → Int32} {m_hand : Nat → Int32} (h : wp_X10_leftBy (fun o0 => o0 = F_X10_leftBy p0 m_fruits m_standings m_wanted m_now m_worth m_hand → Q o0) p0 m_fruits m_standings m_wanted m_now m_worth m_hand) : wp_X10_leftBy Q p0 m_fruits m_standings m_wanted m_now m_worth m_hand := dt_X10_leftBy h (fun o eo hp => hp eo)
noncomputable def j_X10_birds_82 {R : Type} (k25 : Int32 → Int32 → Int32 → Int32 → Int32 → Int32 → (Nat → Int32) → (Nat → Int32) → R) (m_fruits : Int32) (m_standings : Int32) (m_now : Nat → Int32) (m_x : Nat → Int32) (m_height : Nat → Int32) (m_worth : Nat → Int32) (m_ripe : Nat → Int32) (m_foot : Nat → Int32) (m_fork : Nat → Int32) (m_told : Nat → Int32) (x1 : Int32) (x2 : Int32) (x3 : Int32) (m_rowMany : Int32) (m_thrown : Int32) (m_wanted : Int32) (m_row : Nat → Int32) (m_hand : Nat → Int32) : R := k25 x1 x2 (x3 + 1) m_rowMany m_thrown m_wanted m_row m_hand
noncomputable def j_X10_birds_80 {R : Type} (k25 : Int32 → Int32 → Int32 → Int32 → Int32 → Int32 → (Nat → Int32) → (Nat → Int32) → R) (m_fruits : Int32) (m_standings : Int32) (m_now : Nat → Int32) (m_x : Nat → Int32) (m_height : Nat → Int32) (m_worth : Nat → Int32) (m_ripe : Nat → Int32) (m_foot : Nat → Int32) (m_fork : Nat → Int32) (m_told : Nat → Int32) (x1 : Int32) (x3 : Int32) (m_rowMany : Int32) (m_thrown : Int32) (m_wanted : Int32) (m_row : Nat → Int32) (m_hand : Nat → Int32) : R := j_X10_birds_82 k25 m_fruits m_standings m_now m_x m_height m_worth m_ripe m_foot m_fork m_told x1 x3 x3 m_rowMany m_thrown m_wanted m_row m_hand
noncomputable def bd_X10_birds_25 (m_fruits : Int32) (m_standings : Int32) (m_now : Nat → Int32) (m_x : Nat → Int32) (m_height : Nat → Int32) (m_worth : Nat → Int32) (m_ripe : Nat → Int32) (m_foot : Nat → Int32) (m_fork : Nat → Int32) (m_told : Nat → Int32) (x1 : Int32) (m_rowMany : Int32) (m_thrown : Int32) (m_wanted : Int32) (m_row : Nat → Int32) (m_hand : Nat → Int32) (c : Int32) (s : Int32) : Int32 := if (F_J6_bitCount_0f7a4 c) ≤ x1 then (if ((F_X10_leftBy c m_fruits m_standings m_wanted m_now m_worth m_hand) - (F_X10_leftBy s m_fruits m_standings m_wanted m_now m_worth m_hand)) < 0 then (j_X10_birds_80 (fun q0 q1 q2 q3 q4 q5 q6 q7 => q1) m_fruits m_standings m_now m_x m_height m_worth m_ripe m_foot m_fork m_told x1 c m_rowMany m_thrown m_wanted m_row m_hand) else (if ((F_X10_leftBy c m_fruits m_standings m_wanted m_now m_worth m_hand) - (F_X10_leftBy s m_fruits m_standings m_wanted m_now m_worth m_hand)) = 0 then (if (F_J6_bitCount_0f7a4 s) ≤ (F_J6_bitCount_0f7a4 c) then (j_X10_birds_82 (fun q0 q1 q2 q3 q4 q5 q6 q7 => q1) m_fruits m_standings m_now m_x m_height m_worth m_ripe m_foot m_fork m_told x1 s c m_rowMany m_thrown m_wanted m_row m_hand) else (j_X10_birds_80 (fun q0 q1 q2 q3 q4 q5 q6 q7 => q1) m_fruits m_standings m_now m_x m_height m_worth m_ripe m_foot m_fork m_told x1 c m_rowMany m_thrown m_wanted m_row m_hand)) else (j_X10_birds_82 (fun q0 q1 q2 q3 q4 q5 q6 q7 => q1) m_fruits m_standings m_now m_x m_height m_worth m_ripe m_foot m_fork m_told x1 s c m_rowMany m_thrown m_wanted m_row m_hand))) else (j_X10_birds_82 (fun q0 q1 q2 q3 q4 q5 q6 q7 => q1) m_fruits m_standings m_now m_x m_height m_worth m_ripe m_foot m_fork m_told x1 s c m_rowMany m_thrown m_wanted m_row m_hand)
noncomputable def ex_X10_birds_25 {R : Type} (po : Int32 → Int32 → Int32 → Int32 → (Nat → Int32) → (Nat → Int32) → R) (m_fruits : Int32) (m_standings : Int32) (m_now : Nat → Int32) (m_x : Nat → Int32) (m_height : Nat → Int32) (m_worth : Nat → Int32) (m_ripe : Nat → Int32) (m_foot : Nat → Int32) (m_fork : Nat → Int32) (m_told : Nat → Int32) (x1 : Int32) (m_rowMany : Int32) (m_thrown : Int32) (m_wanted : Int32) (m_row : Nat → Int32) (m_hand : Nat → Int32) (c : Int32) (s : Int32) : R := po (F_X10_leftBy s m_fruits m_standings m_wanted m_now m_worth m_hand) ((F_X10_tell (m_wanted &&& ((F_X10_handOf s m_standings m_hand) ^^^ (-1))) (F_X10_tell s 0 m_row).1 (F_X10_tell s 0 m_row).2).1) m_thrown m_wanted ((F_X10_tell (m_wanted &&& ((F_X10_handOf s m_standings m_hand) ^^^ (-1))) (F_X10_tell s 0 m_row).1 (F_X10_tell s 0 m_row).2).2) m_hand
set_option maxHeartbeats 200000 in
set_option maxRecDepth 10000 in
theorem dl_X10_birds_25 {P Q : Int32 → Int32 → Int32 → Int32 → (Nat → Int32) → (Nat → Int32) → Prop} {m_fruits : Int32} {m_standings : Int32} {m_now : Nat → Int32} {m_x : Nat → Int32} {m_height : Nat → Int32} {m_worth : Nat → Int32} {m_ripe : Nat → Int32} {m_foot : Nat → Int32} {m_fork : Nat → Int32} {m_told : Nat → Int32} {x1 : Int32} {m_rowMany : Int32} {m_thrown : Int32} {m_wanted : Int32} {m_row : Nat → Int32} {m_hand : Nat → Int32} {a : Int32} {i : Nat} (hi0 : i < 2147483648) (hz0 : Int32.toInt (F_X10_allStandings m_standings) < 2147483647) (hE : ∀ (c : Int32) (s : Int32), c = nI (i + (Int32.toInt (F_X10_allStandings m_standings) + 1 - ((i : Nat) : Int)).toNat) → s = itr (bd_X10_birds_25 m_fruits m_standings m_now m_x m_height m_worth m_ripe m_foot m_fork m_told x1 m_rowMany m_thrown m_wanted m_row m_hand) a i (Int32.toInt (F_X10_allStandings m_standings) + 1 - ((i : Nat) : Int)).toNat → (wp_X10_tell (fun m_rowMany_5 m_row_6 => wp_X10_handOf (fun r_7 => ∀ v_8 : Int32, v_8 = m_wanted &&& (r_7 ^^^ (-1)) → wp_X10_tell (fun m_rowMany_9 m_row_10 => wp_X10_leftBy (fun r_11 => P r_11 m_rowMany_9 m_thrown m_wanted m_row_10 m_hand) s m_fruits m_standings m_wanted m_now m_worth m_hand) v_8 m_rowMany_5 m_row_6) s m_standings m_hand) s 0 m_row) → (wp_X10_tell (fun m_rowMany_5 m_row_6 => wp_X10_handOf (fun r_7 => ∀ v_8 : Int32, v_8 = m_wanted &&& (r_7 ^^^ (-1)) → wp_X10_tell (fun m_rowMany_9 m_row_10 => wp_X10_leftBy (fun r_11 => Q r_11 m_rowMany_9 m_thrown m_wanted m_row_10 m_hand) s m_fruits m_standings m_wanted m_now m_worth m_hand) v_8 m_rowMany_5 m_row_6) s m_standings m_hand) s 0 m_row)) : ∀ (n k : Nat) (c : Int32), c = nI (i + k) → k ≤ (Int32.toInt (F_X10_allStandings m_standings) + 1 - ((i : Nat) : Int)).toNat → wb_X10_birds_25 P m_fruits m_standings m_now m_x m_height m_worth m_ripe m_foot m_fork m_told n x1 (itr (bd_X10_birds_25 m_fruits m_standings m_now m_x m_height m_worth m_ripe m_foot m_fork m_told x1 m_rowMany m_thrown m_wanted m_row m_hand) a i k) c m_rowMany m_thrown m_wanted m_row m_hand → wb_X10_birds_25 Q m_fruits m_standings m_now m_x m_height m_worth m_ripe m_foot m_fork m_told n x1 (itr (bd_X10_birds_25 m_fruits m_standings m_now m_x m_height m_worth m_ripe m_foot m_fork m_told x1 m_rowMany m_thrown m_wanted m_row m_hand) a i k) c m_rowMany m_thrown m_wanted m_row m_hand := by
  intro n
  induction n with
  | zero => intro k c hc hk h; exact False.elim h
  | succ n ih =>
    intro k c hc hk h
    have hr := tp_r (F_X10_allStandings m_standings)
    have hi : Int32.toInt c = ((i + k : Nat) : Int) := by rw [hc]; exact nI_toInt (by omega)
    have h : ws_X10_birds_25 P (wb_X10_birds_25 P m_fruits m_standings m_now m_x m_height m_worth m_ripe m_foot m_fork m_told n) m_fruits m_standings m_now m_x m_height m_worth m_ripe m_foot m_fork m_told x1 (itr (bd_X10_birds_25 m_fruits m_standings m_now m_x m_height m_worth m_ripe m_foot m_fork m_told x1 m_rowMany m_thrown m_wanted m_row m_hand) a i k) c m_rowMany m_thrown m_wanted m_row m_hand := h
    show ws_X10_birds_25 Q (wb_X10_birds_25 Q m_fruits m_standings m_now m_x m_height m_worth m_ripe m_foot m_fork m_told n) m_fruits m_standings m_now m_x m_height m_worth m_ripe m_foot m_fork m_told x1 (itr (bd_X10_birds_25 m_fruits m_standings m_now m_x m_height m_worth m_ripe m_foot m_fork m_told x1 m_rowMany m_thrown m_wanted m_row m_hand) a i k) c m_rowMany m_thrown m_wanted m_row m_hand
    unfold ws_X10_birds_25 at h ⊢
    refine du_X10_allStandings h ?_
    intro h
    refine And.intro (fun t0 => ?_) (fun t0 => ?_)
    · have h := And.left h t0
      have t1 := (fa_lt _ _).mp t0
      have hk2 : k = (Int32.toInt (F_X10_allStandings m_standings) + 1 - ((i : Nat) : Int)).toNat := by omega
      subst hk2
      exact hE _ _ hc rfl h
    · have h := And.right h t0
      have t1 := mt (fa_lt _ _).mpr t0
      have hs : ∀ o : Int32, o = itr (bd_X10_birds_25 m_fruits m_standings m_now m_x m_height m_worth m_ripe m_foot m_fork m_told x1 m_rowMany m_thrown m_wanted m_row m_hand) a i (k + 1) → wb_X10_birds_25 P m_fruits m_standings m_now m_x m_height m_worth m_ripe m_foot m_fork m_told n x1 o (c + 1) m_rowMany m_thrown m_wanted m_row m_hand → wb_X10_birds_25 Q m_fruits m_standings m_now m_x m_height m_worth m_ripe m_foot m_fork m_told n x1 o (c + 1) m_rowMany m_thrown m_wanted m_row m_hand := by
        intro o eo h9
        have q := ih (k + 1) (c + 1) (by rw [hc]; exact nI_1 _) (by omega)
        rw [← eo] at q
        exact q h9
      rw [itr_s, ← hc, bd_X10_birds_25] at hs
      refine du_J6_bitCount_0f7a4 h ?_
      intro h
      refine And.intro (fun c1 => ?_) (fun c1 => ?_)
      · have h := And.left h c1
        rw [if_pos c1] at hs
        refine du_X10_leftBy h ?_
        intro h
        refine du_X10_leftBy h ?_
        intro h
        refine ae ?_
        have h := h _ rfl
        refine And.intro (fun c2 => ?_) (fun c2 => ?_)
        · have h := And.left h c2
          rw [if_pos c2] at hs
          rw [j_X10_birds_80] at hs
          unfold ws_X10_birds_80 at h ⊢
          rw [j_X10_birds_82] at hs
          unfold ws_X10_birds_82 at h ⊢
          refine ae ?_
          have h := h _ rfl
          have q9 := hs _ rfl
          exact q9 h
        · have h := And.right h c2
          rw [if_neg c2] at hs
          refine And.intro (fun c3 => ?_) (fun c3 => ?_)
          · have h := And.left h c3
            rw [if_neg c3] at hs
            rw [j_X10_birds_82] at hs
            unfold ws_X10_birds_82 at h ⊢
            refine ae ?_
            have h := h _ rfl
            have q9 := hs _ rfl
            exact q9 h
          · have h := And.right h c3
            rw [if_pos c3] at hs
            refine du_J6_bitCount_0f7a4 h ?_
            intro h
            refine And.intro (fun c4 => ?_) (fun c4 => ?_)
            · have h := And.left h c4
              rw [if_pos c4] at hs
              rw [j_X10_birds_82] at hs
              unfold ws_X10_birds_82 at h ⊢
              refine ae ?_
              have h := h _ rfl
              have q9 := hs _ rfl
              exact q9 h
            · have h := And.right h c4
              rw [if_neg c4] at hs
              rw [j_X10_birds_80] at hs
              unfold ws_X10_birds_80 at h ⊢
              rw [j_X10_birds_82] at hs
              unfold ws_X10_birds_82 at h ⊢
              refine ae ?_
              have h := h _ rfl
              have q9 := hs _ rfl
              exact q9 h
      · have h := And.right h c1
        rw [if_neg c1] at hs
        rw [j_X10_birds_82] at hs
        unfold ws_X10_birds_82 at h ⊢
        refine ae ?_
        have h := h _ rfl
        have q9 := hs _ rfl
        exact q9 h
noncomputable def F_X10_birds (p0 : Int32) (m_fruits : Int32) (m_standings : Int32) (m_rowMany : Int32) (m_thrown : Int32) (m_wanted : Int32) (m_now : Nat → Int32) (m_x : Nat → Int32) (m_height : Nat → Int32) (m_worth : Nat → Int32) (m_ripe : Nat → Int32) (m_foot : Nat → Int32) (m_fork : Nat → Int32) (m_told : Nat → Int32) (m_row : Nat → Int32) (m_hand : Nat → Int32) : Int32 × Int32 × Int32 × Int32 × (Nat → Int32) × (Nat → Int32) := if (F_X10_in p0 0 8) = 0 then ((-1), m_rowMany, 0, m_wanted, m_row, m_hand) else (ex_X10_birds_25 (fun o0 o1 o2 o3 o4 o5 => (o0, o1, o2, o3, o4, o5)) m_fruits m_standings m_now m_x m_height m_worth m_ripe m_foot m_fork m_told p0 m_rowMany 0 ((F_X10_layHands m_fruits m_standings m_wanted m_now m_x m_height m_ripe m_foot m_fork m_told m_hand).1) m_row ((F_X10_layHands m_fruits m_standings m_wanted m_now m_x m_height m_ripe m_foot m_fork m_told m_hand).2) (nI (1 + (Int32.toInt (F_X10_allStandings m_standings) + 1 - ((1 : Nat) : Int)).toNat)) (itr (bd_X10_birds_25 m_fruits m_standings m_now m_x m_height m_worth m_ripe m_foot m_fork m_told p0 m_rowMany 0 ((F_X10_layHands m_fruits m_standings m_wanted m_now m_x m_height m_ripe m_foot m_fork m_told m_hand).1) m_row ((F_X10_layHands m_fruits m_standings m_wanted m_now m_x m_height m_ripe m_foot m_fork m_told m_hand).2)) 0 1 (Int32.toInt (F_X10_allStandings m_standings) + 1 - ((1 : Nat) : Int)).toNat))
set_option maxHeartbeats 200000 in
set_option maxRecDepth 10000 in
theorem dt_X10_birds {P Q : Int32 → Int32 → Int32 → Int32 → (Nat → Int32) → (Nat → Int32) → Prop} {p0 : Int32} {m_fruits : Int32} {m_standings : Int32} {m_rowMany : Int32} {m_thrown : Int32} {m_wanted : Int32} {m_now : Nat → Int32} {m_x : Nat → Int32} {m_height : Nat → Int32} {m_worth : Nat → Int32} {m_ripe : Nat → Int32} {m_foot : Nat → Int32} {m_fork : Nat → Int32} {m_told : Nat → Int32} {m_row : Nat → Int32} {m_hand : Nat → Int32} (hy0 : Int32.toInt (F_X10_allStandings m_standings) < 2147483647) (h : wp_X10_birds P p0 m_fruits m_standings m_rowMany m_thrown m_wanted m_now m_x m_height m_worth m_ripe m_foot m_fork m_told m_row m_hand) (hq : ∀ o : Int32 × Int32 × Int32 × Int32 × (Nat → Int32) × (Nat → Int32), o = F_X10_birds p0 m_fruits m_standings m_rowMany m_thrown m_wanted m_now m_x m_height m_worth m_ripe m_foot m_fork m_told m_row m_hand → P o.1 o.2.1 o.2.2.1 o.2.2.2.1 o.2.2.2.2.1 o.2.2.2.2.2 → Q o.1 o.2.1 o.2.2.1 o.2.2.2.1 o.2.2.2.2.1 o.2.2.2.2.2) : wp_X10_birds Q p0 m_fruits m_standings m_rowMany m_thrown m_wanted m_now m_x m_height m_worth m_ripe m_foot m_fork m_told m_row m_hand := by
  rw [F_X10_birds] at hq
  refine du_X10_in h ?_
  intro h
  refine And.intro (fun c1 => ?_) (fun c1 => ?_)
  · have h := And.left h c1
    rw [if_neg c1] at hq
    refine du_X10_layHands h ?_
    intro h
    obtain ⟨n2, h⟩ := h
    refine ⟨n2, dl_X10_birds_25 (a := 0) (i := 1) (by decide) hy0 ?_ n2 0 1 (by decide) (Nat.zero_le _) h⟩
    intro cc3 s4 ec5 es6 h
    rw [← ec5, ← es6, ex_X10_birds_25] at hq
    refine du_X10_tell h ?_
    intro h
    refine du_X10_handOf h ?_
    intro h
    refine ae ?_
    have h := h _ rfl
    refine du_X10_tell h ?_
    intro h
    refine du_X10_leftBy h ?_
    intro h
    have q9 := hq _ rfl
    dsimp only at q9
    exact q9 h
  · have h := And.right h c1
    rw [if_pos c1] at hq
    have q9 := hq _ rfl
    dsimp only at q9
    exact q9 h
theorem du_X10_birds {P Q : Int32 → Int32 → Int32 → Int32 → (Nat → Int32) → (Nat → Int32) → Prop} {p0 : Int32} {m_fruits : Int32} {m_standings : Int32} {m_rowMany : Int32} {m_thrown : Int32} {m_wanted : Int32} {m_now : Nat → Int32} {m_x : Nat → Int32} {m_height : Nat → Int32} {m_worth : Nat → Int32} {m_ripe : Nat → Int32} {m_foot : Nat → Int32} {m_fork : Nat → Int32} {m_told : Nat → Int32} {m_row : Nat → Int32} {m_hand : Nat → Int32} (hy0 : Int32.toInt (F_X10_allStandings m_standings) < 2147483647) (h : wp_X10_birds P p0 m_fruits m_standings m_rowMany m_thrown m_wanted m_now m_x m_height m_worth m_ripe m_foot m_fork m_told m_row m_hand) (hq : P (F_X10_birds p0 m_fruits m_standings m_rowMany m_thrown m_wanted m_now m_x m_height m_worth m_ripe m_foot m_fork m_told m_row m_hand).1 (F_X10_birds p0 m_fruits m_standings m_rowMany m_thrown m_wanted m_now m_x m_height m_worth m_ripe m_foot m_fork m_told m_row m_hand).2.1 (F_X10_birds p0 m_fruits m_standings m_rowMany m_thrown m_wanted m_now m_x m_height m_worth m_ripe m_foot m_fork m_told m_row m_hand).2.2.1 (F_X10_birds p0 m_fruits m_standings m_rowMany m_thrown m_wanted m_now m_x m_height m_worth m_ripe m_foot m_fork m_told m_row m_hand).2.2.2.1 (F_X10_birds p0 m_fruits m_standings m_rowMany m_thrown m_wanted m_now m_x m_height m_worth m_ripe m_foot m_fork m_told m_row m_hand).2.2.2.2.1 (F_X10_birds p0 m_fruits m_standings m_rowMany m_thrown m_wanted m_now m_x m_height m_worth m_ripe m_foot m_fork m_told m_row m_hand).2.2.2.2.2 → Q (F_X10_birds p0 m_fruits m_standings m_rowMany m_thrown m_wanted m_now m_x m_height m_worth m_ripe m_foot m_fork m_told m_row m_hand).1 (F_X10_birds p0 m_fruits m_standings m_rowMany m_thrown m_wanted m_now m_x m_height m_worth m_ripe m_foot m_fork m_told m_row m_hand).2.1 (F_X10_birds p0 m_fruits m_standings m_rowMany m_thrown m_wanted m_now m_x m_height m_worth m_ripe m_foot m_fork m_told m_row m_hand).2.2.1 (F_X10_birds p0 m_fruits m_standings m_rowMany m_thrown m_wanted m_now m_x m_height m_worth m_ripe m_foot m_fork m_told m_row m_hand).2.2.2.1 (F_X10_birds p0 m_fruits m_standings m_rowMany m_thrown m_wanted m_now m_x m_height m_worth m_ripe m_foot m_fork m_told m_row m_hand).2.2.2.2.1 (F_X10_birds p0 m_fruits m_standings m_rowMany m_thrown m_wanted m_now m_x m_height m_worth m_ripe m_foot m_fork m_told m_row m_hand).2.2.2.2.2) : wp_X10_birds Q p0 m_fruits m_standings m_rowMany m_thrown m_wanted m_now m_x m_height m_worth m_ripe m_foot m_fork m_told m_row m_hand := dt_X10_birds hy0 h (fun o eo => by rw [eo]; exact hq)
theorem dw_X10_birds {Q : Int32 → Int32 → Int32 → Int32 → (Nat → Int32) → (Nat → Int32) → Prop} {p0 : Int32} {m_fruits : Int32} {m_standings : Int32} {m_rowMany : Int32} {m_thrown : Int32} {m_wanted : Int32} {m_now : Nat → Int32} {m_x : Nat → Int32} {m_height : Nat → Int32} {m_worth : Nat → Int32} {m_ripe : Nat → Int32} {m_foot : Nat → Int32} {m_fork : Nat → Int32} {m_told : Nat → Int32} {m_row : Nat → Int32} {m_hand : Nat → Int32} (hy0 : Int32.toInt (F_X10_allStandings m_standings) < 2147483647) (h : wp_X10_birds (fun o0 o1 o2 o3 o4 o5 => (o0, o1, o2, o3, o4, o5) = F_X10_birds p0 m_fruits m_standings m_rowMany m_thrown m_wanted m_now m_x m_height m_worth m_ripe m_foot m_fork m_told m_row m_hand → Q o0 o1 o2 o3 o4 o5) p0 m_fruits m_standings m_rowMany m_thrown m_wanted m_now m_x m_height m_worth m_ripe m_foot m_fork m_told m_row m_hand) : wp_X10_birds Q p0 m_fruits m_standings m_rowMany m_thrown m_wanted m_now m_x m_height m_worth m_ripe m_foot m_fork m_told m_row m_hand := dt_X10_birds hy0 h (fun o eo hp => hp eo)
noncomputable def j_X10_next_71 {R : Type} (k28 : Int32 → Int32 → Int32 → Int32 → Int32 → Int32 → (Nat → Int32) → (Nat → Int32) → R) (m_fruits : Int32) (m_standings : Int32) (m_now : Nat → Int32) (m_x : Nat → Int32) (m_height : Nat → Int32) (m_worth : Nat → Int32) (m_ripe : Nat → Int32) (m_foot : Nat → Int32) (m_fork : Nat → Int32) (m_told : Nat → Int32) (x1 : Int32) (x2 : Int32) (x3 : Int32) (m_rowMany : Int32) (m_thrown : Int32) (m_wanted : Int32) (m_row : Nat → Int32) (m_hand : Nat → Int32) : R := k28 x1 x2 (x3 + 1) m_rowMany m_thrown m_wanted m_row m_hand
noncomputable def j_X10_next_69 {R : Type} (k28 : Int32 → Int32 → Int32 → Int32 → Int32 → Int32 → (Nat → Int32) → (Nat → Int32) → R) (m_fruits : Int32) (m_standings : Int32) (m_now : Nat → Int32) (m_x : Nat → Int32) (m_height : Nat → Int32) (m_worth : Nat → Int32) (m_ripe : Nat → Int32) (m_foot : Nat → Int32) (m_fork : Nat → Int32) (m_told : Nat → Int32) (x1 : Int32) (x3 : Int32) (m_rowMany : Int32) (m_thrown : Int32) (m_wanted : Int32) (m_row : Nat → Int32) (m_hand : Nat → Int32) : R := j_X10_next_71 k28 m_fruits m_standings m_now m_x m_height m_worth m_ripe m_foot m_fork m_told x1 x3 x3 m_rowMany m_thrown m_wanted m_row m_hand
noncomputable def bd_X10_next_28 (m_fruits : Int32) (m_standings : Int32) (m_now : Nat → Int32) (m_x : Nat → Int32) (m_height : Nat → Int32) (m_worth : Nat → Int32) (m_ripe : Nat → Int32) (m_foot : Nat → Int32) (m_fork : Nat → Int32) (m_told : Nat → Int32) (x1 : Int32) (m_rowMany : Int32) (m_thrown : Int32) (m_wanted : Int32) (m_row : Nat → Int32) (m_hand : Nat → Int32) (c : Int32) (s : Int32) : Int32 := if (F_X10_has x1 c) = 0 then (if s < 0 then (j_X10_next_69 (fun q0 q1 q2 q3 q4 q5 q6 q7 => q1) m_fruits m_standings m_now m_x m_height m_worth m_ripe m_foot m_fork m_told x1 c m_rowMany m_thrown m_wanted m_row m_hand) else (if (F_X10_leftBy (x1 ||| (1 <<< (s &&& 31))) m_fruits m_standings m_wanted m_now m_worth m_hand) ≤ (F_X10_leftBy (x1 ||| (1 <<< (c &&& 31))) m_fruits m_standings m_wanted m_now m_worth m_hand) then (j_X10_next_71 (fun q0 q1 q2 q3 q4 q5 q6 q7 => q1) m_fruits m_standings m_now m_x m_height m_worth m_ripe m_foot m_fork m_told x1 s c m_rowMany m_thrown m_wanted m_row m_hand) else (j_X10_next_69 (fun q0 q1 q2 q3 q4 q5 q6 q7 => q1) m_fruits m_standings m_now m_x m_height m_worth m_ripe m_foot m_fork m_told x1 c m_rowMany m_thrown m_wanted m_row m_hand))) else (j_X10_next_71 (fun q0 q1 q2 q3 q4 q5 q6 q7 => q1) m_fruits m_standings m_now m_x m_height m_worth m_ripe m_foot m_fork m_told x1 s c m_rowMany m_thrown m_wanted m_row m_hand)
noncomputable def ex_X10_next_28 {R : Type} (po : Int32 → Int32 → Int32 → Int32 → (Nat → Int32) → (Nat → Int32) → R) (m_fruits : Int32) (m_standings : Int32) (m_now : Nat → Int32) (m_x : Nat → Int32) (m_height : Nat → Int32) (m_worth : Nat → Int32) (m_ripe : Nat → Int32) (m_foot : Nat → Int32) (m_fork : Nat → Int32) (m_told : Nat → Int32) (x1 : Int32) (m_rowMany : Int32) (m_thrown : Int32) (m_wanted : Int32) (m_row : Nat → Int32) (m_hand : Nat → Int32) (c : Int32) (s : Int32) : R := if 0 ≤ s then (po s ((F_X10_tell (F_X10_leftBy x1 m_fruits m_standings m_wanted m_now m_worth m_hand) (F_X10_tell (F_X10_leftBy (x1 ||| (1 <<< (s &&& 31))) m_fruits m_standings m_wanted m_now m_worth m_hand) 0 m_row).1 (F_X10_tell (F_X10_leftBy (x1 ||| (1 <<< (s &&& 31))) m_fruits m_standings m_wanted m_now m_worth m_hand) 0 m_row).2).1) m_thrown m_wanted ((F_X10_tell (F_X10_leftBy x1 m_fruits m_standings m_wanted m_now m_worth m_hand) (F_X10_tell (F_X10_leftBy (x1 ||| (1 <<< (s &&& 31))) m_fruits m_standings m_wanted m_now m_worth m_hand) 0 m_row).1 (F_X10_tell (F_X10_leftBy (x1 ||| (1 <<< (s &&& 31))) m_fruits m_standings m_wanted m_now m_worth m_hand) 0 m_row).2).2) m_hand) else (po (-2) m_rowMany m_thrown m_wanted m_row m_hand)
set_option maxHeartbeats 200000 in
set_option maxRecDepth 10000 in
theorem dl_X10_next_28 {P Q : Int32 → Int32 → Int32 → Int32 → (Nat → Int32) → (Nat → Int32) → Prop} {m_fruits : Int32} {m_standings : Int32} {m_now : Nat → Int32} {m_x : Nat → Int32} {m_height : Nat → Int32} {m_worth : Nat → Int32} {m_ripe : Nat → Int32} {m_foot : Nat → Int32} {m_fork : Nat → Int32} {m_told : Nat → Int32} {x1 : Int32} {m_rowMany : Int32} {m_thrown : Int32} {m_wanted : Int32} {m_row : Nat → Int32} {m_hand : Nat → Int32} {a : Int32} {i : Nat} (hi0 : i < 2147483648) (hE : ∀ (c : Int32) (s : Int32), c = nI (i + (Int32.toInt m_standings - ((i : Nat) : Int)).toNat) → s = itr (bd_X10_next_28 m_fruits m_standings m_now m_x m_height m_worth m_ripe m_foot m_fork m_told x1 m_rowMany m_thrown m_wanted m_row m_hand) a i (Int32.toInt m_standings - ((i : Nat) : Int)).toNat → ((0 ≤ s → ∀ v_5 : Int32, v_5 = x1 ||| (1 <<< (s &&& 31)) → wp_X10_leftBy (fun r_6 => wp_X10_tell (fun m_rowMany_7 m_row_8 => wp_X10_leftBy (fun r_9 => wp_X10_tell (fun m_rowMany_10 m_row_11 => P s m_rowMany_10 m_thrown m_wanted m_row_11 m_hand) r_9 m_rowMany_7 m_row_8) x1 m_fruits m_standings m_wanted m_now m_worth m_hand) r_6 0 m_row) v_5 m_fruits m_standings m_wanted m_now m_worth m_hand) ∧ (¬ 0 ≤ s → P (-2) m_rowMany m_thrown m_wanted m_row m_hand)) → ((0 ≤ s → ∀ v_5 : Int32, v_5 = x1 ||| (1 <<< (s &&& 31)) → wp_X10_leftBy (fun r_6 => wp_X10_tell (fun m_rowMany_7 m_row_8 => wp_X10_leftBy (fun r_9 => wp_X10_tell (fun m_rowMany_10 m_row_11 => Q s m_rowMany_10 m_thrown m_wanted m_row_11 m_hand) r_9 m_rowMany_7 m_row_8) x1 m_fruits m_standings m_wanted m_now m_worth m_hand) r_6 0 m_row) v_5 m_fruits m_standings m_wanted m_now m_worth m_hand) ∧ (¬ 0 ≤ s → Q (-2) m_rowMany m_thrown m_wanted m_row m_hand))) : ∀ (n k : Nat) (c : Int32), c = nI (i + k) → k ≤ (Int32.toInt m_standings - ((i : Nat) : Int)).toNat → wb_X10_next_28 P m_fruits m_standings m_now m_x m_height m_worth m_ripe m_foot m_fork m_told n x1 (itr (bd_X10_next_28 m_fruits m_standings m_now m_x m_height m_worth m_ripe m_foot m_fork m_told x1 m_rowMany m_thrown m_wanted m_row m_hand) a i k) c m_rowMany m_thrown m_wanted m_row m_hand → wb_X10_next_28 Q m_fruits m_standings m_now m_x m_height m_worth m_ripe m_foot m_fork m_told n x1 (itr (bd_X10_next_28 m_fruits m_standings m_now m_x m_height m_worth m_ripe m_foot m_fork m_told x1 m_rowMany m_thrown m_wanted m_row m_hand) a i k) c m_rowMany m_thrown m_wanted m_row m_hand := by
  intro n
  induction n with
  | zero => intro k c hc hk h; exact False.elim h
  | succ n ih =>
    intro k c hc hk h
    have hr := tp_r m_standings
    have hi : Int32.toInt c = ((i + k : Nat) : Int) := by rw [hc]; exact nI_toInt (by omega)
    refine And.intro (fun t0 => ?_) (fun t0 => ?_)
    · have h := And.left h t0
      have t1 := (fa_le _ _).mp t0
      have hk2 : k = (Int32.toInt m_standings - ((i : Nat) : Int)).toNat := by omega
      subst hk2
      exact hE _ _ hc rfl h
    · have h := And.right h t0
      have t1 := mt (fa_le _ _).mpr t0
      have hs : ∀ o : Int32, o = itr (bd_X10_next_28 m_fruits m_standings m_now m_x m_height m_worth m_ripe m_foot m_fork m_told x1 m_rowMany m_thrown m_wanted m_row m_hand) a i (k + 1) → wb_X10_next_28 P m_fruits m_standings m_now m_x m_height m_worth m_ripe m_foot m_fork m_told n x1 o (c + 1) m_rowMany m_thrown m_wanted m_row m_hand → wb_X10_next_28 Q m_fruits m_standings m_now m_x m_height m_worth m_ripe m_foot m_fork m_told n x1 o (c + 1) m_rowMany m_thrown m_wanted m_row m_hand := by
        intro o eo h9
        have q := ih (k + 1) (c + 1) (by rw [hc]; exact nI_1 _) (by omega)
        rw [← eo] at q
        exact q h9
      rw [itr_s, ← hc, bd_X10_next_28] at hs
      refine du_X10_has h ?_
      intro h
      refine And.intro (fun c1 => ?_) (fun c1 => ?_)
      · have h := And.left h c1
        rw [if_neg c1] at hs
        rw [j_X10_next_71] at hs
        unfold ws_X10_next_71 at h ⊢
        refine ae ?_
        have h := h _ rfl
        have q9 := hs _ rfl
        exact q9 h
      · have h := And.right h c1
        rw [if_pos c1] at hs
        refine And.intro (fun c2 => ?_) (fun c2 => ?_)
        · have h := And.left h c2
          rw [if_pos c2] at hs
          rw [j_X10_next_69] at hs
          unfold ws_X10_next_69 at h ⊢
          rw [j_X10_next_71] at hs
          unfold ws_X10_next_71 at h ⊢
          refine ae ?_
          have h := h _ rfl
          have q9 := hs _ rfl
          exact q9 h
        · have h := And.right h c2
          rw [if_neg c2] at hs
          refine ae ?_
          have h := h _ rfl
          refine du_X10_leftBy h ?_
          intro h
          refine ae ?_
          have h := h _ rfl
          refine du_X10_leftBy h ?_
          intro h
          refine And.intro (fun c3 => ?_) (fun c3 => ?_)
          · have h := And.left h c3
            rw [if_pos c3] at hs
            rw [j_X10_next_71] at hs
            unfold ws_X10_next_71 at h ⊢
            refine ae ?_
            have h := h _ rfl
            have q9 := hs _ rfl
            exact q9 h
          · have h := And.right h c3
            rw [if_neg c3] at hs
            rw [j_X10_next_69] at hs
            unfold ws_X10_next_69 at h ⊢
            rw [j_X10_next_71] at hs
            unfold ws_X10_next_71 at h ⊢
            refine ae ?_
            have h := h _ rfl
            have q9 := hs _ rfl
            exact q9 h
noncomputable def F_X10_next (p0 : Int32) (m_fruits : Int32) (m_standings : Int32) (m_rowMany : Int32) (m_thrown : Int32) (m_wanted : Int32) (m_now : Nat → Int32) (m_x : Nat → Int32) (m_height : Nat → Int32) (m_worth : Nat → Int32) (m_ripe : Nat → Int32) (m_foot : Nat → Int32) (m_fork : Nat → Int32) (m_told : Nat → Int32) (m_row : Nat → Int32) (m_hand : Nat → Int32) : Int32 × Int32 × Int32 × Int32 × (Nat → Int32) × (Nat → Int32) := if (F_X10_in p0 0 (F_X10_allStandings m_standings)) = 0 then ((-1), m_rowMany, 0, m_wanted, m_row, m_hand) else (ex_X10_next_28 (fun o0 o1 o2 o3 o4 o5 => (o0, o1, o2, o3, o4, o5)) m_fruits m_standings m_now m_x m_height m_worth m_ripe m_foot m_fork m_told p0 m_rowMany 0 ((F_X10_layHands m_fruits m_standings m_wanted m_now m_x m_height m_ripe m_foot m_fork m_told m_hand).1) m_row ((F_X10_layHands m_fruits m_standings m_wanted m_now m_x m_height m_ripe m_foot m_fork m_told m_hand).2) (nI (0 + (Int32.toInt m_standings - ((0 : Nat) : Int)).toNat)) (itr (bd_X10_next_28 m_fruits m_standings m_now m_x m_height m_worth m_ripe m_foot m_fork m_told p0 m_rowMany 0 ((F_X10_layHands m_fruits m_standings m_wanted m_now m_x m_height m_ripe m_foot m_fork m_told m_hand).1) m_row ((F_X10_layHands m_fruits m_standings m_wanted m_now m_x m_height m_ripe m_foot m_fork m_told m_hand).2)) (-2) 0 (Int32.toInt m_standings - ((0 : Nat) : Int)).toNat))
set_option maxHeartbeats 200000 in
set_option maxRecDepth 10000 in
theorem dt_X10_next {P Q : Int32 → Int32 → Int32 → Int32 → (Nat → Int32) → (Nat → Int32) → Prop} {p0 : Int32} {m_fruits : Int32} {m_standings : Int32} {m_rowMany : Int32} {m_thrown : Int32} {m_wanted : Int32} {m_now : Nat → Int32} {m_x : Nat → Int32} {m_height : Nat → Int32} {m_worth : Nat → Int32} {m_ripe : Nat → Int32} {m_foot : Nat → Int32} {m_fork : Nat → Int32} {m_told : Nat → Int32} {m_row : Nat → Int32} {m_hand : Nat → Int32} (h : wp_X10_next P p0 m_fruits m_standings m_rowMany m_thrown m_wanted m_now m_x m_height m_worth m_ripe m_foot m_fork m_told m_row m_hand) (hq : ∀ o : Int32 × Int32 × Int32 × Int32 × (Nat → Int32) × (Nat → Int32), o = F_X10_next p0 m_fruits m_standings m_rowMany m_thrown m_wanted m_now m_x m_height m_worth m_ripe m_foot m_fork m_told m_row m_hand → P o.1 o.2.1 o.2.2.1 o.2.2.2.1 o.2.2.2.2.1 o.2.2.2.2.2 → Q o.1 o.2.1 o.2.2.1 o.2.2.2.1 o.2.2.2.2.1 o.2.2.2.2.2) : wp_X10_next Q p0 m_fruits m_standings m_rowMany m_thrown m_wanted m_now m_x m_height m_worth m_ripe m_foot m_fork m_told m_row m_hand := by
  rw [F_X10_next] at hq
  refine du_X10_allStandings h ?_
  intro h
  refine du_X10_in h ?_
  intro h
  refine And.intro (fun c1 => ?_) (fun c1 => ?_)
  · have h := And.left h c1
    rw [if_neg c1] at hq
    refine du_X10_layHands h ?_
    intro h
    obtain ⟨n2, h⟩ := h
    refine ⟨n2, dl_X10_next_28 (a := (-2)) (i := 0) (by decide) ?_ n2 0 0 (by decide) (Nat.zero_le _) h⟩
    intro cc3 s4 ec5 es6 h
    rw [← ec5, ← es6, ex_X10_next_28] at hq
    refine And.intro (fun c7 => ?_) (fun c7 => ?_)
    · have h := And.left h c7
      rw [if_pos c7] at hq
      refine ae ?_
      have h := h _ rfl
      refine du_X10_leftBy h ?_
      intro h
      refine du_X10_tell h ?_
      intro h
      refine du_X10_leftBy h ?_
      intro h
      refine du_X10_tell h ?_
      intro h
      have q9 := hq _ rfl
      dsimp only at q9
      exact q9 h
    · have h := And.right h c7
      rw [if_neg c7] at hq
      have q9 := hq _ rfl
      dsimp only at q9
      exact q9 h
  · have h := And.right h c1
    rw [if_pos c1] at hq
    have q9 := hq _ rfl
    dsimp only at q9
    exact q9 h
theorem du_X10_next {P Q : Int32 → Int32 → Int32 → Int32 → (Nat → Int32) → (Nat → Int32) → Prop} {p0 : Int32} {m_fruits : Int32} {m_standings : Int32} {m_rowMany : Int32} {m_thrown : Int32} {m_wanted : Int32} {m_now : Nat → Int32} {m_x : Nat → Int32} {m_height : Nat → Int32} {m_worth : Nat → Int32} {m_ripe : Nat → Int32} {m_foot : Nat → Int32} {m_fork : Nat → Int32} {m_told : Nat → Int32} {m_row : Nat → Int32} {m_hand : Nat → Int32} (h : wp_X10_next P p0 m_fruits m_standings m_rowMany m_thrown m_wanted m_now m_x m_height m_worth m_ripe m_foot m_fork m_told m_row m_hand) (hq : P (F_X10_next p0 m_fruits m_standings m_rowMany m_thrown m_wanted m_now m_x m_height m_worth m_ripe m_foot m_fork m_told m_row m_hand).1 (F_X10_next p0 m_fruits m_standings m_rowMany m_thrown m_wanted m_now m_x m_height m_worth m_ripe m_foot m_fork m_told m_row m_hand).2.1 (F_X10_next p0 m_fruits m_standings m_rowMany m_thrown m_wanted m_now m_x m_height m_worth m_ripe m_foot m_fork m_told m_row m_hand).2.2.1 (F_X10_next p0 m_fruits m_standings m_rowMany m_thrown m_wanted m_now m_x m_height m_worth m_ripe m_foot m_fork m_told m_row m_hand).2.2.2.1 (F_X10_next p0 m_fruits m_standings m_rowMany m_thrown m_wanted m_now m_x m_height m_worth m_ripe m_foot m_fork m_told m_row m_hand).2.2.2.2.1 (F_X10_next p0 m_fruits m_standings m_rowMany m_thrown m_wanted m_now m_x m_height m_worth m_ripe m_foot m_fork m_told m_row m_hand).2.2.2.2.2 → Q (F_X10_next p0 m_fruits m_standings m_rowMany m_thrown m_wanted m_now m_x m_height m_worth m_ripe m_foot m_fork m_told m_row m_hand).1 (F_X10_next p0 m_fruits m_standings m_rowMany m_thrown m_wanted m_now m_x m_height m_worth m_ripe m_foot m_fork m_told m_row m_hand).2.1 (F_X10_next p0 m_fruits m_standings m_rowMany m_thrown m_wanted m_now m_x m_height m_worth m_ripe m_foot m_fork m_told m_row m_hand).2.2.1 (F_X10_next p0 m_fruits m_standings m_rowMany m_thrown m_wanted m_now m_x m_height m_worth m_ripe m_foot m_fork m_told m_row m_hand).2.2.2.1 (F_X10_next p0 m_fruits m_standings m_rowMany m_thrown m_wanted m_now m_x m_height m_worth m_ripe m_foot m_fork m_told m_row m_hand).2.2.2.2.1 (F_X10_next p0 m_fruits m_standings m_rowMany m_thrown m_wanted m_now m_x m_height m_worth m_ripe m_foot m_fork m_told m_row m_hand).2.2.2.2.2) : wp_X10_next Q p0 m_fruits m_standings m_rowMany m_thrown m_wanted m_now m_x m_height m_worth m_ripe m_foot m_fork m_told m_row m_hand := dt_X10_next h (fun o eo => by rw [eo]; exact hq)
theorem dw_X10_next {Q : Int32 → Int32 → Int32 → Int32 → (Nat → Int32) → (Nat → Int32) → Prop} {p0 : Int32} {m_fruits : Int32} {m_standings : Int32} {m_rowMany : Int32} {m_thrown : Int32} {m_wanted : Int32} {m_now : Nat → Int32} {m_x : Nat → Int32} {m_height : Nat → Int32} {m_worth : Nat → Int32} {m_ripe : Nat → Int32} {m_foot : Nat → Int32} {m_fork : Nat → Int32} {m_told : Nat → Int32} {m_row : Nat → Int32} {m_hand : Nat → Int32} (h : wp_X10_next (fun o0 o1 o2 o3 o4 o5 => (o0, o1, o2, o3, o4, o5) = F_X10_next p0 m_fruits m_standings m_rowMany m_thrown m_wanted m_now m_x m_height m_worth m_ripe m_foot m_fork m_told m_row m_hand → Q o0 o1 o2 o3 o4 o5) p0 m_fruits m_standings m_rowMany m_thrown m_wanted m_now m_x m_height m_worth m_ripe m_foot m_fork m_told m_row m_hand) : wp_X10_next Q p0 m_fruits m_standings m_rowMany m_thrown m_wanted m_now m_x m_height m_worth m_ripe m_foot m_fork m_told m_row m_hand := dt_X10_next h (fun o eo hp => hp eo)
noncomputable def F_X10_leastMoves (p0 : Int32) (p1 : Int32) (m_moves : Nat → Int32) : Int32 := (m_moves ((p0 <<< (8 &&& 31)) + p1).toNatClampNeg)
set_option maxHeartbeats 200000 in
set_option maxRecDepth 10000 in
theorem dt_X10_leastMoves {P Q : Int32 → Prop} {p0 : Int32} {p1 : Int32} {m_moves : Nat → Int32} (h : wp_X10_leastMoves P p0 p1 m_moves) (hq : ∀ o : Int32, o = F_X10_leastMoves p0 p1 m_moves → P o → Q o) : wp_X10_leastMoves Q p0 p1 m_moves := by
  rw [F_X10_leastMoves] at hq
  refine ae ?_
  have h := h _ rfl
  refine ae ?_
  have h := h _ rfl
  refine And.intro (And.left h) ?_
  have h := And.right h
  have q9 := hq _ rfl
  exact q9 h
theorem du_X10_leastMoves {P Q : Int32 → Prop} {p0 : Int32} {p1 : Int32} {m_moves : Nat → Int32} (h : wp_X10_leastMoves P p0 p1 m_moves) (hq : P (F_X10_leastMoves p0 p1 m_moves) → Q (F_X10_leastMoves p0 p1 m_moves)) : wp_X10_leastMoves Q p0 p1 m_moves := dt_X10_leastMoves h (fun o eo => by rw [eo]; exact hq)
theorem dw_X10_leastMoves {Q : Int32 → Prop} {p0 : Int32} {p1 : Int32} {m_moves : Nat → Int32} (h : wp_X10_leastMoves (fun o0 => o0 = F_X10_leastMoves p0 p1 m_moves → Q o0) p0 p1 m_moves) : wp_X10_leastMoves Q p0 p1 m_moves := dt_X10_leastMoves h (fun o eo hp => hp eo)
noncomputable def j_X10_layMoves_113 {R : Type} (k58 : Int32 → Int32 → Int32 → Int32 → (Nat → Int32) → R) (m_standings : Int32) (m_foot : Nat → Int32) (m_told : Nat → Int32) (x1 : Int32) (x2 : Int32) (x3 : Int32) (x4 : Int32) (m_moves : Nat → Int32) : R := k58 x1 x2 x3 (x4 + 1) m_moves
noncomputable def j_X10_layMoves_89 {R : Type} (k58 : Int32 → Int32 → Int32 → Int32 → (Nat → Int32) → R) (m_standings : Int32) (m_foot : Nat → Int32) (m_told : Nat → Int32) (x1 : Int32) (x2 : Int32) (x4 : Int32) (k0 : Int32) (k2 : Int32) (m_moves : Nat → Int32) : R := j_X10_layMoves_113 k58 m_standings m_foot m_told x1 x2 (if ((F_X10_moveOf k2 x4 m_foot m_told) + (F_X10_leastMoves x4 (x1 &&& ((1 <<< (x4 &&& 31)) ^^^ (-1))) m_moves)) < k0 then ((F_X10_moveOf k2 x4 m_foot m_told) + (F_X10_leastMoves x4 (x1 &&& ((1 <<< (x4 &&& 31)) ^^^ (-1))) m_moves)) else k0) x4 m_moves
noncomputable def bd_X10_layMoves_58 (m_standings : Int32) (m_foot : Nat → Int32) (m_told : Nat → Int32) (x1 : Int32) (x2 : Int32) (m_moves : Nat → Int32) (c : Int32) (s : Int32) : Int32 := if (F_X10_has x1 c) = 0 then (j_X10_layMoves_113 (fun q0 q1 q2 q3 q4 => q2) m_standings m_foot m_told x1 x2 s c m_moves) else (if x2 = 8 then (j_X10_layMoves_89 (fun q0 q1 q2 q3 q4 => q2) m_standings m_foot m_told x1 x2 c s (-1) m_moves) else (j_X10_layMoves_89 (fun q0 q1 q2 q3 q4 => q2) m_standings m_foot m_told x1 x2 c s x2 m_moves))
noncomputable def j_X10_layMoves_131 {R : Type} (k12 : Int32 → Int32 → (Nat → Int32) → R) (m_standings : Int32) (m_foot : Nat → Int32) (m_told : Nat → Int32) (x1 : Int32) (x2 : Int32) (m_moves : Nat → Int32) : R := k12 x1 (x2 + 1) m_moves
noncomputable def ex_X10_layMoves_58 {R : Type} (k12 : Int32 → Int32 → (Nat → Int32) → R) (m_standings : Int32) (m_foot : Nat → Int32) (m_told : Nat → Int32) (x1 : Int32) (x2 : Int32) (m_moves : Nat → Int32) (c : Int32) (s : Int32) : R := j_X10_layMoves_131 k12 m_standings m_foot m_told x1 x2 (upd m_moves ((x2 <<< (8 &&& 31)) + x1).toNatClampNeg s)
set_option maxHeartbeats 200000 in
set_option maxRecDepth 10000 in
theorem dl_X10_layMoves_58 {P Q : (Nat → Int32) → Prop} {K2 L2 : Int32 → (Nat → Int32) → Prop} {K12 L12 : Int32 → Int32 → (Nat → Int32) → Prop} {m_standings : Int32} {m_foot : Nat → Int32} {m_told : Nat → Int32} {x1 : Int32} {x2 : Int32} {m_moves : Nat → Int32} {a : Int32} {i : Nat} (hi0 : i < 2147483648) (hE : ∀ (c : Int32) (s : Int32), c = nI (i + (Int32.toInt m_standings - ((i : Nat) : Int)).toNat) → s = itr (bd_X10_layMoves_58 m_standings m_foot m_told x1 x2 m_moves) a i (Int32.toInt m_standings - ((i : Nat) : Int)).toNat → (∀ v_3 : Int32, v_3 = x2 <<< (8 &&& 31) → ∀ v_4 : Int32, v_4 = v_3 + x1 → vp_in v_4 2304 ∧ (ws_X10_layMoves_131 P K2 K12 m_standings m_foot m_told x1 x2 (upd m_moves v_4.toNatClampNeg s))) → (∀ v_3 : Int32, v_3 = x2 <<< (8 &&& 31) → ∀ v_4 : Int32, v_4 = v_3 + x1 → vp_in v_4 2304 ∧ (ws_X10_layMoves_131 Q L2 L12 m_standings m_foot m_told x1 x2 (upd m_moves v_4.toNatClampNeg s)))) : ∀ (n k : Nat) (c : Int32), c = nI (i + k) → k ≤ (Int32.toInt m_standings - ((i : Nat) : Int)).toNat → wb_X10_layMoves_58 P K2 K12 m_standings m_foot m_told n x1 x2 (itr (bd_X10_layMoves_58 m_standings m_foot m_told x1 x2 m_moves) a i k) c m_moves → wb_X10_layMoves_58 Q L2 L12 m_standings m_foot m_told n x1 x2 (itr (bd_X10_layMoves_58 m_standings m_foot m_told x1 x2 m_moves) a i k) c m_moves := by
  intro n
  induction n with
  | zero => intro k c hc hk h; exact False.elim h
  | succ n ih =>
    intro k c hc hk h
    have hr := tp_r m_standings
    have hi : Int32.toInt c = ((i + k : Nat) : Int) := by rw [hc]; exact nI_toInt (by omega)
    refine And.intro (fun t0 => ?_) (fun t0 => ?_)
    · have h := And.left h t0
      have t1 := (fa_le _ _).mp t0
      have hk2 : k = (Int32.toInt m_standings - ((i : Nat) : Int)).toNat := by omega
      subst hk2
      exact hE _ _ hc rfl h
    · have h := And.right h t0
      have t1 := mt (fa_le _ _).mpr t0
      have hs : ∀ o : Int32, o = itr (bd_X10_layMoves_58 m_standings m_foot m_told x1 x2 m_moves) a i (k + 1) → wb_X10_layMoves_58 P K2 K12 m_standings m_foot m_told n x1 x2 o (c + 1) m_moves → wb_X10_layMoves_58 Q L2 L12 m_standings m_foot m_told n x1 x2 o (c + 1) m_moves := by
        intro o eo h9
        have q := ih (k + 1) (c + 1) (by rw [hc]; exact nI_1 _) (by omega)
        rw [← eo] at q
        exact q h9
      rw [itr_s, ← hc, bd_X10_layMoves_58] at hs
      refine du_X10_has h ?_
      intro h
      refine And.intro (fun c1 => ?_) (fun c1 => ?_)
      · have h := And.left h c1
        rw [if_pos c1] at hs
        rw [j_X10_layMoves_113] at hs
        unfold ws_X10_layMoves_113 at h ⊢
        refine ae ?_
        have h := h _ rfl
        have q9 := hs _ rfl
        exact q9 h
      · have h := And.right h c1
        rw [if_neg c1] at hs
        refine And.intro (fun c2 => ?_) (fun c2 => ?_)
        · have h := And.left h c2
          rw [if_neg c2] at hs
          rw [j_X10_layMoves_89] at hs
          unfold ws_X10_layMoves_89 at h ⊢
          refine du_X10_moveOf h ?_
          intro h
          refine ae ?_
          have h := h _ rfl
          refine ae ?_
          have h := h _ rfl
          refine du_X10_leastMoves h ?_
          intro h
          refine ae ?_
          have h := h _ rfl
          refine ae ?_
          have h := h _ rfl
          rw [j_X10_layMoves_113] at hs
          unfold ws_X10_layMoves_113 at h ⊢
          refine ae ?_
          have h := h _ rfl
          have q9 := hs _ rfl
          exact q9 h
        · have h := And.right h c2
          rw [if_pos c2] at hs
          rw [j_X10_layMoves_89] at hs
          unfold ws_X10_layMoves_89 at h ⊢
          refine du_X10_moveOf h ?_
          intro h
          refine ae ?_
          have h := h _ rfl
          refine ae ?_
          have h := h _ rfl
          refine du_X10_leastMoves h ?_
          intro h
          refine ae ?_
          have h := h _ rfl
          refine ae ?_
          have h := h _ rfl
          rw [j_X10_layMoves_113] at hs
          unfold ws_X10_layMoves_113 at h ⊢
          refine ae ?_
          have h := h _ rfl
          have q9 := hs _ rfl
          exact q9 h
noncomputable def j_X10_layMoves_54 {R : Type} (k12 : Int32 → Int32 → (Nat → Int32) → R) (m_standings : Int32) (m_foot : Nat → Int32) (m_told : Nat → Int32) (x1 : Int32) (x2 : Int32) (k0 : Int32) (m_moves : Nat → Int32) : R := ex_X10_layMoves_58 k12 m_standings m_foot m_told x1 x2 m_moves (nI (0 + (Int32.toInt m_standings - ((0 : Nat) : Int)).toNat)) (itr (bd_X10_layMoves_58 m_standings m_foot m_told x1 x2 m_moves) k0 0 (Int32.toInt m_standings - ((0 : Nat) : Int)).toNat)
noncomputable def j_X10_layMoves_43 {R : Type} (k12 : Int32 → Int32 → (Nat → Int32) → R) (m_standings : Int32) (m_foot : Nat → Int32) (m_told : Nat → Int32) (x1 : Int32) (x2 : Int32) (m_moves : Nat → Int32) : R := if x1 = 0 then (j_X10_layMoves_54 k12 m_standings m_foot m_told x1 x2 0 m_moves) else (j_X10_layMoves_54 k12 m_standings m_foot m_told x1 x2 1000000 m_moves)
noncomputable def bd_X10_layMoves_12 (m_standings : Int32) (m_foot : Nat → Int32) (m_told : Nat → Int32) (x1 : Int32) (c : Int32) (s : (Nat → Int32)) : (Nat → Int32) := if 8 ≤ c then (j_X10_layMoves_43 (fun q0 q1 q2 => q2) m_standings m_foot m_told x1 c s) else (if m_standings ≤ c then (j_X10_layMoves_131 (fun q0 q1 q2 => q2) m_standings m_foot m_told x1 c s) else (if (F_X10_has x1 c) = 0 then (j_X10_layMoves_43 (fun q0 q1 q2 => q2) m_standings m_foot m_told x1 c s) else (j_X10_layMoves_131 (fun q0 q1 q2 => q2) m_standings m_foot m_told x1 c s)))
noncomputable def ex_X10_layMoves_12 {R : Type} (k2 : Int32 → (Nat → Int32) → R) (m_standings : Int32) (m_foot : Nat → Int32) (m_told : Nat → Int32) (x1 : Int32) (c : Int32) (s : (Nat → Int32)) : R := k2 (x1 + 1) s
set_option maxHeartbeats 200000 in
set_option maxRecDepth 10000 in
theorem dl_X10_layMoves_12 {P Q : (Nat → Int32) → Prop} {K2 L2 : Int32 → (Nat → Int32) → Prop} {m_standings : Int32} {m_foot : Nat → Int32} {m_told : Nat → Int32} {x1 : Int32} {a : (Nat → Int32)} {i : Nat} (hi0 : i < 2147483648) (hE : ∀ (c : Int32) (s : (Nat → Int32)), c = nI (i + (Int32.toInt 8 + 1 - ((i : Nat) : Int)).toNat) → s = itr (bd_X10_layMoves_12 m_standings m_foot m_told x1) a i (Int32.toInt 8 + 1 - ((i : Nat) : Int)).toNat → (∀ v_2 : Int32, v_2 = x1 + 1 → K2 v_2 s) → (∀ v_2 : Int32, v_2 = x1 + 1 → L2 v_2 s)) : ∀ (n k : Nat) (c : Int32), c = nI (i + k) → k ≤ (Int32.toInt 8 + 1 - ((i : Nat) : Int)).toNat → wb_X10_layMoves_12 P K2 m_standings m_foot m_told n x1 c (itr (bd_X10_layMoves_12 m_standings m_foot m_told x1) a i k) → wb_X10_layMoves_12 Q L2 m_standings m_foot m_told n x1 c (itr (bd_X10_layMoves_12 m_standings m_foot m_told x1) a i k) := by
  intro n
  induction n with
  | zero => intro k c hc hk h; exact False.elim h
  | succ n ih =>
    intro k c hc hk h
    have hr := tp_r 8
    have hl9 : Int32.toInt 8 < 2147483647 := by decide
    have hi : Int32.toInt c = ((i + k : Nat) : Int) := by rw [hc]; exact nI_toInt (by omega)
    refine And.intro (fun t0 => ?_) (fun t0 => ?_)
    · have h := And.left h t0
      have t1 := (fa_lt _ _).mp t0
      have hk2 : k = (Int32.toInt 8 + 1 - ((i : Nat) : Int)).toNat := by omega
      subst hk2
      exact hE _ _ hc rfl h
    · have h := And.right h t0
      have t1 := mt (fa_lt _ _).mpr t0
      have hs : ∀ o : (Nat → Int32), o = itr (bd_X10_layMoves_12 m_standings m_foot m_told x1) a i (k + 1) → wb_X10_layMoves_12 P K2 m_standings m_foot m_told n x1 (c + 1) o → wb_X10_layMoves_12 Q L2 m_standings m_foot m_told n x1 (c + 1) o := by
        intro o eo h9
        have q := ih (k + 1) (c + 1) (by rw [hc]; exact nI_1 _) (by omega)
        rw [← eo] at q
        exact q h9
      rw [itr_s, ← hc, bd_X10_layMoves_12] at hs
      refine And.intro (fun c1 => ?_) (fun c1 => ?_)
      · have h := And.left h c1
        rw [if_pos c1] at hs
        rw [j_X10_layMoves_43] at hs
        unfold ws_X10_layMoves_43 at h ⊢
        refine And.intro (fun c2 => ?_) (fun c2 => ?_)
        · have h := And.left h c2
          rw [if_neg c2] at hs
          rw [j_X10_layMoves_54] at hs
          unfold ws_X10_layMoves_54 at h ⊢
          obtain ⟨n3, h⟩ := h
          refine ⟨n3, dl_X10_layMoves_58 (a := 1000000) (i := 0) (by decide) ?_ n3 0 0 (by decide) (Nat.zero_le _) h⟩
          intro cc4 s5 ec6 es7 h
          rw [← ec6, ← es7, ex_X10_layMoves_58] at hs
          refine ae ?_
          have h := h _ rfl
          refine ae ?_
          have h := h _ rfl
          refine And.intro (And.left h) ?_
          have h := And.right h
          rw [j_X10_layMoves_131] at hs
          unfold ws_X10_layMoves_131 at h ⊢
          refine ae ?_
          have h := h _ rfl
          have q9 := hs _ rfl
          exact q9 h
        · have h := And.right h c2
          rw [if_pos c2] at hs
          rw [j_X10_layMoves_54] at hs
          unfold ws_X10_layMoves_54 at h ⊢
          obtain ⟨n8, h⟩ := h
          refine ⟨n8, dl_X10_layMoves_58 (a := 0) (i := 0) (by decide) ?_ n8 0 0 (by decide) (Nat.zero_le _) h⟩
          intro cc9 s10 ec11 es12 h
          rw [← ec11, ← es12, ex_X10_layMoves_58] at hs
          refine ae ?_
          have h := h _ rfl
          refine ae ?_
          have h := h _ rfl
          refine And.intro (And.left h) ?_
          have h := And.right h
          rw [j_X10_layMoves_131] at hs
          unfold ws_X10_layMoves_131 at h ⊢
          refine ae ?_
          have h := h _ rfl
          have q9 := hs _ rfl
          exact q9 h
      · have h := And.right h c1
        rw [if_neg c1] at hs
        refine And.intro (fun c13 => ?_) (fun c13 => ?_)
        · have h := And.left h c13
          rw [if_pos c13] at hs
          rw [j_X10_layMoves_131] at hs
          unfold ws_X10_layMoves_131 at h ⊢
          refine ae ?_
          have h := h _ rfl
          have q9 := hs _ rfl
          exact q9 h
        · have h := And.right h c13
          rw [if_neg c13] at hs
          refine du_X10_has h ?_
          intro h
          refine And.intro (fun c14 => ?_) (fun c14 => ?_)
          · have h := And.left h c14
            rw [if_pos c14] at hs
            rw [j_X10_layMoves_43] at hs
            unfold ws_X10_layMoves_43 at h ⊢
            refine And.intro (fun c15 => ?_) (fun c15 => ?_)
            · have h := And.left h c15
              rw [if_neg c15] at hs
              rw [j_X10_layMoves_54] at hs
              unfold ws_X10_layMoves_54 at h ⊢
              obtain ⟨n16, h⟩ := h
              refine ⟨n16, dl_X10_layMoves_58 (a := 1000000) (i := 0) (by decide) ?_ n16 0 0 (by decide) (Nat.zero_le _) h⟩
              intro cc17 s18 ec19 es20 h
              rw [← ec19, ← es20, ex_X10_layMoves_58] at hs
              refine ae ?_
              have h := h _ rfl
              refine ae ?_
              have h := h _ rfl
              refine And.intro (And.left h) ?_
              have h := And.right h
              rw [j_X10_layMoves_131] at hs
              unfold ws_X10_layMoves_131 at h ⊢
              refine ae ?_
              have h := h _ rfl
              have q9 := hs _ rfl
              exact q9 h
            · have h := And.right h c15
              rw [if_pos c15] at hs
              rw [j_X10_layMoves_54] at hs
              unfold ws_X10_layMoves_54 at h ⊢
              obtain ⟨n21, h⟩ := h
              refine ⟨n21, dl_X10_layMoves_58 (a := 0) (i := 0) (by decide) ?_ n21 0 0 (by decide) (Nat.zero_le _) h⟩
              intro cc22 s23 ec24 es25 h
              rw [← ec24, ← es25, ex_X10_layMoves_58] at hs
              refine ae ?_
              have h := h _ rfl
              refine ae ?_
              have h := h _ rfl
              refine And.intro (And.left h) ?_
              have h := And.right h
              rw [j_X10_layMoves_131] at hs
              unfold ws_X10_layMoves_131 at h ⊢
              refine ae ?_
              have h := h _ rfl
              have q9 := hs _ rfl
              exact q9 h
          · have h := And.right h c14
            rw [if_neg c14] at hs
            rw [j_X10_layMoves_131] at hs
            unfold ws_X10_layMoves_131 at h ⊢
            refine ae ?_
            have h := h _ rfl
            have q9 := hs _ rfl
            exact q9 h
noncomputable def bd_X10_layMoves_2 (m_standings : Int32) (m_foot : Nat → Int32) (m_told : Nat → Int32) (c : Int32) (s : (Nat → Int32)) : (Nat → Int32) := ex_X10_layMoves_12 (fun q0 q1 => q1) m_standings m_foot m_told c (nI (0 + (Int32.toInt 8 + 1 - ((0 : Nat) : Int)).toNat)) (itr (bd_X10_layMoves_12 m_standings m_foot m_told c) s 0 (Int32.toInt 8 + 1 - ((0 : Nat) : Int)).toNat)
noncomputable def ex_X10_layMoves_2 {R : Type} (po : (Nat → Int32) → R) (m_standings : Int32) (m_foot : Nat → Int32) (m_told : Nat → Int32) (c : Int32) (s : (Nat → Int32)) : R := po s
set_option maxHeartbeats 200000 in
set_option maxRecDepth 10000 in
theorem dl_X10_layMoves_2 {P Q : (Nat → Int32) → Prop} {m_standings : Int32} {m_foot : Nat → Int32} {m_told : Nat → Int32} {a : (Nat → Int32)} {i : Nat} (hi0 : i < 2147483648) (hz0 : Int32.toInt (F_X10_allStandings m_standings) < 2147483647) (hE : ∀ (c : Int32) (s : (Nat → Int32)), c = nI (i + (Int32.toInt (F_X10_allStandings m_standings) + 1 - ((i : Nat) : Int)).toNat) → s = itr (bd_X10_layMoves_2 m_standings m_foot m_told) a i (Int32.toInt (F_X10_allStandings m_standings) + 1 - ((i : Nat) : Int)).toNat → (P s) → (Q s)) : ∀ (n k : Nat) (c : Int32), c = nI (i + k) → k ≤ (Int32.toInt (F_X10_allStandings m_standings) + 1 - ((i : Nat) : Int)).toNat → wb_X10_layMoves_2 P m_standings m_foot m_told n c (itr (bd_X10_layMoves_2 m_standings m_foot m_told) a i k) → wb_X10_layMoves_2 Q m_standings m_foot m_told n c (itr (bd_X10_layMoves_2 m_standings m_foot m_told) a i k) := by
  intro n
  induction n with
  | zero => intro k c hc hk h; exact False.elim h
  | succ n ih =>
    intro k c hc hk h
    have hr := tp_r (F_X10_allStandings m_standings)
    have hi : Int32.toInt c = ((i + k : Nat) : Int) := by rw [hc]; exact nI_toInt (by omega)
    have h : ws_X10_layMoves_2 P (wb_X10_layMoves_2 P m_standings m_foot m_told n) m_standings m_foot m_told c (itr (bd_X10_layMoves_2 m_standings m_foot m_told) a i k) := h
    show ws_X10_layMoves_2 Q (wb_X10_layMoves_2 Q m_standings m_foot m_told n) m_standings m_foot m_told c (itr (bd_X10_layMoves_2 m_standings m_foot m_told) a i k)
    unfold ws_X10_layMoves_2 at h ⊢
    refine du_X10_allStandings h ?_
    intro h
    refine And.intro (fun t0 => ?_) (fun t0 => ?_)
    · have h := And.left h t0
      have t1 := (fa_lt _ _).mp t0
      have hk2 : k = (Int32.toInt (F_X10_allStandings m_standings) + 1 - ((i : Nat) : Int)).toNat := by omega
      subst hk2
      exact hE _ _ hc rfl h
    · have h := And.right h t0
      have t1 := mt (fa_lt _ _).mpr t0
      have hs : ∀ o : (Nat → Int32), o = itr (bd_X10_layMoves_2 m_standings m_foot m_told) a i (k + 1) → wb_X10_layMoves_2 P m_standings m_foot m_told n (c + 1) o → wb_X10_layMoves_2 Q m_standings m_foot m_told n (c + 1) o := by
        intro o eo h9
        have q := ih (k + 1) (c + 1) (by rw [hc]; exact nI_1 _) (by omega)
        rw [← eo] at q
        exact q h9
      rw [itr_s, ← hc, bd_X10_layMoves_2] at hs
      obtain ⟨n1, h⟩ := h
      refine ⟨n1, dl_X10_layMoves_12 (a := (itr (bd_X10_layMoves_2 m_standings m_foot m_told) a i k)) (i := 0) (by decide) ?_ n1 0 0 (by decide) (Nat.zero_le _) h⟩
      intro cc2 s3 ec4 es5 h
      rw [← ec4, ← es5, ex_X10_layMoves_12] at hs
      refine ae ?_
      have h := h _ rfl
      have q9 := hs _ rfl
      exact q9 h
noncomputable def F_X10_layMoves (m_standings : Int32) (m_foot : Nat → Int32) (m_told : Nat → Int32) (m_moves : Nat → Int32) : (Nat → Int32) := ex_X10_layMoves_2 (fun o0 => o0) m_standings m_foot m_told (nI (0 + (Int32.toInt (F_X10_allStandings m_standings) + 1 - ((0 : Nat) : Int)).toNat)) (itr (bd_X10_layMoves_2 m_standings m_foot m_told) m_moves 0 (Int32.toInt (F_X10_allStandings m_standings) + 1 - ((0 : Nat) : Int)).toNat)
set_option maxHeartbeats 200000 in
set_option maxRecDepth 10000 in
theorem dt_X10_layMoves {P Q : (Nat → Int32) → Prop} {m_standings : Int32} {m_foot : Nat → Int32} {m_told : Nat → Int32} {m_moves : Nat → Int32} (hy0 : Int32.toInt (F_X10_allStandings m_standings) < 2147483647) (h : wp_X10_layMoves P m_standings m_foot m_told m_moves) (hq : ∀ o : (Nat → Int32), o = F_X10_layMoves m_standings m_foot m_told m_moves → P o → Q o) : wp_X10_layMoves Q m_standings m_foot m_told m_moves := by
  rw [F_X10_layMoves] at hq
  obtain ⟨n1, h⟩ := h
  refine ⟨n1, dl_X10_layMoves_2 (a := m_moves) (i := 0) (by decide) hy0 ?_ n1 0 0 (by decide) (Nat.zero_le _) h⟩
  intro cc2 s3 ec4 es5 h
  rw [← ec4, ← es5, ex_X10_layMoves_2] at hq
  have q9 := hq _ rfl
  exact q9 h
theorem du_X10_layMoves {P Q : (Nat → Int32) → Prop} {m_standings : Int32} {m_foot : Nat → Int32} {m_told : Nat → Int32} {m_moves : Nat → Int32} (hy0 : Int32.toInt (F_X10_allStandings m_standings) < 2147483647) (h : wp_X10_layMoves P m_standings m_foot m_told m_moves) (hq : P (F_X10_layMoves m_standings m_foot m_told m_moves) → Q (F_X10_layMoves m_standings m_foot m_told m_moves)) : wp_X10_layMoves Q m_standings m_foot m_told m_moves := dt_X10_layMoves hy0 h (fun o eo => by rw [eo]; exact hq)
theorem dw_X10_layMoves {Q : (Nat → Int32) → Prop} {m_standings : Int32} {m_foot : Nat → Int32} {m_told : Nat → Int32} {m_moves : Nat → Int32} (hy0 : Int32.toInt (F_X10_allStandings m_standings) < 2147483647) (h : wp_X10_layMoves (fun o0 => o0 = F_X10_layMoves m_standings m_foot m_told m_moves → Q o0) m_standings m_foot m_told m_moves) : wp_X10_layMoves Q m_standings m_foot m_told m_moves := dt_X10_layMoves hy0 h (fun o eo hp => hp eo)
noncomputable def F_X10_besides (p0 : Int32) (m_now : Nat → Int32) : Int32 := if (m_now (17 : Int32).toNatClampNeg) = (-1) then p0 else (p0 &&& ((1 <<< ((m_now (17 : Int32).toNatClampNeg) &&& 31)) ^^^ (-1)))
set_option maxHeartbeats 200000 in
set_option maxRecDepth 10000 in
theorem dt_X10_besides {P Q : Int32 → Prop} {p0 : Int32} {m_now : Nat → Int32} (h : wp_X10_besides P p0 m_now) (hq : ∀ o : Int32, o = F_X10_besides p0 m_now → P o → Q o) : wp_X10_besides Q p0 m_now := by
  rw [F_X10_besides] at hq
  refine ae ?_
  have h := h _ rfl
  refine And.intro (fun c1 => ?_) (fun c1 => ?_)
  · have h := And.left h c1
    rw [if_neg c1] at hq
    refine ae ?_
    have h := h _ rfl
    have q9 := hq _ rfl
    exact q9 h
  · have h := And.right h c1
    rw [if_pos c1] at hq
    have q9 := hq _ rfl
    exact q9 h
theorem du_X10_besides {P Q : Int32 → Prop} {p0 : Int32} {m_now : Nat → Int32} (h : wp_X10_besides P p0 m_now) (hq : P (F_X10_besides p0 m_now) → Q (F_X10_besides p0 m_now)) : wp_X10_besides Q p0 m_now := dt_X10_besides h (fun o eo => by rw [eo]; exact hq)
theorem dw_X10_besides {Q : Int32 → Prop} {p0 : Int32} {m_now : Nat → Int32} (h : wp_X10_besides (fun o0 => o0 = F_X10_besides p0 m_now → Q o0) p0 m_now) : wp_X10_besides Q p0 m_now := dt_X10_besides h (fun o eo hp => hp eo)
noncomputable def F_X10_placeOf (p0 : Int32) : Int32 := if p0 = (-1) then 8 else p0
set_option maxHeartbeats 200000 in
set_option maxRecDepth 10000 in
theorem dt_X10_placeOf {P Q : Int32 → Prop} {p0 : Int32} (h : wp_X10_placeOf P p0) (hq : ∀ o : Int32, o = F_X10_placeOf p0 → P o → Q o) : wp_X10_placeOf Q p0 := by
  rw [F_X10_placeOf] at hq
  refine And.intro (fun c1 => ?_) (fun c1 => ?_)
  · have h := And.left h c1
    rw [if_neg c1] at hq
    have q9 := hq _ rfl
    exact q9 h
  · have h := And.right h c1
    rw [if_pos c1] at hq
    have q9 := hq _ rfl
    exact q9 h
theorem du_X10_placeOf {P Q : Int32 → Prop} {p0 : Int32} (h : wp_X10_placeOf P p0) (hq : P (F_X10_placeOf p0) → Q (F_X10_placeOf p0)) : wp_X10_placeOf Q p0 := dt_X10_placeOf h (fun o eo => by rw [eo]; exact hq)
theorem dw_X10_placeOf {Q : Int32 → Prop} {p0 : Int32} (h : wp_X10_placeOf (fun o0 => o0 = F_X10_placeOf p0 → Q o0) p0) : wp_X10_placeOf Q p0 := dt_X10_placeOf h (fun o eo hp => hp eo)
noncomputable def bd_X10_workOf_36 (m_fruits : Int32) (m_standings : Int32) (m_wanted : Int32) (m_now : Nat → Int32) (m_fork : Nat → Int32) (m_told : Nat → Int32) (m_hand : Nat → Int32) (m_moves : Nat → Int32) (m_handSeconds : Nat → Int32) (x1 : Int32) (m_workMoves : Int32) (m_workPicks : Int32) (m_workDowns : Int32) (c : Int32) (s : (Nat → Int32)) : (Nat → Int32) := (upd s c.toNatClampNeg 0)
noncomputable def j_X10_workOf_194 {R : Type} (k57 : Int32 → Int32 → Int32 → Int32 → Int32 → (Nat → Int32) → R) (m_fruits : Int32) (m_standings : Int32) (m_wanted : Int32) (m_now : Nat → Int32) (m_fork : Nat → Int32) (m_told : Nat → Int32) (m_hand : Nat → Int32) (m_moves : Nat → Int32) (m_handSeconds : Nat → Int32) (x1 : Int32) (x2 : Int32) (m_workMoves : Int32) (m_workPicks : Int32) (m_workDowns : Int32) (m_load : Nat → Int32) : R := k57 x1 (x2 + 1) m_workMoves m_workPicks m_workDowns m_load
noncomputable def j_X10_workOf_150 {R : Type} (k84 : Int32 → Int32 → Int32 → Int32 → Int32 → Int32 → Int32 → (Nat → Int32) → R) (m_fruits : Int32) (m_standings : Int32) (m_wanted : Int32) (m_now : Nat → Int32) (m_fork : Nat → Int32) (m_told : Nat → Int32) (m_hand : Nat → Int32) (m_moves : Nat → Int32) (m_handSeconds : Nat → Int32) (x1 : Int32) (x2 : Int32) (x3 : Int32) (x4 : Int32) (m_workMoves : Int32) (m_workPicks : Int32) (m_workDowns : Int32) (m_load : Nat → Int32) : R := k84 x1 x2 x3 (x4 + 1) m_workMoves m_workPicks m_workDowns m_load
noncomputable def j_X10_workOf_147 {R : Type} (k84 : Int32 → Int32 → Int32 → Int32 → Int32 → Int32 → Int32 → (Nat → Int32) → R) (m_fruits : Int32) (m_standings : Int32) (m_wanted : Int32) (m_now : Nat → Int32) (m_fork : Nat → Int32) (m_told : Nat → Int32) (m_hand : Nat → Int32) (m_moves : Nat → Int32) (m_handSeconds : Nat → Int32) (x1 : Int32) (x2 : Int32) (x4 : Int32) (m_workMoves : Int32) (m_workPicks : Int32) (m_workDowns : Int32) (m_load : Nat → Int32) : R := j_X10_workOf_150 k84 m_fruits m_standings m_wanted m_now m_fork m_told m_hand m_moves m_handSeconds x1 x2 x4 x4 m_workMoves m_workPicks m_workDowns m_load
noncomputable def bd_X10_workOf_84 (m_fruits : Int32) (m_standings : Int32) (m_wanted : Int32) (m_now : Nat → Int32) (m_fork : Nat → Int32) (m_told : Nat → Int32) (m_hand : Nat → Int32) (m_moves : Nat → Int32) (m_handSeconds : Nat → Int32) (x1 : Int32) (x2 : Int32) (m_workMoves : Int32) (m_workPicks : Int32) (m_workDowns : Int32) (m_load : Nat → Int32) (c : Int32) (s : Int32) : Int32 := if (F_X10_has x1 c) = 0 then (j_X10_workOf_150 (fun q0 q1 q2 q3 q4 q5 q6 q7 => q2) m_fruits m_standings m_wanted m_now m_fork m_told m_hand m_moves m_handSeconds x1 x2 s c m_workMoves m_workPicks m_workDowns m_load) else (if (F_X10_has (m_hand c.toNatClampNeg) x2) = 0 then (j_X10_workOf_150 (fun q0 q1 q2 q3 q4 q5 q6 q7 => q2) m_fruits m_standings m_wanted m_now m_fork m_told m_hand m_moves m_handSeconds x1 x2 s c m_workMoves m_workPicks m_workDowns m_load) else (if s = (-1) then (j_X10_workOf_147 (fun q0 q1 q2 q3 q4 q5 q6 q7 => q2) m_fruits m_standings m_wanted m_now m_fork m_told m_hand m_moves m_handSeconds x1 x2 c m_workMoves m_workPicks m_workDowns m_load) else (if (m_handSeconds ((16 * s) + x2).toNatClampNeg) ≤ (m_handSeconds ((16 * c) + x2).toNatClampNeg) then (j_X10_workOf_150 (fun q0 q1 q2 q3 q4 q5 q6 q7 => q2) m_fruits m_standings m_wanted m_now m_fork m_told m_hand m_moves m_handSeconds x1 x2 s c m_workMoves m_workPicks m_workDowns m_load) else (j_X10_workOf_147 (fun q0 q1 q2 q3 q4 q5 q6 q7 => q2) m_fruits m_standings m_wanted m_now m_fork m_told m_hand m_moves m_handSeconds x1 x2 c m_workMoves m_workPicks m_workDowns m_load))))
noncomputable def ex_X10_workOf_84 {R : Type} (k57 : Int32 → Int32 → Int32 → Int32 → Int32 → (Nat → Int32) → R) (m_fruits : Int32) (m_standings : Int32) (m_wanted : Int32) (m_now : Nat → Int32) (m_fork : Nat → Int32) (m_told : Nat → Int32) (m_hand : Nat → Int32) (m_moves : Nat → Int32) (m_handSeconds : Nat → Int32) (x1 : Int32) (x2 : Int32) (m_workMoves : Int32) (m_workPicks : Int32) (m_workDowns : Int32) (m_load : Nat → Int32) (c : Int32) (s : Int32) : R := if s = (-1) then (j_X10_workOf_194 k57 m_fruits m_standings m_wanted m_now m_fork m_told m_hand m_moves m_handSeconds x1 x2 m_workMoves m_workPicks m_workDowns m_load) else (j_X10_workOf_194 k57 m_fruits m_standings m_wanted m_now m_fork m_told m_hand m_moves m_handSeconds x1 x2 m_workMoves (m_workPicks + (m_handSeconds ((16 * s) + x2).toNatClampNeg)) m_workDowns (upd m_load s.toNatClampNeg ((m_load s.toNatClampNeg) + 1)))
set_option maxHeartbeats 200000 in
set_option maxRecDepth 10000 in
theorem dl_X10_workOf_84 {P Q : Int32 → Int32 → Int32 → Int32 → (Nat → Int32) → Prop} {K57 L57 : Int32 → Int32 → Int32 → Int32 → Int32 → (Nat → Int32) → Prop} {m_fruits : Int32} {m_standings : Int32} {m_wanted : Int32} {m_now : Nat → Int32} {m_fork : Nat → Int32} {m_told : Nat → Int32} {m_hand : Nat → Int32} {m_moves : Nat → Int32} {m_handSeconds : Nat → Int32} {x1 : Int32} {x2 : Int32} {m_workMoves : Int32} {m_workPicks : Int32} {m_workDowns : Int32} {m_load : Nat → Int32} {a : Int32} {i : Nat} (hi0 : i < 2147483648) (hE : ∀ (c : Int32) (s : Int32), c = nI (i + (Int32.toInt m_standings - ((i : Nat) : Int)).toNat) → s = itr (bd_X10_workOf_84 m_fruits m_standings m_wanted m_now m_fork m_told m_hand m_moves m_handSeconds x1 x2 m_workMoves m_workPicks m_workDowns m_load) a i (Int32.toInt m_standings - ((i : Nat) : Int)).toNat → ((¬ s = (-1) → ∀ v_14 : Int32, v_14 = 16 * s → ∀ v_15 : Int32, v_15 = v_14 + x2 → vp_in v_15 128 ∧ (∀ v_16 : Int32, v_16 = m_workPicks + (m_handSeconds v_15.toNatClampNeg) → vp_in s 8 ∧ (∀ v_17 : Int32, v_17 = m_load s.toNatClampNeg → ∀ v_18 : Int32, v_18 = v_17 + 1 → vp_in s 8 ∧ (ws_X10_workOf_194 P K57 m_fruits m_standings m_wanted m_now m_fork m_told m_hand m_moves m_handSeconds x1 x2 m_workMoves v_16 m_workDowns (upd m_load s.toNatClampNeg v_18))))) ∧ (s = (-1) → ws_X10_workOf_194 P K57 m_fruits m_standings m_wanted m_now m_fork m_told m_hand m_moves m_handSeconds x1 x2 m_workMoves m_workPicks m_workDowns m_load)) → ((¬ s = (-1) → ∀ v_14 : Int32, v_14 = 16 * s → ∀ v_15 : Int32, v_15 = v_14 + x2 → vp_in v_15 128 ∧ (∀ v_16 : Int32, v_16 = m_workPicks + (m_handSeconds v_15.toNatClampNeg) → vp_in s 8 ∧ (∀ v_17 : Int32, v_17 = m_load s.toNatClampNeg → ∀ v_18 : Int32, v_18 = v_17 + 1 → vp_in s 8 ∧ (ws_X10_workOf_194 Q L57 m_fruits m_standings m_wanted m_now m_fork m_told m_hand m_moves m_handSeconds x1 x2 m_workMoves v_16 m_workDowns (upd m_load s.toNatClampNeg v_18))))) ∧ (s = (-1) → ws_X10_workOf_194 Q L57 m_fruits m_standings m_wanted m_now m_fork m_told m_hand m_moves m_handSeconds x1 x2 m_workMoves m_workPicks m_workDowns m_load))) : ∀ (n k : Nat) (c : Int32), c = nI (i + k) → k ≤ (Int32.toInt m_standings - ((i : Nat) : Int)).toNat → wb_X10_workOf_84 P K57 m_fruits m_standings m_wanted m_now m_fork m_told m_hand m_moves m_handSeconds n x1 x2 (itr (bd_X10_workOf_84 m_fruits m_standings m_wanted m_now m_fork m_told m_hand m_moves m_handSeconds x1 x2 m_workMoves m_workPicks m_workDowns m_load) a i k) c m_workMoves m_workPicks m_workDowns m_load → wb_X10_workOf_84 Q L57 m_fruits m_standings m_wanted m_now m_fork m_told m_hand m_moves m_handSeconds n x1 x2 (itr (bd_X10_workOf_84 m_fruits m_standings m_wanted m_now m_fork m_told m_hand m_moves m_handSeconds x1 x2 m_workMoves m_workPicks m_workDowns m_load) a i k) c m_workMoves m_workPicks m_workDowns m_load := by
  intro n
  induction n with
  | zero => intro k c hc hk h; exact False.elim h
  | succ n ih =>
    intro k c hc hk h
    have hr := tp_r m_standings
    have hi : Int32.toInt c = ((i + k : Nat) : Int) := by rw [hc]; exact nI_toInt (by omega)
    refine And.intro (fun t0 => ?_) (fun t0 => ?_)
    · have h := And.left h t0
      have t1 := (fa_le _ _).mp t0
      have hk2 : k = (Int32.toInt m_standings - ((i : Nat) : Int)).toNat := by omega
      subst hk2
      exact hE _ _ hc rfl h
    · have h := And.right h t0
      have t1 := mt (fa_le _ _).mpr t0
      have hs : ∀ o : Int32, o = itr (bd_X10_workOf_84 m_fruits m_standings m_wanted m_now m_fork m_told m_hand m_moves m_handSeconds x1 x2 m_workMoves m_workPicks m_workDowns m_load) a i (k + 1) → wb_X10_workOf_84 P K57 m_fruits m_standings m_wanted m_now m_fork m_told m_hand m_moves m_handSeconds n x1 x2 o (c + 1) m_workMoves m_workPicks m_workDowns m_load → wb_X10_workOf_84 Q L57 m_fruits m_standings m_wanted m_now m_fork m_told m_hand m_moves m_handSeconds n x1 x2 o (c + 1) m_workMoves m_workPicks m_workDowns m_load := by
        intro o eo h9
        have q := ih (k + 1) (c + 1) (by rw [hc]; exact nI_1 _) (by omega)
        rw [← eo] at q
        exact q h9
      rw [itr_s, ← hc, bd_X10_workOf_84] at hs
      refine du_X10_has h ?_
      intro h
      refine And.intro (fun c1 => ?_) (fun c1 => ?_)
      · have h := And.left h c1
        rw [if_pos c1] at hs
        rw [j_X10_workOf_150] at hs
        unfold ws_X10_workOf_150 at h ⊢
        refine ae ?_
        have h := h _ rfl
        have q9 := hs _ rfl
        exact q9 h
      · have h := And.right h c1
        rw [if_neg c1] at hs
        refine And.intro (And.left h) ?_
        have h := And.right h
        refine ae ?_
        have h := h _ rfl
        refine du_X10_has h ?_
        intro h
        refine And.intro (fun c2 => ?_) (fun c2 => ?_)
        · have h := And.left h c2
          rw [if_pos c2] at hs
          rw [j_X10_workOf_150] at hs
          unfold ws_X10_workOf_150 at h ⊢
          refine ae ?_
          have h := h _ rfl
          have q9 := hs _ rfl
          exact q9 h
        · have h := And.right h c2
          rw [if_neg c2] at hs
          refine And.intro (fun c3 => ?_) (fun c3 => ?_)
          · have h := And.left h c3
            rw [if_pos c3] at hs
            rw [j_X10_workOf_147] at hs
            unfold ws_X10_workOf_147 at h ⊢
            rw [j_X10_workOf_150] at hs
            unfold ws_X10_workOf_150 at h ⊢
            refine ae ?_
            have h := h _ rfl
            have q9 := hs _ rfl
            exact q9 h
          · have h := And.right h c3
            rw [if_neg c3] at hs
            refine ae ?_
            have h := h _ rfl
            refine ae ?_
            have h := h _ rfl
            refine And.intro (And.left h) ?_
            have h := And.right h
            refine ae ?_
            have h := h _ rfl
            refine ae ?_
            have h := h _ rfl
            refine ae ?_
            have h := h _ rfl
            refine And.intro (And.left h) ?_
            have h := And.right h
            refine And.intro (fun c4 => ?_) (fun c4 => ?_)
            · have h := And.left h c4
              rw [if_pos c4] at hs
              rw [j_X10_workOf_150] at hs
              unfold ws_X10_workOf_150 at h ⊢
              refine ae ?_
              have h := h _ rfl
              have q9 := hs _ rfl
              exact q9 h
            · have h := And.right h c4
              rw [if_neg c4] at hs
              rw [j_X10_workOf_147] at hs
              unfold ws_X10_workOf_147 at h ⊢
              rw [j_X10_workOf_150] at hs
              unfold ws_X10_workOf_150 at h ⊢
              refine ae ?_
              have h := h _ rfl
              have q9 := hs _ rfl
              exact q9 h
noncomputable def bd_X10_workOf_57 (m_fruits : Int32) (m_standings : Int32) (m_wanted : Int32) (m_now : Nat → Int32) (m_fork : Nat → Int32) (m_told : Nat → Int32) (m_hand : Nat → Int32) (m_moves : Nat → Int32) (m_handSeconds : Nat → Int32) (x1 : Int32) (m_workMoves : Int32) (m_workDowns : Int32) (c : Int32) (s : Int32 × (Nat → Int32)) : Int32 × (Nat → Int32) := if (F_X10_has m_wanted c) = 0 then (j_X10_workOf_194 (fun q0 q1 q2 q3 q4 q5 => (q3, q5)) m_fruits m_standings m_wanted m_now m_fork m_told m_hand m_moves m_handSeconds x1 c m_workMoves s.1 m_workDowns s.2) else (ex_X10_workOf_84 (fun q0 q1 q2 q3 q4 q5 => (q3, q5)) m_fruits m_standings m_wanted m_now m_fork m_told m_hand m_moves m_handSeconds x1 c m_workMoves s.1 m_workDowns s.2 (nI (0 + (Int32.toInt m_standings - ((0 : Nat) : Int)).toNat)) (itr (bd_X10_workOf_84 m_fruits m_standings m_wanted m_now m_fork m_told m_hand m_moves m_handSeconds x1 c m_workMoves s.1 m_workDowns s.2) (-1) 0 (Int32.toInt m_standings - ((0 : Nat) : Int)).toNat))
noncomputable def bd_X10_workOf_202 (m_fruits : Int32) (m_standings : Int32) (m_wanted : Int32) (m_now : Nat → Int32) (m_fork : Nat → Int32) (m_told : Nat → Int32) (m_hand : Nat → Int32) (m_moves : Nat → Int32) (m_handSeconds : Nat → Int32) (m_workMoves : Int32) (m_workPicks : Int32) (m_load : Nat → Int32) (c : Int32) (s : Int32) : Int32 := (s + (((((m_load c.toNatClampNeg) + (m_told (4 : Int32).toNatClampNeg)) - 1) / (m_told (4 : Int32).toNatClampNeg)) * (F_X10_downOf c m_fork)))
noncomputable def ex_X10_workOf_202 {R : Type} (po : Int32 → Int32 → Int32 → Int32 → (Nat → Int32) → R) (m_fruits : Int32) (m_standings : Int32) (m_wanted : Int32) (m_now : Nat → Int32) (m_fork : Nat → Int32) (m_told : Nat → Int32) (m_hand : Nat → Int32) (m_moves : Nat → Int32) (m_handSeconds : Nat → Int32) (m_workMoves : Int32) (m_workPicks : Int32) (m_load : Nat → Int32) (c : Int32) (s : Int32) : R := po ((m_workMoves + m_workPicks) + s) m_workMoves m_workPicks s m_load
set_option maxHeartbeats 200000 in
set_option maxRecDepth 10000 in
theorem dl_X10_workOf_202 {P Q : Int32 → Int32 → Int32 → Int32 → (Nat → Int32) → Prop} {m_fruits : Int32} {m_standings : Int32} {m_wanted : Int32} {m_now : Nat → Int32} {m_fork : Nat → Int32} {m_told : Nat → Int32} {m_hand : Nat → Int32} {m_moves : Nat → Int32} {m_handSeconds : Nat → Int32} {m_workMoves : Int32} {m_workPicks : Int32} {m_load : Nat → Int32} {a : Int32} {i : Nat} (hi0 : i < 2147483648) (hE : ∀ (c : Int32) (s : Int32), c = nI (i + (Int32.toInt m_standings - ((i : Nat) : Int)).toNat) → s = itr (bd_X10_workOf_202 m_fruits m_standings m_wanted m_now m_fork m_told m_hand m_moves m_handSeconds m_workMoves m_workPicks m_load) a i (Int32.toInt m_standings - ((i : Nat) : Int)).toNat → (∀ v_5 : Int32, v_5 = m_workMoves + m_workPicks → P (v_5 + s) m_workMoves m_workPicks s m_load) → (∀ v_5 : Int32, v_5 = m_workMoves + m_workPicks → Q (v_5 + s) m_workMoves m_workPicks s m_load)) : ∀ (n k : Nat) (c : Int32), c = nI (i + k) → k ≤ (Int32.toInt m_standings - ((i : Nat) : Int)).toNat → wb_X10_workOf_202 P m_fruits m_standings m_wanted m_now m_fork m_told m_hand m_moves m_handSeconds n c m_workMoves m_workPicks (itr (bd_X10_workOf_202 m_fruits m_standings m_wanted m_now m_fork m_told m_hand m_moves m_handSeconds m_workMoves m_workPicks m_load) a i k) m_load → wb_X10_workOf_202 Q m_fruits m_standings m_wanted m_now m_fork m_told m_hand m_moves m_handSeconds n c m_workMoves m_workPicks (itr (bd_X10_workOf_202 m_fruits m_standings m_wanted m_now m_fork m_told m_hand m_moves m_handSeconds m_workMoves m_workPicks m_load) a i k) m_load := by
  intro n
  induction n with
  | zero => intro k c hc hk h; exact False.elim h
  | succ n ih =>
    intro k c hc hk h
    have hr := tp_r m_standings
    have hi : Int32.toInt c = ((i + k : Nat) : Int) := by rw [hc]; exact nI_toInt (by omega)
    refine And.intro (fun t0 => ?_) (fun t0 => ?_)
    · have h := And.left h t0
      have t1 := (fa_le _ _).mp t0
      have hk2 : k = (Int32.toInt m_standings - ((i : Nat) : Int)).toNat := by omega
      subst hk2
      exact hE _ _ hc rfl h
    · have h := And.right h t0
      have t1 := mt (fa_le _ _).mpr t0
      have hs : ∀ o : Int32, o = itr (bd_X10_workOf_202 m_fruits m_standings m_wanted m_now m_fork m_told m_hand m_moves m_handSeconds m_workMoves m_workPicks m_load) a i (k + 1) → wb_X10_workOf_202 P m_fruits m_standings m_wanted m_now m_fork m_told m_hand m_moves m_handSeconds n (c + 1) m_workMoves m_workPicks o m_load → wb_X10_workOf_202 Q m_fruits m_standings m_wanted m_now m_fork m_told m_hand m_moves m_handSeconds n (c + 1) m_workMoves m_workPicks o m_load := by
        intro o eo h9
        have q := ih (k + 1) (c + 1) (by rw [hc]; exact nI_1 _) (by omega)
        rw [← eo] at q
        exact q h9
      rw [itr_s, ← hc, bd_X10_workOf_202] at hs
      refine And.intro (And.left h) ?_
      have h := And.right h
      refine ae ?_
      have h := h _ rfl
      refine ae ?_
      have h := h _ rfl
      refine ae ?_
      have h := h _ rfl
      refine And.intro (And.left h) ?_
      have h := And.right h
      refine ae ?_
      have h := h _ rfl
      refine du_X10_downOf h ?_
      intro h
      refine ae ?_
      have h := h _ rfl
      refine ae ?_
      have h := h _ rfl
      have q9 := hs _ rfl
      exact q9 h
noncomputable def ex_X10_workOf_57 {R : Type} (po : Int32 → Int32 → Int32 → Int32 → (Nat → Int32) → R) (m_fruits : Int32) (m_standings : Int32) (m_wanted : Int32) (m_now : Nat → Int32) (m_fork : Nat → Int32) (m_told : Nat → Int32) (m_hand : Nat → Int32) (m_moves : Nat → Int32) (m_handSeconds : Nat → Int32) (x1 : Int32) (m_workMoves : Int32) (m_workDowns : Int32) (c : Int32) (s : Int32 × (Nat → Int32)) : R := ex_X10_workOf_202 po m_fruits m_standings m_wanted m_now m_fork m_told m_hand m_moves m_handSeconds m_workMoves s.1 s.2 (nI (0 + (Int32.toInt m_standings - ((0 : Nat) : Int)).toNat)) (itr (bd_X10_workOf_202 m_fruits m_standings m_wanted m_now m_fork m_told m_hand m_moves m_handSeconds m_workMoves s.1 s.2) m_workDowns 0 (Int32.toInt m_standings - ((0 : Nat) : Int)).toNat)
set_option maxHeartbeats 200000 in
set_option maxRecDepth 10000 in
theorem dl_X10_workOf_57 {P Q : Int32 → Int32 → Int32 → Int32 → (Nat → Int32) → Prop} {m_fruits : Int32} {m_standings : Int32} {m_wanted : Int32} {m_now : Nat → Int32} {m_fork : Nat → Int32} {m_told : Nat → Int32} {m_hand : Nat → Int32} {m_moves : Nat → Int32} {m_handSeconds : Nat → Int32} {x1 : Int32} {m_workMoves : Int32} {m_workDowns : Int32} {a : Int32 × (Nat → Int32)} {i : Nat} (hi0 : i < 2147483648) (hE : ∀ (c : Int32) (s : Int32 × (Nat → Int32)), c = nI (i + (Int32.toInt m_fruits - ((i : Nat) : Int)).toNat) → s = itr (bd_X10_workOf_57 m_fruits m_standings m_wanted m_now m_fork m_told m_hand m_moves m_handSeconds x1 m_workMoves m_workDowns) a i (Int32.toInt m_fruits - ((i : Nat) : Int)).toNat → (∃ n : Nat, wb_X10_workOf_202 P m_fruits m_standings m_wanted m_now m_fork m_told m_hand m_moves m_handSeconds n 0 m_workMoves s.1 m_workDowns s.2) → (∃ n : Nat, wb_X10_workOf_202 Q m_fruits m_standings m_wanted m_now m_fork m_told m_hand m_moves m_handSeconds n 0 m_workMoves s.1 m_workDowns s.2)) : ∀ (n k : Nat) (c : Int32), c = nI (i + k) → k ≤ (Int32.toInt m_fruits - ((i : Nat) : Int)).toNat → wb_X10_workOf_57 P m_fruits m_standings m_wanted m_now m_fork m_told m_hand m_moves m_handSeconds n x1 c m_workMoves (itr (bd_X10_workOf_57 m_fruits m_standings m_wanted m_now m_fork m_told m_hand m_moves m_handSeconds x1 m_workMoves m_workDowns) a i k).1 m_workDowns (itr (bd_X10_workOf_57 m_fruits m_standings m_wanted m_now m_fork m_told m_hand m_moves m_handSeconds x1 m_workMoves m_workDowns) a i k).2 → wb_X10_workOf_57 Q m_fruits m_standings m_wanted m_now m_fork m_told m_hand m_moves m_handSeconds n x1 c m_workMoves (itr (bd_X10_workOf_57 m_fruits m_standings m_wanted m_now m_fork m_told m_hand m_moves m_handSeconds x1 m_workMoves m_workDowns) a i k).1 m_workDowns (itr (bd_X10_workOf_57 m_fruits m_standings m_wanted m_now m_fork m_told m_hand m_moves m_handSeconds x1 m_workMoves m_workDowns) a i k).2 := by
  intro n
  induction n with
  | zero => intro k c hc hk h; exact False.elim h
  | succ n ih =>
    intro k c hc hk h
    have hr := tp_r m_fruits
    have hi : Int32.toInt c = ((i + k : Nat) : Int) := by rw [hc]; exact nI_toInt (by omega)
    refine And.intro (fun t0 => ?_) (fun t0 => ?_)
    · have h := And.left h t0
      have t1 := (fa_le _ _).mp t0
      have hk2 : k = (Int32.toInt m_fruits - ((i : Nat) : Int)).toNat := by omega
      subst hk2
      exact hE _ _ hc rfl h
    · have h := And.right h t0
      have t1 := mt (fa_le _ _).mpr t0
      have hs : ∀ o : Int32 × (Nat → Int32), o = itr (bd_X10_workOf_57 m_fruits m_standings m_wanted m_now m_fork m_told m_hand m_moves m_handSeconds x1 m_workMoves m_workDowns) a i (k + 1) → wb_X10_workOf_57 P m_fruits m_standings m_wanted m_now m_fork m_told m_hand m_moves m_handSeconds n x1 (c + 1) m_workMoves o.1 m_workDowns o.2 → wb_X10_workOf_57 Q m_fruits m_standings m_wanted m_now m_fork m_told m_hand m_moves m_handSeconds n x1 (c + 1) m_workMoves o.1 m_workDowns o.2 := by
        intro o eo h9
        have q := ih (k + 1) (c + 1) (by rw [hc]; exact nI_1 _) (by omega)
        rw [← eo] at q
        exact q h9
      rw [itr_s, ← hc, bd_X10_workOf_57] at hs
      refine du_X10_has h ?_
      intro h
      refine And.intro (fun c1 => ?_) (fun c1 => ?_)
      · have h := And.left h c1
        rw [if_neg c1] at hs
        obtain ⟨n2, h⟩ := h
        refine ⟨n2, dl_X10_workOf_84 (a := (-1)) (i := 0) (by decide) ?_ n2 0 0 (by decide) (Nat.zero_le _) h⟩
        intro cc3 s4 ec5 es6 h
        rw [← ec5, ← es6, ex_X10_workOf_84] at hs
        refine And.intro (fun c7 => ?_) (fun c7 => ?_)
        · have h := And.left h c7
          rw [if_neg c7] at hs
          refine ae ?_
          have h := h _ rfl
          refine ae ?_
          have h := h _ rfl
          refine And.intro (And.left h) ?_
          have h := And.right h
          refine ae ?_
          have h := h _ rfl
          refine And.intro (And.left h) ?_
          have h := And.right h
          refine ae ?_
          have h := h _ rfl
          refine ae ?_
          have h := h _ rfl
          refine And.intro (And.left h) ?_
          have h := And.right h
          rw [j_X10_workOf_194] at hs
          unfold ws_X10_workOf_194 at h ⊢
          refine ae ?_
          have h := h _ rfl
          have q9 := hs _ rfl
          dsimp only at q9
          exact q9 h
        · have h := And.right h c7
          rw [if_pos c7] at hs
          rw [j_X10_workOf_194] at hs
          unfold ws_X10_workOf_194 at h ⊢
          refine ae ?_
          have h := h _ rfl
          have q9 := hs _ rfl
          dsimp only at q9
          exact q9 h
      · have h := And.right h c1
        rw [if_pos c1] at hs
        rw [j_X10_workOf_194] at hs
        unfold ws_X10_workOf_194 at h ⊢
        refine ae ?_
        have h := h _ rfl
        have q9 := hs _ rfl
        dsimp only at q9
        exact q9 h
