noncomputable def ex_X10_fits_73 {R : Type} (po : Int32 → Int32 → Int32 → Int32 → (Nat → Int32) → (Nat → Int32) → R) (m_fruits : Int32) (m_standings : Int32) (m_now : Nat → Int32) (m_x : Nat → Int32) (m_height : Nat → Int32) (m_ripe : Nat → Int32) (m_foot : Nat → Int32) (m_fork : Nat → Int32) (m_told : Nat → Int32) (x1 : Int32) (x2 : Int32) (m_rowMany : Int32) (m_thrown : Int32) (m_wanted : Int32) (m_row : Nat → Int32) (m_hand : Nat → Int32) (c : Int32) (s : Int32 × Int32 × Int32) : R := po s.1 ((F_X10_tell s.2.2 (F_X10_tell s.2.1 0 m_row).1 (F_X10_tell s.2.1 0 m_row).2).1) m_thrown m_wanted ((F_X10_tell s.2.2 (F_X10_tell s.2.1 0 m_row).1 (F_X10_tell s.2.1 0 m_row).2).2) m_hand
set_option maxHeartbeats 200000 in
set_option maxRecDepth 10000 in
theorem dl_X10_fits_73 {P Q : Int32 → Int32 → Int32 → Int32 → (Nat → Int32) → (Nat → Int32) → Prop} {m_fruits : Int32} {m_standings : Int32} {m_now : Nat → Int32} {m_x : Nat → Int32} {m_height : Nat → Int32} {m_ripe : Nat → Int32} {m_foot : Nat → Int32} {m_fork : Nat → Int32} {m_told : Nat → Int32} {x1 : Int32} {x2 : Int32} {m_rowMany : Int32} {m_thrown : Int32} {m_wanted : Int32} {m_row : Nat → Int32} {m_hand : Nat → Int32} {a : Int32 × Int32 × Int32} {i : Nat} (hi0 : i < 2147483648) (hz0 : Int32.toInt (F_X10_allStandings m_standings) < 2147483647) (hE : ∀ (c : Int32) (s : Int32 × Int32 × Int32), c = nI (i + (Int32.toInt (F_X10_allStandings m_standings) + 1 - ((i : Nat) : Int)).toNat) → s = itr (bd_X10_fits_73 m_fruits m_standings m_now m_x m_height m_ripe m_foot m_fork m_told x1 x2 m_rowMany m_thrown m_wanted m_row m_hand) a i (Int32.toInt (F_X10_allStandings m_standings) + 1 - ((i : Nat) : Int)).toNat → (wp_X10_tell (fun m_rowMany_6 m_row_7 => wp_X10_tell (fun m_rowMany_8 m_row_9 => P s.1 m_rowMany_8 m_thrown m_wanted m_row_9 m_hand) s.2.2 m_rowMany_6 m_row_7) s.2.1 0 m_row) → (wp_X10_tell (fun m_rowMany_6 m_row_7 => wp_X10_tell (fun m_rowMany_8 m_row_9 => Q s.1 m_rowMany_8 m_thrown m_wanted m_row_9 m_hand) s.2.2 m_rowMany_6 m_row_7) s.2.1 0 m_row)) : ∀ (n k : Nat) (c : Int32), c = nI (i + k) → k ≤ (Int32.toInt (F_X10_allStandings m_standings) + 1 - ((i : Nat) : Int)).toNat → wb_X10_fits_73 P m_fruits m_standings m_now m_x m_height m_ripe m_foot m_fork m_told n x1 x2 (itr (bd_X10_fits_73 m_fruits m_standings m_now m_x m_height m_ripe m_foot m_fork m_told x1 x2 m_rowMany m_thrown m_wanted m_row m_hand) a i k).1 (itr (bd_X10_fits_73 m_fruits m_standings m_now m_x m_height m_ripe m_foot m_fork m_told x1 x2 m_rowMany m_thrown m_wanted m_row m_hand) a i k).2.1 (itr (bd_X10_fits_73 m_fruits m_standings m_now m_x m_height m_ripe m_foot m_fork m_told x1 x2 m_rowMany m_thrown m_wanted m_row m_hand) a i k).2.2 c m_rowMany m_thrown m_wanted m_row m_hand → wb_X10_fits_73 Q m_fruits m_standings m_now m_x m_height m_ripe m_foot m_fork m_told n x1 x2 (itr (bd_X10_fits_73 m_fruits m_standings m_now m_x m_height m_ripe m_foot m_fork m_told x1 x2 m_rowMany m_thrown m_wanted m_row m_hand) a i k).1 (itr (bd_X10_fits_73 m_fruits m_standings m_now m_x m_height m_ripe m_foot m_fork m_told x1 x2 m_rowMany m_thrown m_wanted m_row m_hand) a i k).2.1 (itr (bd_X10_fits_73 m_fruits m_standings m_now m_x m_height m_ripe m_foot m_fork m_told x1 x2 m_rowMany m_thrown m_wanted m_row m_hand) a i k).2.2 c m_rowMany m_thrown m_wanted m_row m_hand := by
  intro n
  induction n with
  | zero => intro k c hc hk h; exact False.elim h
  | succ n ih =>
    intro k c hc hk h
    have hr := tp_r (F_X10_allStandings m_standings)
    have hi : Int32.toInt c = ((i + k : Nat) : Int) := by rw [hc]; exact nI_toInt (by omega)
    have h : ws_X10_fits_73 P (wb_X10_fits_73 P m_fruits m_standings m_now m_x m_height m_ripe m_foot m_fork m_told n) m_fruits m_standings m_now m_x m_height m_ripe m_foot m_fork m_told x1 x2 (itr (bd_X10_fits_73 m_fruits m_standings m_now m_x m_height m_ripe m_foot m_fork m_told x1 x2 m_rowMany m_thrown m_wanted m_row m_hand) a i k).1 (itr (bd_X10_fits_73 m_fruits m_standings m_now m_x m_height m_ripe m_foot m_fork m_told x1 x2 m_rowMany m_thrown m_wanted m_row m_hand) a i k).2.1 (itr (bd_X10_fits_73 m_fruits m_standings m_now m_x m_height m_ripe m_foot m_fork m_told x1 x2 m_rowMany m_thrown m_wanted m_row m_hand) a i k).2.2 c m_rowMany m_thrown m_wanted m_row m_hand := h
    show ws_X10_fits_73 Q (wb_X10_fits_73 Q m_fruits m_standings m_now m_x m_height m_ripe m_foot m_fork m_told n) m_fruits m_standings m_now m_x m_height m_ripe m_foot m_fork m_told x1 x2 (itr (bd_X10_fits_73 m_fruits m_standings m_now m_x m_height m_ripe m_foot m_fork m_told x1 x2 m_rowMany m_thrown m_wanted m_row m_hand) a i k).1 (itr (bd_X10_fits_73 m_fruits m_standings m_now m_x m_height m_ripe m_foot m_fork m_told x1 x2 m_rowMany m_thrown m_wanted m_row m_hand) a i k).2.1 (itr (bd_X10_fits_73 m_fruits m_standings m_now m_x m_height m_ripe m_foot m_fork m_told x1 x2 m_rowMany m_thrown m_wanted m_row m_hand) a i k).2.2 c m_rowMany m_thrown m_wanted m_row m_hand
    unfold ws_X10_fits_73 at h ⊢
    refine du_X10_allStandings h ?_
    intro h
    refine And.intro (fun t0 => ?_) (fun t0 => ?_)
    · have h := And.left h t0
      have t1 := (fa_lt _ _).mp t0
      have hk2 : k = (Int32.toInt (F_X10_allStandings m_standings) + 1 - ((i : Nat) : Int)).toNat := by omega
      subst hk2
      exact hE _ _ hc rfl h
    · have h := And.right h t0
      have t1 := mt (fa_lt _ _).mpr t0
      have hs : ∀ o : Int32 × Int32 × Int32, o = itr (bd_X10_fits_73 m_fruits m_standings m_now m_x m_height m_ripe m_foot m_fork m_told x1 x2 m_rowMany m_thrown m_wanted m_row m_hand) a i (k + 1) → wb_X10_fits_73 P m_fruits m_standings m_now m_x m_height m_ripe m_foot m_fork m_told n x1 x2 o.1 o.2.1 o.2.2 (c + 1) m_rowMany m_thrown m_wanted m_row m_hand → wb_X10_fits_73 Q m_fruits m_standings m_now m_x m_height m_ripe m_foot m_fork m_told n x1 x2 o.1 o.2.1 o.2.2 (c + 1) m_rowMany m_thrown m_wanted m_row m_hand := by
        intro o eo h9
        have q := ih (k + 1) (c + 1) (by rw [hc]; exact nI_1 _) (by omega)
        rw [← eo] at q
        exact q h9
      rw [itr_s, ← hc, bd_X10_fits_73] at hs
      refine And.intro (fun c1 => ?_) (fun c1 => ?_)
      · have h := And.left h c1
        rw [if_neg c1] at hs
        rw [j_X10_fits_156] at hs
        unfold ws_X10_fits_156 at h ⊢
        refine ae ?_
        have h := h _ rfl
        have q9 := hs _ rfl
        dsimp only at q9
        exact q9 h
      · have h := And.right h c1
        rw [if_pos c1] at hs
        refine du_X10_handOf h ?_
        intro h
        refine And.intro (fun c2 => ?_) (fun c2 => ?_)
        · have h := And.left h c2
          rw [if_pos c2] at hs
          refine ae ?_
          have h := h _ rfl
          refine And.intro (fun c3 => ?_) (fun c3 => ?_)
          · have h := And.left h c3
            rw [if_pos c3] at hs
            rw [j_X10_fits_129] at hs
            unfold ws_X10_fits_129 at h ⊢
            rw [j_X10_fits_133] at hs
            unfold ws_X10_fits_133 at h ⊢
            refine And.intro (fun c4 => ?_) (fun c4 => ?_)
            · have h := And.left h c4
              rw [if_pos c4] at hs
              rw [j_X10_fits_152] at hs
              unfold ws_X10_fits_152 at h ⊢
              rw [j_X10_fits_156] at hs
              unfold ws_X10_fits_156 at h ⊢
              refine ae ?_
              have h := h _ rfl
              have q9 := hs _ rfl
              dsimp only at q9
              exact q9 h
            · have h := And.right h c4
              rw [if_neg c4] at hs
              refine du_J6_bitCount_0f7a4 h ?_
              intro h
              refine du_J6_bitCount_0f7a4 h ?_
              intro h
              refine And.intro (fun c5 => ?_) (fun c5 => ?_)
              · have h := And.left h c5
                rw [if_pos c5] at hs
                rw [j_X10_fits_156] at hs
                unfold ws_X10_fits_156 at h ⊢
                refine ae ?_
                have h := h _ rfl
                have q9 := hs _ rfl
                dsimp only at q9
                exact q9 h
              · have h := And.right h c5
                rw [if_neg c5] at hs
                rw [j_X10_fits_152] at hs
                unfold ws_X10_fits_152 at h ⊢
                rw [j_X10_fits_156] at hs
                unfold ws_X10_fits_156 at h ⊢
                refine ae ?_
                have h := h _ rfl
                have q9 := hs _ rfl
                dsimp only at q9
                exact q9 h
          · have h := And.right h c3
            rw [if_neg c3] at hs
            refine du_J6_bitCount_0f7a4 h ?_
            intro h
            refine du_J6_bitCount_0f7a4 h ?_
            intro h
            refine And.intro (fun c6 => ?_) (fun c6 => ?_)
            · have h := And.left h c6
              rw [if_pos c6] at hs
              rw [j_X10_fits_133] at hs
              unfold ws_X10_fits_133 at h ⊢
              refine And.intro (fun c7 => ?_) (fun c7 => ?_)
              · have h := And.left h c7
                rw [if_pos c7] at hs
                rw [j_X10_fits_152] at hs
                unfold ws_X10_fits_152 at h ⊢
                rw [j_X10_fits_156] at hs
                unfold ws_X10_fits_156 at h ⊢
                refine ae ?_
                have h := h _ rfl
                have q9 := hs _ rfl
                dsimp only at q9
                exact q9 h
              · have h := And.right h c7
                rw [if_neg c7] at hs
                refine du_J6_bitCount_0f7a4 h ?_
                intro h
                refine du_J6_bitCount_0f7a4 h ?_
                intro h
                refine And.intro (fun c8 => ?_) (fun c8 => ?_)
                · have h := And.left h c8
                  rw [if_pos c8] at hs
                  rw [j_X10_fits_156] at hs
                  unfold ws_X10_fits_156 at h ⊢
                  refine ae ?_
                  have h := h _ rfl
                  have q9 := hs _ rfl
                  dsimp only at q9
                  exact q9 h
                · have h := And.right h c8
                  rw [if_neg c8] at hs
                  rw [j_X10_fits_152] at hs
                  unfold ws_X10_fits_152 at h ⊢
                  rw [j_X10_fits_156] at hs
                  unfold ws_X10_fits_156 at h ⊢
                  refine ae ?_
                  have h := h _ rfl
                  have q9 := hs _ rfl
                  dsimp only at q9
                  exact q9 h
            · have h := And.right h c6
              rw [if_neg c6] at hs
              rw [j_X10_fits_129] at hs
              unfold ws_X10_fits_129 at h ⊢
              rw [j_X10_fits_133] at hs
              unfold ws_X10_fits_133 at h ⊢
              refine And.intro (fun c9 => ?_) (fun c9 => ?_)
              · have h := And.left h c9
                rw [if_pos c9] at hs
                rw [j_X10_fits_152] at hs
                unfold ws_X10_fits_152 at h ⊢
                rw [j_X10_fits_156] at hs
                unfold ws_X10_fits_156 at h ⊢
                refine ae ?_
                have h := h _ rfl
                have q9 := hs _ rfl
                dsimp only at q9
                exact q9 h
              · have h := And.right h c9
                rw [if_neg c9] at hs
                refine du_J6_bitCount_0f7a4 h ?_
                intro h
                refine du_J6_bitCount_0f7a4 h ?_
                intro h
                refine And.intro (fun c10 => ?_) (fun c10 => ?_)
                · have h := And.left h c10
                  rw [if_pos c10] at hs
                  rw [j_X10_fits_156] at hs
                  unfold ws_X10_fits_156 at h ⊢
                  refine ae ?_
                  have h := h _ rfl
                  have q9 := hs _ rfl
                  dsimp only at q9
                  exact q9 h
                · have h := And.right h c10
                  rw [if_neg c10] at hs
                  rw [j_X10_fits_152] at hs
                  unfold ws_X10_fits_152 at h ⊢
                  rw [j_X10_fits_156] at hs
                  unfold ws_X10_fits_156 at h ⊢
                  refine ae ?_
                  have h := h _ rfl
                  have q9 := hs _ rfl
                  dsimp only at q9
                  exact q9 h
        · have h := And.right h c2
          rw [if_neg c2] at hs
          rw [j_X10_fits_156] at hs
          unfold ws_X10_fits_156 at h ⊢
          refine ae ?_
          have h := h _ rfl
          have q9 := hs _ rfl
          dsimp only at q9
          exact q9 h
noncomputable def ex_X10_fits_27 {R : Type} (po : Int32 → Int32 → Int32 → Int32 → (Nat → Int32) → (Nat → Int32) → R) (m_fruits : Int32) (m_standings : Int32) (m_now : Nat → Int32) (m_x : Nat → Int32) (m_height : Nat → Int32) (m_ripe : Nat → Int32) (m_foot : Nat → Int32) (m_fork : Nat → Int32) (m_told : Nat → Int32) (x1 : Int32) (m_rowMany : Int32) (m_thrown : Int32) (m_wanted : Int32) (m_row : Nat → Int32) (m_hand : Nat → Int32) (c : Int32) (s : Int32) : R := ex_X10_fits_73 po m_fruits m_standings m_now m_x m_height m_ripe m_foot m_fork m_told x1 s m_rowMany m_thrown m_wanted m_row m_hand (nI (0 + (Int32.toInt (F_X10_allStandings m_standings) + 1 - ((0 : Nat) : Int)).toNat)) (itr (bd_X10_fits_73 m_fruits m_standings m_now m_x m_height m_ripe m_foot m_fork m_told x1 s m_rowMany m_thrown m_wanted m_row m_hand) (0, (-1), (-1)) 0 (Int32.toInt (F_X10_allStandings m_standings) + 1 - ((0 : Nat) : Int)).toNat)
set_option maxHeartbeats 200000 in
set_option maxRecDepth 10000 in
theorem dl_X10_fits_27 {P Q : Int32 → Int32 → Int32 → Int32 → (Nat → Int32) → (Nat → Int32) → Prop} {m_fruits : Int32} {m_standings : Int32} {m_now : Nat → Int32} {m_x : Nat → Int32} {m_height : Nat → Int32} {m_ripe : Nat → Int32} {m_foot : Nat → Int32} {m_fork : Nat → Int32} {m_told : Nat → Int32} {x1 : Int32} {m_rowMany : Int32} {m_thrown : Int32} {m_wanted : Int32} {m_row : Nat → Int32} {m_hand : Nat → Int32} {a : Int32} {i : Nat} (hi0 : i < 2147483648) (hE : ∀ (c : Int32) (s : Int32), c = nI (i + (Int32.toInt m_standings - ((i : Nat) : Int)).toNat) → s = itr (bd_X10_fits_27 m_fruits m_standings m_now m_x m_height m_ripe m_foot m_fork m_told x1 m_rowMany m_thrown m_wanted m_row m_hand) a i (Int32.toInt m_standings - ((i : Nat) : Int)).toNat → (∃ n : Nat, wb_X10_fits_73 P m_fruits m_standings m_now m_x m_height m_ripe m_foot m_fork m_told n x1 s 0 (-1) (-1) 0 m_rowMany m_thrown m_wanted m_row m_hand) → (∃ n : Nat, wb_X10_fits_73 Q m_fruits m_standings m_now m_x m_height m_ripe m_foot m_fork m_told n x1 s 0 (-1) (-1) 0 m_rowMany m_thrown m_wanted m_row m_hand)) : ∀ (n k : Nat) (c : Int32), c = nI (i + k) → k ≤ (Int32.toInt m_standings - ((i : Nat) : Int)).toNat → wb_X10_fits_27 P m_fruits m_standings m_now m_x m_height m_ripe m_foot m_fork m_told n x1 (itr (bd_X10_fits_27 m_fruits m_standings m_now m_x m_height m_ripe m_foot m_fork m_told x1 m_rowMany m_thrown m_wanted m_row m_hand) a i k) c m_rowMany m_thrown m_wanted m_row m_hand → wb_X10_fits_27 Q m_fruits m_standings m_now m_x m_height m_ripe m_foot m_fork m_told n x1 (itr (bd_X10_fits_27 m_fruits m_standings m_now m_x m_height m_ripe m_foot m_fork m_told x1 m_rowMany m_thrown m_wanted m_row m_hand) a i k) c m_rowMany m_thrown m_wanted m_row m_hand := by
  intro n
  induction n with
  | zero => intro k c hc hk h; exact False.elim h
  | succ n ih =>
    intro k c hc hk h
    have hr := tp_r m_standings
    have hi : Int32.toInt c = ((i + k : Nat) : Int) := by rw [hc]; exact nI_toInt (by omega)
    refine And.intro (fun t0 => ?_) (fun t0 => ?_)
    · have h := And.left h t0
      have t1 := (fa_le _ _).mp t0
      have hk2 : k = (Int32.toInt m_standings - ((i : Nat) : Int)).toNat := by omega
      subst hk2
      exact hE _ _ hc rfl h
    · have h := And.right h t0
      have t1 := mt (fa_le _ _).mpr t0
      have hs : ∀ o : Int32, o = itr (bd_X10_fits_27 m_fruits m_standings m_now m_x m_height m_ripe m_foot m_fork m_told x1 m_rowMany m_thrown m_wanted m_row m_hand) a i (k + 1) → wb_X10_fits_27 P m_fruits m_standings m_now m_x m_height m_ripe m_foot m_fork m_told n x1 o (c + 1) m_rowMany m_thrown m_wanted m_row m_hand → wb_X10_fits_27 Q m_fruits m_standings m_now m_x m_height m_ripe m_foot m_fork m_told n x1 o (c + 1) m_rowMany m_thrown m_wanted m_row m_hand := by
        intro o eo h9
        have q := ih (k + 1) (c + 1) (by rw [hc]; exact nI_1 _) (by omega)
        rw [← eo] at q
        exact q h9
      rw [itr_s, ← hc, bd_X10_fits_27] at hs
      refine And.intro (And.left h) ?_
      have h := And.right h
      refine ae ?_
      have h := h _ rfl
      refine And.intro (fun c1 => ?_) (fun c1 => ?_)
      · have h := And.left h c1
        rw [if_pos c1] at hs
        rw [j_X10_fits_54] at hs
        unfold ws_X10_fits_54 at h ⊢
        refine ae ?_
        have h := h _ rfl
        refine ae ?_
        have h := h _ rfl
        have q9 := hs _ rfl
        exact q9 h
      · have h := And.right h c1
        rw [if_neg c1] at hs
        refine ae ?_
        have h := h _ rfl
        rw [j_X10_fits_54] at hs
        unfold ws_X10_fits_54 at h ⊢
        refine ae ?_
        have h := h _ rfl
        refine ae ?_
        have h := h _ rfl
        have q9 := hs _ rfl
        exact q9 h
noncomputable def F_X10_fits (p0 : Int32) (m_fruits : Int32) (m_standings : Int32) (m_rowMany : Int32) (m_thrown : Int32) (m_wanted : Int32) (m_now : Nat → Int32) (m_x : Nat → Int32) (m_height : Nat → Int32) (m_ripe : Nat → Int32) (m_foot : Nat → Int32) (m_fork : Nat → Int32) (m_told : Nat → Int32) (m_row : Nat → Int32) (m_hand : Nat → Int32) : Int32 × Int32 × Int32 × Int32 × (Nat → Int32) × (Nat → Int32) := if (F_X10_in p0 0 (F_X10_allFruits m_fruits)) = 0 then ((-1), m_rowMany, 0, m_wanted, m_row, m_hand) else (ex_X10_fits_27 (fun o0 o1 o2 o3 o4 o5 => (o0, o1, o2, o3, o4, o5)) m_fruits m_standings m_now m_x m_height m_ripe m_foot m_fork m_told p0 m_rowMany 0 ((F_X10_layHands m_fruits m_standings m_wanted m_now m_x m_height m_ripe m_foot m_fork m_told m_hand).1) m_row ((F_X10_layHands m_fruits m_standings m_wanted m_now m_x m_height m_ripe m_foot m_fork m_told m_hand).2) (nI (0 + (Int32.toInt m_standings - ((0 : Nat) : Int)).toNat)) (itr (bd_X10_fits_27 m_fruits m_standings m_now m_x m_height m_ripe m_foot m_fork m_told p0 m_rowMany 0 ((F_X10_layHands m_fruits m_standings m_wanted m_now m_x m_height m_ripe m_foot m_fork m_told m_hand).1) m_row ((F_X10_layHands m_fruits m_standings m_wanted m_now m_x m_height m_ripe m_foot m_fork m_told m_hand).2)) 0 0 (Int32.toInt m_standings - ((0 : Nat) : Int)).toNat))
set_option maxHeartbeats 200000 in
set_option maxRecDepth 10000 in
theorem dt_X10_fits {P Q : Int32 → Int32 → Int32 → Int32 → (Nat → Int32) → (Nat → Int32) → Prop} {p0 : Int32} {m_fruits : Int32} {m_standings : Int32} {m_rowMany : Int32} {m_thrown : Int32} {m_wanted : Int32} {m_now : Nat → Int32} {m_x : Nat → Int32} {m_height : Nat → Int32} {m_ripe : Nat → Int32} {m_foot : Nat → Int32} {m_fork : Nat → Int32} {m_told : Nat → Int32} {m_row : Nat → Int32} {m_hand : Nat → Int32} (hy0 : Int32.toInt (F_X10_allStandings m_standings) < 2147483647) (h : wp_X10_fits P p0 m_fruits m_standings m_rowMany m_thrown m_wanted m_now m_x m_height m_ripe m_foot m_fork m_told m_row m_hand) (hq : ∀ o : Int32 × Int32 × Int32 × Int32 × (Nat → Int32) × (Nat → Int32), o = F_X10_fits p0 m_fruits m_standings m_rowMany m_thrown m_wanted m_now m_x m_height m_ripe m_foot m_fork m_told m_row m_hand → P o.1 o.2.1 o.2.2.1 o.2.2.2.1 o.2.2.2.2.1 o.2.2.2.2.2 → Q o.1 o.2.1 o.2.2.1 o.2.2.2.1 o.2.2.2.2.1 o.2.2.2.2.2) : wp_X10_fits Q p0 m_fruits m_standings m_rowMany m_thrown m_wanted m_now m_x m_height m_ripe m_foot m_fork m_told m_row m_hand := by
  rw [F_X10_fits] at hq
  refine du_X10_allFruits h ?_
  intro h
  refine du_X10_in h ?_
  intro h
  refine And.intro (fun c1 => ?_) (fun c1 => ?_)
  · have h := And.left h c1
    rw [if_neg c1] at hq
    refine du_X10_layHands h ?_
    intro h
    obtain ⟨n2, h⟩ := h
    refine ⟨n2, dl_X10_fits_27 (a := 0) (i := 0) (by decide) ?_ n2 0 0 (by decide) (Nat.zero_le _) h⟩
    intro cc3 s4 ec5 es6 h
    rw [← ec5, ← es6, ex_X10_fits_27] at hq
    obtain ⟨n7, h⟩ := h
    refine ⟨n7, dl_X10_fits_73 (a := (0, (-1), (-1))) (i := 0) (by decide) hy0 ?_ n7 0 0 (by decide) (Nat.zero_le _) h⟩
    intro cc8 s9 ec10 es11 h
    rw [← ec10, ← es11, ex_X10_fits_73] at hq
    refine du_X10_tell h ?_
    intro h
    refine du_X10_tell h ?_
    intro h
    have q9 := hq _ rfl
    dsimp only at q9
    exact q9 h
  · have h := And.right h c1
    rw [if_pos c1] at hq
    have q9 := hq _ rfl
    dsimp only at q9
    exact q9 h
theorem du_X10_fits {P Q : Int32 → Int32 → Int32 → Int32 → (Nat → Int32) → (Nat → Int32) → Prop} {p0 : Int32} {m_fruits : Int32} {m_standings : Int32} {m_rowMany : Int32} {m_thrown : Int32} {m_wanted : Int32} {m_now : Nat → Int32} {m_x : Nat → Int32} {m_height : Nat → Int32} {m_ripe : Nat → Int32} {m_foot : Nat → Int32} {m_fork : Nat → Int32} {m_told : Nat → Int32} {m_row : Nat → Int32} {m_hand : Nat → Int32} (hy0 : Int32.toInt (F_X10_allStandings m_standings) < 2147483647) (h : wp_X10_fits P p0 m_fruits m_standings m_rowMany m_thrown m_wanted m_now m_x m_height m_ripe m_foot m_fork m_told m_row m_hand) (hq : P (F_X10_fits p0 m_fruits m_standings m_rowMany m_thrown m_wanted m_now m_x m_height m_ripe m_foot m_fork m_told m_row m_hand).1 (F_X10_fits p0 m_fruits m_standings m_rowMany m_thrown m_wanted m_now m_x m_height m_ripe m_foot m_fork m_told m_row m_hand).2.1 (F_X10_fits p0 m_fruits m_standings m_rowMany m_thrown m_wanted m_now m_x m_height m_ripe m_foot m_fork m_told m_row m_hand).2.2.1 (F_X10_fits p0 m_fruits m_standings m_rowMany m_thrown m_wanted m_now m_x m_height m_ripe m_foot m_fork m_told m_row m_hand).2.2.2.1 (F_X10_fits p0 m_fruits m_standings m_rowMany m_thrown m_wanted m_now m_x m_height m_ripe m_foot m_fork m_told m_row m_hand).2.2.2.2.1 (F_X10_fits p0 m_fruits m_standings m_rowMany m_thrown m_wanted m_now m_x m_height m_ripe m_foot m_fork m_told m_row m_hand).2.2.2.2.2 → Q (F_X10_fits p0 m_fruits m_standings m_rowMany m_thrown m_wanted m_now m_x m_height m_ripe m_foot m_fork m_told m_row m_hand).1 (F_X10_fits p0 m_fruits m_standings m_rowMany m_thrown m_wanted m_now m_x m_height m_ripe m_foot m_fork m_told m_row m_hand).2.1 (F_X10_fits p0 m_fruits m_standings m_rowMany m_thrown m_wanted m_now m_x m_height m_ripe m_foot m_fork m_told m_row m_hand).2.2.1 (F_X10_fits p0 m_fruits m_standings m_rowMany m_thrown m_wanted m_now m_x m_height m_ripe m_foot m_fork m_told m_row m_hand).2.2.2.1 (F_X10_fits p0 m_fruits m_standings m_rowMany m_thrown m_wanted m_now m_x m_height m_ripe m_foot m_fork m_told m_row m_hand).2.2.2.2.1 (F_X10_fits p0 m_fruits m_standings m_rowMany m_thrown m_wanted m_now m_x m_height m_ripe m_foot m_fork m_told m_row m_hand).2.2.2.2.2) : wp_X10_fits Q p0 m_fruits m_standings m_rowMany m_thrown m_wanted m_now m_x m_height m_ripe m_foot m_fork m_told m_row m_hand := dt_X10_fits hy0 h (fun o eo => by rw [eo]; exact hq)
theorem dw_X10_fits {Q : Int32 → Int32 → Int32 → Int32 → (Nat → Int32) → (Nat → Int32) → Prop} {p0 : Int32} {m_fruits : Int32} {m_standings : Int32} {m_rowMany : Int32} {m_thrown : Int32} {m_wanted : Int32} {m_now : Nat → Int32} {m_x : Nat → Int32} {m_height : Nat → Int32} {m_ripe : Nat → Int32} {m_foot : Nat → Int32} {m_fork : Nat → Int32} {m_told : Nat → Int32} {m_row : Nat → Int32} {m_hand : Nat → Int32} (hy0 : Int32.toInt (F_X10_allStandings m_standings) < 2147483647) (h : wp_X10_fits (fun o0 o1 o2 o3 o4 o5 => (o0, o1, o2, o3, o4, o5) = F_X10_fits p0 m_fruits m_standings m_rowMany m_thrown m_wanted m_now m_x m_height m_ripe m_foot m_fork m_told m_row m_hand → Q o0 o1 o2 o3 o4 o5) p0 m_fruits m_standings m_rowMany m_thrown m_wanted m_now m_x m_height m_ripe m_foot m_fork m_told m_row m_hand) : wp_X10_fits Q p0 m_fruits m_standings m_rowMany m_thrown m_wanted m_now m_x m_height m_ripe m_foot m_fork m_told m_row m_hand := dt_X10_fits hy0 h (fun o eo hp => hp eo)
noncomputable def F_X10_draw (p0 : Int32) (m_drawn : Int32) : Int32 × Int32 := ((((((m_drawn * 1103515245) + 12345).toUInt32 >>> ((16 : Int32).toUInt32 &&& Int32.toUInt32 31)).toInt32) - ((((m_drawn * 1103515245) + 12345).toUInt32 >>> ((16 : Int32).toUInt32 &&& Int32.toUInt32 31)).toInt32) / p0 * p0), ((m_drawn * 1103515245) + 12345))
set_option maxHeartbeats 200000 in
set_option maxRecDepth 10000 in
theorem dt_X10_draw {P Q : Int32 → Int32 → Prop} {p0 : Int32} {m_drawn : Int32} (h : wp_X10_draw P p0 m_drawn) (hq : ∀ o : Int32 × Int32, o = F_X10_draw p0 m_drawn → P o.1 o.2 → Q o.1 o.2) : wp_X10_draw Q p0 m_drawn := by
  rw [F_X10_draw] at hq
  refine ae ?_
  have h := h _ rfl
  refine ae ?_
  have h := h _ rfl
  refine ae ?_
  have h := h _ rfl
  refine And.intro (And.left h) ?_
  have h := And.right h
  have q9 := hq _ rfl
  dsimp only at q9
  exact q9 h
theorem du_X10_draw {P Q : Int32 → Int32 → Prop} {p0 : Int32} {m_drawn : Int32} (h : wp_X10_draw P p0 m_drawn) (hq : P (F_X10_draw p0 m_drawn).1 (F_X10_draw p0 m_drawn).2 → Q (F_X10_draw p0 m_drawn).1 (F_X10_draw p0 m_drawn).2) : wp_X10_draw Q p0 m_drawn := dt_X10_draw h (fun o eo => by rw [eo]; exact hq)
theorem dw_X10_draw {Q : Int32 → Int32 → Prop} {p0 : Int32} {m_drawn : Int32} (h : wp_X10_draw (fun o0 o1 => (o0, o1) = F_X10_draw p0 m_drawn → Q o0 o1) p0 m_drawn) : wp_X10_draw Q p0 m_drawn := dt_X10_draw h (fun o eo hp => hp eo)
noncomputable def j_X10_autumn_129 {R : Type} (k91 : Int32 → Int32 → Int32 → Int32 → Int32 → Int32 → Int32 → Int32 → Int32 → Int32 → Int32 → Int32 → Int32 → (Nat → Int32) → R) (m_fruits : Int32) (m_now : Nat → Int32) (m_worth : Nat → Int32) (m_ripe : Nat → Int32) (x2 : Int32) (x3 : Int32) (x4 : Int32) (x5 : Int32) (x6 : Int32) (x7 : Int32) (x8 : Int32) (x9 : Int32) (x10 : Int32) (x11 : Int32) (m_rowMany : Int32) (m_thrown : Int32) (m_drawn : Int32) (m_row : Nat → Int32) : R := k91 x2 x3 x4 x5 x6 x7 x8 x9 x10 (x11 + 1) m_rowMany m_thrown m_drawn m_row
noncomputable def bd_X10_autumn_91 (m_fruits : Int32) (m_now : Nat → Int32) (m_worth : Nat → Int32) (m_ripe : Nat → Int32) (x2 : Int32) (x3 : Int32) (x4 : Int32) (x5 : Int32) (x6 : Int32) (x7 : Int32) (x8 : Int32) (x9 : Int32) (m_rowMany : Int32) (m_thrown : Int32) (m_row : Nat → Int32) (c : Int32) (s : Int32 × Int32) : Int32 × Int32 := if (F_X10_has x9 c) = 0 then (j_X10_autumn_129 (fun q0 q1 q2 q3 q4 q5 q6 q7 q8 q9 q10 q11 q12 q13 => (q8, q12)) m_fruits m_now m_worth m_ripe x2 x3 x4 x5 x6 x7 x8 x9 s.1 c m_rowMany m_thrown s.2 m_row) else (if x3 ≤ (F_X10_draw 10 s.2).1 then (j_X10_autumn_129 (fun q0 q1 q2 q3 q4 q5 q6 q7 q8 q9 q10 q11 q12 q13 => (q8, q12)) m_fruits m_now m_worth m_ripe x2 x3 x4 x5 x6 x7 x8 x9 s.1 c m_rowMany m_thrown ((F_X10_draw 10 s.2).2) m_row) else (j_X10_autumn_129 (fun q0 q1 q2 q3 q4 q5 q6 q7 q8 q9 q10 q11 q12 q13 => (q8, q12)) m_fruits m_now m_worth m_ripe x2 x3 x4 x5 x6 x7 x8 x9 (s.1 ||| (1 <<< (c &&& 31))) c m_rowMany m_thrown ((F_X10_draw 10 s.2).2) m_row))
noncomputable def j_X10_autumn_175 {R : Type} (k55 : Int32 → Int32 → Int32 → Int32 → Int32 → Int32 → Int32 → Int32 → Int32 → Int32 → (Nat → Int32) → R) (m_fruits : Int32) (m_now : Nat → Int32) (m_worth : Nat → Int32) (m_ripe : Nat → Int32) (x2 : Int32) (x3 : Int32) (x4 : Int32) (x5 : Int32) (x6 : Int32) (x7 : Int32) (x8 : Int32) (m_rowMany : Int32) (m_thrown : Int32) (m_drawn : Int32) (m_row : Nat → Int32) : R := k55 x2 x3 x4 x5 x6 x7 (x8 + 1) m_rowMany m_thrown m_drawn m_row
noncomputable def ex_X10_autumn_91 {R : Type} (k55 : Int32 → Int32 → Int32 → Int32 → Int32 → Int32 → Int32 → Int32 → Int32 → Int32 → (Nat → Int32) → R) (m_fruits : Int32) (m_now : Nat → Int32) (m_worth : Nat → Int32) (m_ripe : Nat → Int32) (x2 : Int32) (x3 : Int32) (x4 : Int32) (x5 : Int32) (x6 : Int32) (x7 : Int32) (x8 : Int32) (x9 : Int32) (m_rowMany : Int32) (m_thrown : Int32) (m_row : Nat → Int32) (c : Int32) (s : Int32 × Int32) : R := if x6 < (F_J6_bitCount_0f7a4 s.1) then (j_X10_autumn_175 k55 m_fruits m_now m_worth m_ripe x2 x3 (x4 &&& (s.1 ^^^ (-1))) (x5 ||| s.1) (F_J6_bitCount_0f7a4 s.1) x8 x8 m_rowMany m_thrown s.2 m_row) else (j_X10_autumn_175 k55 m_fruits m_now m_worth m_ripe x2 x3 (x4 &&& (s.1 ^^^ (-1))) (x5 ||| s.1) x6 x7 x8 m_rowMany m_thrown s.2 m_row)
set_option maxHeartbeats 200000 in
set_option maxRecDepth 10000 in
theorem dl_X10_autumn_91 {P Q : Int32 → Int32 → Int32 → Int32 → (Nat → Int32) → Prop} {K55 L55 : Int32 → Int32 → Int32 → Int32 → Int32 → Int32 → Int32 → Int32 → Int32 → Int32 → (Nat → Int32) → Prop} {m_fruits : Int32} {m_now : Nat → Int32} {m_worth : Nat → Int32} {m_ripe : Nat → Int32} {x2 : Int32} {x3 : Int32} {x4 : Int32} {x5 : Int32} {x6 : Int32} {x7 : Int32} {x8 : Int32} {x9 : Int32} {m_rowMany : Int32} {m_thrown : Int32} {m_row : Nat → Int32} {a : Int32 × Int32} {i : Nat} (hi0 : i < 2147483648) (hE : ∀ (c : Int32) (s : Int32 × Int32), c = nI (i + (Int32.toInt m_fruits - ((i : Nat) : Int)).toNat) → s = itr (bd_X10_autumn_91 m_fruits m_now m_worth m_ripe x2 x3 x4 x5 x6 x7 x8 x9 m_rowMany m_thrown m_row) a i (Int32.toInt m_fruits - ((i : Nat) : Int)).toNat → (∀ v_18 : Int32, v_18 = x4 &&& (s.1 ^^^ (-1)) → ∀ v_19 : Int32, v_19 = x5 ||| s.1 → wp_J6_bitCount_0f7a4 (fun r_20 => (x6 < r_20 → wp_J6_bitCount_0f7a4 (fun r_21 => ws_X10_autumn_175 P K55 m_fruits m_now m_worth m_ripe x2 x3 v_18 v_19 r_21 x8 x8 m_rowMany m_thrown s.2 m_row) s.1) ∧ (¬ x6 < r_20 → ws_X10_autumn_175 P K55 m_fruits m_now m_worth m_ripe x2 x3 v_18 v_19 x6 x7 x8 m_rowMany m_thrown s.2 m_row)) s.1) → (∀ v_18 : Int32, v_18 = x4 &&& (s.1 ^^^ (-1)) → ∀ v_19 : Int32, v_19 = x5 ||| s.1 → wp_J6_bitCount_0f7a4 (fun r_20 => (x6 < r_20 → wp_J6_bitCount_0f7a4 (fun r_21 => ws_X10_autumn_175 Q L55 m_fruits m_now m_worth m_ripe x2 x3 v_18 v_19 r_21 x8 x8 m_rowMany m_thrown s.2 m_row) s.1) ∧ (¬ x6 < r_20 → ws_X10_autumn_175 Q L55 m_fruits m_now m_worth m_ripe x2 x3 v_18 v_19 x6 x7 x8 m_rowMany m_thrown s.2 m_row)) s.1)) : ∀ (n k : Nat) (c : Int32), c = nI (i + k) → k ≤ (Int32.toInt m_fruits - ((i : Nat) : Int)).toNat → wb_X10_autumn_91 P K55 m_fruits m_now m_worth m_ripe n x2 x3 x4 x5 x6 x7 x8 x9 (itr (bd_X10_autumn_91 m_fruits m_now m_worth m_ripe x2 x3 x4 x5 x6 x7 x8 x9 m_rowMany m_thrown m_row) a i k).1 c m_rowMany m_thrown (itr (bd_X10_autumn_91 m_fruits m_now m_worth m_ripe x2 x3 x4 x5 x6 x7 x8 x9 m_rowMany m_thrown m_row) a i k).2 m_row → wb_X10_autumn_91 Q L55 m_fruits m_now m_worth m_ripe n x2 x3 x4 x5 x6 x7 x8 x9 (itr (bd_X10_autumn_91 m_fruits m_now m_worth m_ripe x2 x3 x4 x5 x6 x7 x8 x9 m_rowMany m_thrown m_row) a i k).1 c m_rowMany m_thrown (itr (bd_X10_autumn_91 m_fruits m_now m_worth m_ripe x2 x3 x4 x5 x6 x7 x8 x9 m_rowMany m_thrown m_row) a i k).2 m_row := by
  intro n
  induction n with
  | zero => intro k c hc hk h; exact False.elim h
  | succ n ih =>
    intro k c hc hk h
    have hr := tp_r m_fruits
    have hi : Int32.toInt c = ((i + k : Nat) : Int) := by rw [hc]; exact nI_toInt (by omega)
    refine And.intro (fun t0 => ?_) (fun t0 => ?_)
    · have h := And.left h t0
      have t1 := (fa_le _ _).mp t0
      have hk2 : k = (Int32.toInt m_fruits - ((i : Nat) : Int)).toNat := by omega
      subst hk2
      exact hE _ _ hc rfl h
    · have h := And.right h t0
      have t1 := mt (fa_le _ _).mpr t0
      have hs : ∀ o : Int32 × Int32, o = itr (bd_X10_autumn_91 m_fruits m_now m_worth m_ripe x2 x3 x4 x5 x6 x7 x8 x9 m_rowMany m_thrown m_row) a i (k + 1) → wb_X10_autumn_91 P K55 m_fruits m_now m_worth m_ripe n x2 x3 x4 x5 x6 x7 x8 x9 o.1 (c + 1) m_rowMany m_thrown o.2 m_row → wb_X10_autumn_91 Q L55 m_fruits m_now m_worth m_ripe n x2 x3 x4 x5 x6 x7 x8 x9 o.1 (c + 1) m_rowMany m_thrown o.2 m_row := by
        intro o eo h9
        have q := ih (k + 1) (c + 1) (by rw [hc]; exact nI_1 _) (by omega)
        rw [← eo] at q
        exact q h9
      rw [itr_s, ← hc, bd_X10_autumn_91] at hs
      refine du_X10_has h ?_
      intro h
      refine And.intro (fun c1 => ?_) (fun c1 => ?_)
      · have h := And.left h c1
        rw [if_pos c1] at hs
        rw [j_X10_autumn_129] at hs
        unfold ws_X10_autumn_129 at h ⊢
        refine ae ?_
        have h := h _ rfl
        have q9 := hs _ rfl
        dsimp only at q9
        exact q9 h
      · have h := And.right h c1
        rw [if_neg c1] at hs
        refine du_X10_draw h ?_
        intro h
        refine And.intro (fun c2 => ?_) (fun c2 => ?_)
        · have h := And.left h c2
          rw [if_pos c2] at hs
          rw [j_X10_autumn_129] at hs
          unfold ws_X10_autumn_129 at h ⊢
          refine ae ?_
          have h := h _ rfl
          have q9 := hs _ rfl
          dsimp only at q9
          exact q9 h
        · have h := And.right h c2
          rw [if_neg c2] at hs
          refine ae ?_
          have h := h _ rfl
          rw [j_X10_autumn_129] at hs
          unfold ws_X10_autumn_129 at h ⊢
          refine ae ?_
          have h := h _ rfl
          have q9 := hs _ rfl
          dsimp only at q9
          exact q9 h
noncomputable def bd_X10_autumn_55 (m_fruits : Int32) (m_now : Nat → Int32) (m_worth : Nat → Int32) (m_ripe : Nat → Int32) (x2 : Int32) (x3 : Int32) (m_rowMany : Int32) (m_thrown : Int32) (m_row : Nat → Int32) (c : Int32) (s : Int32 × Int32 × Int32 × Int32 × Int32) : Int32 × Int32 × Int32 × Int32 × Int32 := ex_X10_autumn_91 (fun q0 q1 q2 q3 q4 q5 q6 q7 q8 q9 q10 => (q2, q3, q4, q5, q9)) m_fruits m_now m_worth m_ripe x2 x3 s.1 s.2.1 s.2.2.1 s.2.2.2.1 c (s.1 &&& (F_X10_ripeOnes (if ((m_now (19 : Int32).toNatClampNeg) + c) < 9 then ((m_now (19 : Int32).toNatClampNeg) + c) else 9) m_fruits m_ripe)) m_rowMany m_thrown m_row (nI (0 + (Int32.toInt m_fruits - ((0 : Nat) : Int)).toNat)) (itr (bd_X10_autumn_91 m_fruits m_now m_worth m_ripe x2 x3 s.1 s.2.1 s.2.2.1 s.2.2.2.1 c (s.1 &&& (F_X10_ripeOnes (if ((m_now (19 : Int32).toNatClampNeg) + c) < 9 then ((m_now (19 : Int32).toNatClampNeg) + c) else 9) m_fruits m_ripe)) m_rowMany m_thrown m_row) (0, s.2.2.2.2) 0 (Int32.toInt m_fruits - ((0 : Nat) : Int)).toNat)
noncomputable def ex_X10_autumn_55 {R : Type} (po : Int32 → Int32 → Int32 → Int32 → (Nat → Int32) → R) (m_fruits : Int32) (m_now : Nat → Int32) (m_worth : Nat → Int32) (m_ripe : Nat → Int32) (x2 : Int32) (x3 : Int32) (m_rowMany : Int32) (m_thrown : Int32) (m_row : Nat → Int32) (c : Int32) (s : Int32 × Int32 × Int32 × Int32 × Int32) : R := po (F_J6_bitCount_0f7a4 s.2.1) ((F_X10_tell s.2.2.2.1 (F_X10_tell (F_X10_worthOfAll s.2.1 (m_now (16 : Int32).toNatClampNeg) m_fruits m_worth) (F_X10_tell s.2.1 0 m_row).1 (F_X10_tell s.2.1 0 m_row).2).1 (F_X10_tell (F_X10_worthOfAll s.2.1 (m_now (16 : Int32).toNatClampNeg) m_fruits m_worth) (F_X10_tell s.2.1 0 m_row).1 (F_X10_tell s.2.1 0 m_row).2).2).1) m_thrown s.2.2.2.2 ((F_X10_tell s.2.2.2.1 (F_X10_tell (F_X10_worthOfAll s.2.1 (m_now (16 : Int32).toNatClampNeg) m_fruits m_worth) (F_X10_tell s.2.1 0 m_row).1 (F_X10_tell s.2.1 0 m_row).2).1 (F_X10_tell (F_X10_worthOfAll s.2.1 (m_now (16 : Int32).toNatClampNeg) m_fruits m_worth) (F_X10_tell s.2.1 0 m_row).1 (F_X10_tell s.2.1 0 m_row).2).2).2)
set_option maxHeartbeats 200000 in
set_option maxRecDepth 10000 in
theorem dl_X10_autumn_55 {P Q : Int32 → Int32 → Int32 → Int32 → (Nat → Int32) → Prop} {m_fruits : Int32} {m_now : Nat → Int32} {m_worth : Nat → Int32} {m_ripe : Nat → Int32} {x2 : Int32} {x3 : Int32} {m_rowMany : Int32} {m_thrown : Int32} {m_row : Nat → Int32} {a : Int32 × Int32 × Int32 × Int32 × Int32} {i : Nat} (hi0 : i < 2147483648) (hz0 : Int32.toInt x2 < 2147483647) (hE : ∀ (c : Int32) (s : Int32 × Int32 × Int32 × Int32 × Int32), c = nI (i + (Int32.toInt x2 + 1 - ((i : Nat) : Int)).toNat) → s = itr (bd_X10_autumn_55 m_fruits m_now m_worth m_ripe x2 x3 m_rowMany m_thrown m_row) a i (Int32.toInt x2 + 1 - ((i : Nat) : Int)).toNat → (wp_X10_tell (fun m_rowMany_4 m_row_5 => ∀ v_6 : Int32, v_6 = m_now (16 : Int32).toNatClampNeg → wp_X10_worthOfAll (fun r_7 => wp_X10_tell (fun m_rowMany_8 m_row_9 => wp_X10_tell (fun m_rowMany_10 m_row_11 => wp_J6_bitCount_0f7a4 (fun r_12 => P r_12 m_rowMany_10 m_thrown s.2.2.2.2 m_row_11) s.2.1) s.2.2.2.1 m_rowMany_8 m_row_9) r_7 m_rowMany_4 m_row_5) s.2.1 v_6 m_fruits m_worth) s.2.1 0 m_row) → (wp_X10_tell (fun m_rowMany_4 m_row_5 => ∀ v_6 : Int32, v_6 = m_now (16 : Int32).toNatClampNeg → wp_X10_worthOfAll (fun r_7 => wp_X10_tell (fun m_rowMany_8 m_row_9 => wp_X10_tell (fun m_rowMany_10 m_row_11 => wp_J6_bitCount_0f7a4 (fun r_12 => Q r_12 m_rowMany_10 m_thrown s.2.2.2.2 m_row_11) s.2.1) s.2.2.2.1 m_rowMany_8 m_row_9) r_7 m_rowMany_4 m_row_5) s.2.1 v_6 m_fruits m_worth) s.2.1 0 m_row)) : ∀ (n k : Nat) (c : Int32), c = nI (i + k) → k ≤ (Int32.toInt x2 + 1 - ((i : Nat) : Int)).toNat → wb_X10_autumn_55 P m_fruits m_now m_worth m_ripe n x2 x3 (itr (bd_X10_autumn_55 m_fruits m_now m_worth m_ripe x2 x3 m_rowMany m_thrown m_row) a i k).1 (itr (bd_X10_autumn_55 m_fruits m_now m_worth m_ripe x2 x3 m_rowMany m_thrown m_row) a i k).2.1 (itr (bd_X10_autumn_55 m_fruits m_now m_worth m_ripe x2 x3 m_rowMany m_thrown m_row) a i k).2.2.1 (itr (bd_X10_autumn_55 m_fruits m_now m_worth m_ripe x2 x3 m_rowMany m_thrown m_row) a i k).2.2.2.1 c m_rowMany m_thrown (itr (bd_X10_autumn_55 m_fruits m_now m_worth m_ripe x2 x3 m_rowMany m_thrown m_row) a i k).2.2.2.2 m_row → wb_X10_autumn_55 Q m_fruits m_now m_worth m_ripe n x2 x3 (itr (bd_X10_autumn_55 m_fruits m_now m_worth m_ripe x2 x3 m_rowMany m_thrown m_row) a i k).1 (itr (bd_X10_autumn_55 m_fruits m_now m_worth m_ripe x2 x3 m_rowMany m_thrown m_row) a i k).2.1 (itr (bd_X10_autumn_55 m_fruits m_now m_worth m_ripe x2 x3 m_rowMany m_thrown m_row) a i k).2.2.1 (itr (bd_X10_autumn_55 m_fruits m_now m_worth m_ripe x2 x3 m_rowMany m_thrown m_row) a i k).2.2.2.1 c m_rowMany m_thrown (itr (bd_X10_autumn_55 m_fruits m_now m_worth m_ripe x2 x3 m_rowMany m_thrown m_row) a i k).2.2.2.2 m_row := by
  intro n
  induction n with
  | zero => intro k c hc hk h; exact False.elim h
  | succ n ih =>
    intro k c hc hk h
    have hr := tp_r x2
    have hi : Int32.toInt c = ((i + k : Nat) : Int) := by rw [hc]; exact nI_toInt (by omega)
    refine And.intro (fun t0 => ?_) (fun t0 => ?_)
    · have h := And.left h t0
      have t1 := (fa_lt _ _).mp t0
      have hk2 : k = (Int32.toInt x2 + 1 - ((i : Nat) : Int)).toNat := by omega
      subst hk2
      exact hE _ _ hc rfl h
    · have h := And.right h t0
      have t1 := mt (fa_lt _ _).mpr t0
      have hs : ∀ o : Int32 × Int32 × Int32 × Int32 × Int32, o = itr (bd_X10_autumn_55 m_fruits m_now m_worth m_ripe x2 x3 m_rowMany m_thrown m_row) a i (k + 1) → wb_X10_autumn_55 P m_fruits m_now m_worth m_ripe n x2 x3 o.1 o.2.1 o.2.2.1 o.2.2.2.1 (c + 1) m_rowMany m_thrown o.2.2.2.2 m_row → wb_X10_autumn_55 Q m_fruits m_now m_worth m_ripe n x2 x3 o.1 o.2.1 o.2.2.1 o.2.2.2.1 (c + 1) m_rowMany m_thrown o.2.2.2.2 m_row := by
        intro o eo h9
        have q := ih (k + 1) (c + 1) (by rw [hc]; exact nI_1 _) (by omega)
        rw [← eo] at q
        exact q h9
      rw [itr_s, ← hc, bd_X10_autumn_55] at hs
      refine ae ?_
      have h := h _ rfl
      refine ae ?_
      have h := h _ rfl
      refine ae ?_
      have h := h _ rfl
      refine du_X10_ripeOnes h ?_
      intro h
      refine ae ?_
      have h := h _ rfl
      obtain ⟨n1, h⟩ := h
      refine ⟨n1, dl_X10_autumn_91 (a := (0, ((itr (bd_X10_autumn_55 m_fruits m_now m_worth m_ripe x2 x3 m_rowMany m_thrown m_row) a i k).2.2.2.2))) (i := 0) (by decide) ?_ n1 0 0 (by decide) (Nat.zero_le _) h⟩
      intro cc2 s3 ec4 es5 h
      rw [← ec4, ← es5, ex_X10_autumn_91] at hs
      refine ae ?_
      have h := h _ rfl
      refine ae ?_
      have h := h _ rfl
      refine du_J6_bitCount_0f7a4 h ?_
      intro h
      refine And.intro (fun c6 => ?_) (fun c6 => ?_)
      · have h := And.left h c6
        rw [if_pos c6] at hs
        refine du_J6_bitCount_0f7a4 h ?_
        intro h
        rw [j_X10_autumn_175] at hs
        unfold ws_X10_autumn_175 at h ⊢
        refine ae ?_
        have h := h _ rfl
        have q9 := hs _ rfl
        dsimp only at q9
        exact q9 h
      · have h := And.right h c6
        rw [if_neg c6] at hs
        rw [j_X10_autumn_175] at hs
        unfold ws_X10_autumn_175 at h ⊢
        refine ae ?_
        have h := h _ rfl
        have q9 := hs _ rfl
        dsimp only at q9
        exact q9 h
noncomputable def F_X10_autumn (p0 : Int32) (p1 : Int32) (p2 : Int32) (m_fruits : Int32) (m_rowMany : Int32) (m_thrown : Int32) (m_drawn : Int32) (m_now : Nat → Int32) (m_worth : Nat → Int32) (m_ripe : Nat → Int32) (m_row : Nat → Int32) : Int32 × Int32 × Int32 × Int32 × (Nat → Int32) := if (F_X10_in p1 1 30) = 0 then ((-1), m_rowMany, 0, m_drawn, m_row) else (if (F_X10_in p2 0 10) = 0 then ((-1), m_rowMany, 0, m_drawn, m_row) else (ex_X10_autumn_55 (fun o0 o1 o2 o3 o4 => (o0, o1, o2, o3, o4)) m_fruits m_now m_worth m_ripe p1 p2 m_rowMany 0 m_row (nI (1 + (Int32.toInt p1 + 1 - ((1 : Nat) : Int)).toNat)) (itr (bd_X10_autumn_55 m_fruits m_now m_worth m_ripe p1 p2 m_rowMany 0 m_row) ((F_X10_which 0 m_fruits m_now), 0, 0, (-1), p0) 1 (Int32.toInt p1 + 1 - ((1 : Nat) : Int)).toNat)))
set_option maxHeartbeats 200000 in
set_option maxRecDepth 10000 in
theorem dt_X10_autumn {P Q : Int32 → Int32 → Int32 → Int32 → (Nat → Int32) → Prop} {p0 : Int32} {p1 : Int32} {p2 : Int32} {m_fruits : Int32} {m_rowMany : Int32} {m_thrown : Int32} {m_drawn : Int32} {m_now : Nat → Int32} {m_worth : Nat → Int32} {m_ripe : Nat → Int32} {m_row : Nat → Int32} (hy0 : Int32.toInt p1 < 2147483647) (h : wp_X10_autumn P p0 p1 p2 m_fruits m_rowMany m_thrown m_drawn m_now m_worth m_ripe m_row) (hq : ∀ o : Int32 × Int32 × Int32 × Int32 × (Nat → Int32), o = F_X10_autumn p0 p1 p2 m_fruits m_rowMany m_thrown m_drawn m_now m_worth m_ripe m_row → P o.1 o.2.1 o.2.2.1 o.2.2.2.1 o.2.2.2.2 → Q o.1 o.2.1 o.2.2.1 o.2.2.2.1 o.2.2.2.2) : wp_X10_autumn Q p0 p1 p2 m_fruits m_rowMany m_thrown m_drawn m_now m_worth m_ripe m_row := by
  rw [F_X10_autumn] at hq
  refine du_X10_in h ?_
  intro h
  refine And.intro (fun c1 => ?_) (fun c1 => ?_)
  · have h := And.left h c1
    rw [if_pos c1] at hq
    have q9 := hq _ rfl
    dsimp only at q9
    exact q9 h
  · have h := And.right h c1
    rw [if_neg c1] at hq
    refine du_X10_in h ?_
    intro h
    refine And.intro (fun c2 => ?_) (fun c2 => ?_)
    · have h := And.left h c2
      rw [if_neg c2] at hq
      refine du_X10_which h ?_
      intro h
      obtain ⟨n3, h⟩ := h
      refine ⟨n3, dl_X10_autumn_55 (a := ((F_X10_which 0 m_fruits m_now), 0, 0, (-1), p0)) (i := 1) (by decide) hy0 ?_ n3 0 1 (by decide) (Nat.zero_le _) h⟩
      intro cc4 s5 ec6 es7 h
      rw [← ec6, ← es7, ex_X10_autumn_55] at hq
      refine du_X10_tell h ?_
      intro h
      refine ae ?_
      have h := h _ rfl
      refine du_X10_worthOfAll h ?_
      intro h
      refine du_X10_tell h ?_
      intro h
      refine du_X10_tell h ?_
      intro h
      refine du_J6_bitCount_0f7a4 h ?_
      intro h
      have q9 := hq _ rfl
      dsimp only at q9
      exact q9 h
    · have h := And.right h c2
      rw [if_pos c2] at hq
      have q9 := hq _ rfl
      dsimp only at q9
      exact q9 h
theorem du_X10_autumn {P Q : Int32 → Int32 → Int32 → Int32 → (Nat → Int32) → Prop} {p0 : Int32} {p1 : Int32} {p2 : Int32} {m_fruits : Int32} {m_rowMany : Int32} {m_thrown : Int32} {m_drawn : Int32} {m_now : Nat → Int32} {m_worth : Nat → Int32} {m_ripe : Nat → Int32} {m_row : Nat → Int32} (hy0 : Int32.toInt p1 < 2147483647) (h : wp_X10_autumn P p0 p1 p2 m_fruits m_rowMany m_thrown m_drawn m_now m_worth m_ripe m_row) (hq : P (F_X10_autumn p0 p1 p2 m_fruits m_rowMany m_thrown m_drawn m_now m_worth m_ripe m_row).1 (F_X10_autumn p0 p1 p2 m_fruits m_rowMany m_thrown m_drawn m_now m_worth m_ripe m_row).2.1 (F_X10_autumn p0 p1 p2 m_fruits m_rowMany m_thrown m_drawn m_now m_worth m_ripe m_row).2.2.1 (F_X10_autumn p0 p1 p2 m_fruits m_rowMany m_thrown m_drawn m_now m_worth m_ripe m_row).2.2.2.1 (F_X10_autumn p0 p1 p2 m_fruits m_rowMany m_thrown m_drawn m_now m_worth m_ripe m_row).2.2.2.2 → Q (F_X10_autumn p0 p1 p2 m_fruits m_rowMany m_thrown m_drawn m_now m_worth m_ripe m_row).1 (F_X10_autumn p0 p1 p2 m_fruits m_rowMany m_thrown m_drawn m_now m_worth m_ripe m_row).2.1 (F_X10_autumn p0 p1 p2 m_fruits m_rowMany m_thrown m_drawn m_now m_worth m_ripe m_row).2.2.1 (F_X10_autumn p0 p1 p2 m_fruits m_rowMany m_thrown m_drawn m_now m_worth m_ripe m_row).2.2.2.1 (F_X10_autumn p0 p1 p2 m_fruits m_rowMany m_thrown m_drawn m_now m_worth m_ripe m_row).2.2.2.2) : wp_X10_autumn Q p0 p1 p2 m_fruits m_rowMany m_thrown m_drawn m_now m_worth m_ripe m_row := dt_X10_autumn hy0 h (fun o eo => by rw [eo]; exact hq)
theorem dw_X10_autumn {Q : Int32 → Int32 → Int32 → Int32 → (Nat → Int32) → Prop} {p0 : Int32} {p1 : Int32} {p2 : Int32} {m_fruits : Int32} {m_rowMany : Int32} {m_thrown : Int32} {m_drawn : Int32} {m_now : Nat → Int32} {m_worth : Nat → Int32} {m_ripe : Nat → Int32} {m_row : Nat → Int32} (hy0 : Int32.toInt p1 < 2147483647) (h : wp_X10_autumn (fun o0 o1 o2 o3 o4 => (o0, o1, o2, o3, o4) = F_X10_autumn p0 p1 p2 m_fruits m_rowMany m_thrown m_drawn m_now m_worth m_ripe m_row → Q o0 o1 o2 o3 o4) p0 p1 p2 m_fruits m_rowMany m_thrown m_drawn m_now m_worth m_ripe m_row) : wp_X10_autumn Q p0 p1 p2 m_fruits m_rowMany m_thrown m_drawn m_now m_worth m_ripe m_row := dt_X10_autumn hy0 h (fun o eo hp => hp eo)
noncomputable def bd_X10_lay_b4_2 (m_now : Nat → Int32) (x2 : Int32) (c : Int32) (s : (Nat → Int32)) : (Nat → Int32) := (upd s (x2 + c).toNatClampNeg (m_now c.toNatClampNeg))
noncomputable def ex_X10_lay_b4_2 {R : Type} (po : (Nat → Int32) → R) (m_now : Nat → Int32) (x2 : Int32) (c : Int32) (s : (Nat → Int32)) : R := po s
set_option maxHeartbeats 200000 in
set_option maxRecDepth 10000 in
theorem dl_X10_lay_b4_2 {P Q : (Nat → Int32) → Prop} {m_now : Nat → Int32} {x2 : Int32} {a : (Nat → Int32)} {i : Nat} (hi0 : i < 2147483648) (hE : ∀ (c : Int32) (s : (Nat → Int32)), c = nI (i + (Int32.toInt 21 - ((i : Nat) : Int)).toNat) → s = itr (bd_X10_lay_b4_2 m_now x2) a i (Int32.toInt 21 - ((i : Nat) : Int)).toNat → (P s) → (Q s)) : ∀ (n k : Nat) (c : Int32), c = nI (i + k) → k ≤ (Int32.toInt 21 - ((i : Nat) : Int)).toNat → wb_X10_lay_b4_2 P m_now n x2 c (itr (bd_X10_lay_b4_2 m_now x2) a i k) → wb_X10_lay_b4_2 Q m_now n x2 c (itr (bd_X10_lay_b4_2 m_now x2) a i k) := by
  intro n
  induction n with
  | zero => intro k c hc hk h; exact False.elim h
  | succ n ih =>
    intro k c hc hk h
    have hr := tp_r 21
    have hi : Int32.toInt c = ((i + k : Nat) : Int) := by rw [hc]; exact nI_toInt (by omega)
    refine And.intro (fun t0 => ?_) (fun t0 => ?_)
    · have h := And.left h t0
      have t1 := (fa_le _ _).mp t0
      have hk2 : k = (Int32.toInt 21 - ((i : Nat) : Int)).toNat := by omega
      subst hk2
      exact hE _ _ hc rfl h
    · have h := And.right h t0
      have t1 := mt (fa_le _ _).mpr t0
      have hs : ∀ o : (Nat → Int32), o = itr (bd_X10_lay_b4_2 m_now x2) a i (k + 1) → wb_X10_lay_b4_2 P m_now n x2 (c + 1) o → wb_X10_lay_b4_2 Q m_now n x2 (c + 1) o := by
        intro o eo h9
        have q := ih (k + 1) (c + 1) (by rw [hc]; exact nI_1 _) (by omega)
        rw [← eo] at q
        exact q h9
      rw [itr_s, ← hc, bd_X10_lay_b4_2] at hs
      refine ae ?_
      have h := h _ rfl
      refine And.intro (And.left h) ?_
      have h := And.right h
      refine ae ?_
      have h := h _ rfl
      refine And.intro (And.left h) ?_
      have h := And.right h
      refine ae ?_
      have h := h _ rfl
      have q9 := hs _ rfl
      exact q9 h
noncomputable def F_X10_lay_b4 (p2 : Int32) (m_now : Nat → Int32) (m_kept : Nat → Int32) : (Nat → Int32) := ex_X10_lay_b4_2 (fun o0 => o0) m_now p2 (nI (0 + (Int32.toInt 21 - ((0 : Nat) : Int)).toNat)) (itr (bd_X10_lay_b4_2 m_now p2) m_kept 0 (Int32.toInt 21 - ((0 : Nat) : Int)).toNat)
set_option maxHeartbeats 200000 in
set_option maxRecDepth 10000 in
theorem dt_X10_lay_b4 {P Q : (Nat → Int32) → Prop} {p2 : Int32} {m_now : Nat → Int32} {m_kept : Nat → Int32} (h : wp_X10_lay_b4 P p2 m_now m_kept) (hq : ∀ o : (Nat → Int32), o = F_X10_lay_b4 p2 m_now m_kept → P o → Q o) : wp_X10_lay_b4 Q p2 m_now m_kept := by
  rw [F_X10_lay_b4] at hq
  obtain ⟨n1, h⟩ := h
  refine ⟨n1, dl_X10_lay_b4_2 (a := m_kept) (i := 0) (by decide) ?_ n1 0 0 (by decide) (Nat.zero_le _) h⟩
  intro cc2 s3 ec4 es5 h
  rw [← ec4, ← es5, ex_X10_lay_b4_2] at hq
  have q9 := hq _ rfl
  exact q9 h
theorem du_X10_lay_b4 {P Q : (Nat → Int32) → Prop} {p2 : Int32} {m_now : Nat → Int32} {m_kept : Nat → Int32} (h : wp_X10_lay_b4 P p2 m_now m_kept) (hq : P (F_X10_lay_b4 p2 m_now m_kept) → Q (F_X10_lay_b4 p2 m_now m_kept)) : wp_X10_lay_b4 Q p2 m_now m_kept := dt_X10_lay_b4 h (fun o eo => by rw [eo]; exact hq)
theorem dw_X10_lay_b4 {Q : (Nat → Int32) → Prop} {p2 : Int32} {m_now : Nat → Int32} {m_kept : Nat → Int32} (h : wp_X10_lay_b4 (fun o0 => o0 = F_X10_lay_b4 p2 m_now m_kept → Q o0) p2 m_now m_kept) : wp_X10_lay_b4 Q p2 m_now m_kept := dt_X10_lay_b4 h (fun o eo hp => hp eo)
noncomputable def F_X10_keep (p0 : Int32) (m_thrown : Int32) (m_came : Int32) (m_now : Nat → Int32) (m_kept : Nat → Int32) (m_isKept : Nat → Int32) (m_keptCame : Nat → Int32) : Int32 × Int32 × (Nat → Int32) × (Nat → Int32) × (Nat → Int32) := if (F_X10_in p0 0 1) = 0 then (0, 0, m_kept, m_isKept, m_keptCame) else (1, 0, (F_X10_lay_b4 (21 * p0) m_now m_kept), (upd m_isKept p0.toNatClampNeg (vp_nar .boolean 1)), (upd m_keptCame p0.toNatClampNeg m_came))
set_option maxHeartbeats 200000 in
set_option maxRecDepth 10000 in
theorem dt_X10_keep {P Q : Int32 → Int32 → (Nat → Int32) → (Nat → Int32) → (Nat → Int32) → Prop} {p0 : Int32} {m_thrown : Int32} {m_came : Int32} {m_now : Nat → Int32} {m_kept : Nat → Int32} {m_isKept : Nat → Int32} {m_keptCame : Nat → Int32} (h : wp_X10_keep P p0 m_thrown m_came m_now m_kept m_isKept m_keptCame) (hq : ∀ o : Int32 × Int32 × (Nat → Int32) × (Nat → Int32) × (Nat → Int32), o = F_X10_keep p0 m_thrown m_came m_now m_kept m_isKept m_keptCame → P o.1 o.2.1 o.2.2.1 o.2.2.2.1 o.2.2.2.2 → Q o.1 o.2.1 o.2.2.1 o.2.2.2.1 o.2.2.2.2) : wp_X10_keep Q p0 m_thrown m_came m_now m_kept m_isKept m_keptCame := by
  rw [F_X10_keep] at hq
  refine du_X10_in h ?_
  intro h
  refine And.intro (fun c1 => ?_) (fun c1 => ?_)
  · have h := And.left h c1
    rw [if_neg c1] at hq
    refine And.intro (And.left h) ?_
    have h := And.right h
    refine And.intro (And.left h) ?_
    have h := And.right h
    refine ae ?_
    have h := h _ rfl
    refine du_X10_lay_b4 h ?_
    intro h
    have q9 := hq _ rfl
    dsimp only at q9
    exact q9 h
  · have h := And.right h c1
    rw [if_pos c1] at hq
    have q9 := hq _ rfl
    dsimp only at q9
    exact q9 h
theorem du_X10_keep {P Q : Int32 → Int32 → (Nat → Int32) → (Nat → Int32) → (Nat → Int32) → Prop} {p0 : Int32} {m_thrown : Int32} {m_came : Int32} {m_now : Nat → Int32} {m_kept : Nat → Int32} {m_isKept : Nat → Int32} {m_keptCame : Nat → Int32} (h : wp_X10_keep P p0 m_thrown m_came m_now m_kept m_isKept m_keptCame) (hq : P (F_X10_keep p0 m_thrown m_came m_now m_kept m_isKept m_keptCame).1 (F_X10_keep p0 m_thrown m_came m_now m_kept m_isKept m_keptCame).2.1 (F_X10_keep p0 m_thrown m_came m_now m_kept m_isKept m_keptCame).2.2.1 (F_X10_keep p0 m_thrown m_came m_now m_kept m_isKept m_keptCame).2.2.2.1 (F_X10_keep p0 m_thrown m_came m_now m_kept m_isKept m_keptCame).2.2.2.2 → Q (F_X10_keep p0 m_thrown m_came m_now m_kept m_isKept m_keptCame).1 (F_X10_keep p0 m_thrown m_came m_now m_kept m_isKept m_keptCame).2.1 (F_X10_keep p0 m_thrown m_came m_now m_kept m_isKept m_keptCame).2.2.1 (F_X10_keep p0 m_thrown m_came m_now m_kept m_isKept m_keptCame).2.2.2.1 (F_X10_keep p0 m_thrown m_came m_now m_kept m_isKept m_keptCame).2.2.2.2) : wp_X10_keep Q p0 m_thrown m_came m_now m_kept m_isKept m_keptCame := dt_X10_keep h (fun o eo => by rw [eo]; exact hq)
theorem dw_X10_keep {Q : Int32 → Int32 → (Nat → Int32) → (Nat → Int32) → (Nat → Int32) → Prop} {p0 : Int32} {m_thrown : Int32} {m_came : Int32} {m_now : Nat → Int32} {m_kept : Nat → Int32} {m_isKept : Nat → Int32} {m_keptCame : Nat → Int32} (h : wp_X10_keep (fun o0 o1 o2 o3 o4 => (o0, o1, o2, o3, o4) = F_X10_keep p0 m_thrown m_came m_now m_kept m_isKept m_keptCame → Q o0 o1 o2 o3 o4) p0 m_thrown m_came m_now m_kept m_isKept m_keptCame) : wp_X10_keep Q p0 m_thrown m_came m_now m_kept m_isKept m_keptCame := dt_X10_keep h (fun o eo hp => hp eo)
noncomputable def bd_X10_again_40 (m_came : Int32) (m_kept : Nat → Int32) (m_isKept : Nat → Int32) (m_keptCame : Nat → Int32) (x1 : Int32) (m_thrown : Int32) (m_undoMany : Int32) (c : Int32) (s : (Nat → Int32)) : (Nat → Int32) := (upd s c.toNatClampNeg (m_kept ((21 * x1) + c).toNatClampNeg))
noncomputable def ex_X10_again_40 {R : Type} (po : Int32 → Int32 → Int32 → (Nat → Int32) → R) (m_came : Int32) (m_kept : Nat → Int32) (m_isKept : Nat → Int32) (m_keptCame : Nat → Int32) (x1 : Int32) (m_thrown : Int32) (m_undoMany : Int32) (c : Int32) (s : (Nat → Int32)) : R := po 1 m_thrown 0 s
set_option maxHeartbeats 200000 in
set_option maxRecDepth 10000 in
theorem dl_X10_again_40 {P Q : Int32 → Int32 → Int32 → (Nat → Int32) → Prop} {m_came : Int32} {m_kept : Nat → Int32} {m_isKept : Nat → Int32} {m_keptCame : Nat → Int32} {x1 : Int32} {m_thrown : Int32} {m_undoMany : Int32} {a : (Nat → Int32)} {i : Nat} (hi0 : i < 2147483648) (hE : ∀ (c : Int32) (s : (Nat → Int32)), c = nI (i + (Int32.toInt 21 - ((i : Nat) : Int)).toNat) → s = itr (bd_X10_again_40 m_came m_kept m_isKept m_keptCame x1 m_thrown m_undoMany) a i (Int32.toInt 21 - ((i : Nat) : Int)).toNat → (P 1 m_thrown 0 s) → (Q 1 m_thrown 0 s)) : ∀ (n k : Nat) (c : Int32), c = nI (i + k) → k ≤ (Int32.toInt 21 - ((i : Nat) : Int)).toNat → wb_X10_again_40 P m_came m_kept m_isKept m_keptCame n x1 c m_thrown m_undoMany (itr (bd_X10_again_40 m_came m_kept m_isKept m_keptCame x1 m_thrown m_undoMany) a i k) → wb_X10_again_40 Q m_came m_kept m_isKept m_keptCame n x1 c m_thrown m_undoMany (itr (bd_X10_again_40 m_came m_kept m_isKept m_keptCame x1 m_thrown m_undoMany) a i k) := by
  intro n
  induction n with
  | zero => intro k c hc hk h; exact False.elim h
  | succ n ih =>
    intro k c hc hk h
    have hr := tp_r 21
    have hi : Int32.toInt c = ((i + k : Nat) : Int) := by rw [hc]; exact nI_toInt (by omega)
    refine And.intro (fun t0 => ?_) (fun t0 => ?_)
    · have h := And.left h t0
      have t1 := (fa_le _ _).mp t0
      have hk2 : k = (Int32.toInt 21 - ((i : Nat) : Int)).toNat := by omega
      subst hk2
      exact hE _ _ hc rfl h
    · have h := And.right h t0
      have t1 := mt (fa_le _ _).mpr t0
      have hs : ∀ o : (Nat → Int32), o = itr (bd_X10_again_40 m_came m_kept m_isKept m_keptCame x1 m_thrown m_undoMany) a i (k + 1) → wb_X10_again_40 P m_came m_kept m_isKept m_keptCame n x1 (c + 1) m_thrown m_undoMany o → wb_X10_again_40 Q m_came m_kept m_isKept m_keptCame n x1 (c + 1) m_thrown m_undoMany o := by
        intro o eo h9
        have q := ih (k + 1) (c + 1) (by rw [hc]; exact nI_1 _) (by omega)
        rw [← eo] at q
        exact q h9
      rw [itr_s, ← hc, bd_X10_again_40] at hs
      refine ae ?_
      have h := h _ rfl
      refine ae ?_
      have h := h _ rfl
      refine And.intro (And.left h) ?_
      have h := And.right h
      refine ae ?_
      have h := h _ rfl
      refine And.intro (And.left h) ?_
      have h := And.right h
      refine ae ?_
      have h := h _ rfl
      have q9 := hs _ rfl
      exact q9 h
noncomputable def F_X10_again (p0 : Int32) (m_thrown : Int32) (m_undoMany : Int32) (m_came : Int32) (m_now : Nat → Int32) (m_kept : Nat → Int32) (m_isKept : Nat → Int32) (m_keptCame : Nat → Int32) : Int32 × Int32 × Int32 × (Nat → Int32) := if (F_X10_in p0 0 1) = 0 then (0, 0, m_undoMany, m_now) else (if (m_isKept p0.toNatClampNeg) = 0 then (0, 0, m_undoMany, m_now) else (if (m_keptCame p0.toNatClampNeg) = m_came then (ex_X10_again_40 (fun o0 o1 o2 o3 => (o0, o1, o2, o3)) m_came m_kept m_isKept m_keptCame p0 0 m_undoMany (nI (0 + (Int32.toInt 21 - ((0 : Nat) : Int)).toNat)) (itr (bd_X10_again_40 m_came m_kept m_isKept m_keptCame p0 0 m_undoMany) m_now 0 (Int32.toInt 21 - ((0 : Nat) : Int)).toNat)) else (0, 0, m_undoMany, m_now)))
set_option maxHeartbeats 200000 in
set_option maxRecDepth 10000 in
theorem dt_X10_again {P Q : Int32 → Int32 → Int32 → (Nat → Int32) → Prop} {p0 : Int32} {m_thrown : Int32} {m_undoMany : Int32} {m_came : Int32} {m_now : Nat → Int32} {m_kept : Nat → Int32} {m_isKept : Nat → Int32} {m_keptCame : Nat → Int32} (h : wp_X10_again P p0 m_thrown m_undoMany m_came m_now m_kept m_isKept m_keptCame) (hq : ∀ o : Int32 × Int32 × Int32 × (Nat → Int32), o = F_X10_again p0 m_thrown m_undoMany m_came m_now m_kept m_isKept m_keptCame → P o.1 o.2.1 o.2.2.1 o.2.2.2 → Q o.1 o.2.1 o.2.2.1 o.2.2.2) : wp_X10_again Q p0 m_thrown m_undoMany m_came m_now m_kept m_isKept m_keptCame := by
  rw [F_X10_again] at hq
  refine du_X10_in h ?_
  intro h
  refine And.intro (fun c1 => ?_) (fun c1 => ?_)
  · have h := And.left h c1
    rw [if_pos c1] at hq
    have q9 := hq _ rfl
    dsimp only at q9
    exact q9 h
  · have h := And.right h c1
    rw [if_neg c1] at hq
    refine And.intro (And.left h) ?_
    have h := And.right h
    refine And.intro (fun c2 => ?_) (fun c2 => ?_)
    · have h := And.left h c2
      rw [if_pos c2] at hq
      have q9 := hq _ rfl
      dsimp only at q9
      exact q9 h
    · have h := And.right h c2
      rw [if_neg c2] at hq
      refine And.intro (And.left h) ?_
      have h := And.right h
      refine ae ?_
      have h := h _ rfl
      refine And.intro (fun c3 => ?_) (fun c3 => ?_)
      · have h := And.left h c3
        rw [if_pos c3] at hq
        obtain ⟨n4, h⟩ := h
        refine ⟨n4, dl_X10_again_40 (a := m_now) (i := 0) (by decide) ?_ n4 0 0 (by decide) (Nat.zero_le _) h⟩
        intro cc5 s6 ec7 es8 h
        rw [← ec7, ← es8, ex_X10_again_40] at hq
        have q9 := hq _ rfl
        dsimp only at q9
        exact q9 h
      · have h := And.right h c3
        rw [if_neg c3] at hq
        have q9 := hq _ rfl
        dsimp only at q9
        exact q9 h
theorem du_X10_again {P Q : Int32 → Int32 → Int32 → (Nat → Int32) → Prop} {p0 : Int32} {m_thrown : Int32} {m_undoMany : Int32} {m_came : Int32} {m_now : Nat → Int32} {m_kept : Nat → Int32} {m_isKept : Nat → Int32} {m_keptCame : Nat → Int32} (h : wp_X10_again P p0 m_thrown m_undoMany m_came m_now m_kept m_isKept m_keptCame) (hq : P (F_X10_again p0 m_thrown m_undoMany m_came m_now m_kept m_isKept m_keptCame).1 (F_X10_again p0 m_thrown m_undoMany m_came m_now m_kept m_isKept m_keptCame).2.1 (F_X10_again p0 m_thrown m_undoMany m_came m_now m_kept m_isKept m_keptCame).2.2.1 (F_X10_again p0 m_thrown m_undoMany m_came m_now m_kept m_isKept m_keptCame).2.2.2 → Q (F_X10_again p0 m_thrown m_undoMany m_came m_now m_kept m_isKept m_keptCame).1 (F_X10_again p0 m_thrown m_undoMany m_came m_now m_kept m_isKept m_keptCame).2.1 (F_X10_again p0 m_thrown m_undoMany m_came m_now m_kept m_isKept m_keptCame).2.2.1 (F_X10_again p0 m_thrown m_undoMany m_came m_now m_kept m_isKept m_keptCame).2.2.2) : wp_X10_again Q p0 m_thrown m_undoMany m_came m_now m_kept m_isKept m_keptCame := dt_X10_again h (fun o eo => by rw [eo]; exact hq)
theorem dw_X10_again {Q : Int32 → Int32 → Int32 → (Nat → Int32) → Prop} {p0 : Int32} {m_thrown : Int32} {m_undoMany : Int32} {m_came : Int32} {m_now : Nat → Int32} {m_kept : Nat → Int32} {m_isKept : Nat → Int32} {m_keptCame : Nat → Int32} (h : wp_X10_again (fun o0 o1 o2 o3 => (o0, o1, o2, o3) = F_X10_again p0 m_thrown m_undoMany m_came m_now m_kept m_isKept m_keptCame → Q o0 o1 o2 o3) p0 m_thrown m_undoMany m_came m_now m_kept m_isKept m_keptCame) : wp_X10_again Q p0 m_thrown m_undoMany m_came m_now m_kept m_isKept m_keptCame := dt_X10_again h (fun o eo hp => hp eo)
noncomputable def j_X10_count_110 {R : Type} (po : Int32 → Int32 → R) (m_fruits : Int32) (m_standings : Int32) (m_typed : Int32) (m_rowMany : Int32) (m_undoMany : Int32) (m_now : Nat → Int32) (m_worth : Nat → Int32) (x1 : Int32) (m_thrown : Int32) : R := po (F_X10_which (x1 - 5) m_fruits m_now) m_thrown
noncomputable def F_X10_count (p0 : Int32) (m_fruits : Int32) (m_standings : Int32) (m_typed : Int32) (m_rowMany : Int32) (m_thrown : Int32) (m_undoMany : Int32) (m_now : Nat → Int32) (m_worth : Nat → Int32) : Int32 × Int32 := if p0 = 0 then (m_fruits, 0) else (if p0 = 1 then (m_standings, 0) else (if p0 = 2 then ((m_now (17 : Int32).toNatClampNeg), 0) else (if p0 = 3 then ((m_now (19 : Int32).toNatClampNeg), 0) else (if p0 = 4 then ((m_now (20 : Int32).toNatClampNeg), 0) else (if p0 = 5 then (j_X10_count_110 (fun o0 o1 => (o0, o1)) m_fruits m_standings m_typed m_rowMany m_undoMany m_now m_worth p0 0) else (if p0 = 6 then (j_X10_count_110 (fun o0 o1 => (o0, o1)) m_fruits m_standings m_typed m_rowMany m_undoMany m_now m_worth p0 0) else (if p0 = 7 then (j_X10_count_110 (fun o0 o1 => (o0, o1)) m_fruits m_standings m_typed m_rowMany m_undoMany m_now m_worth p0 0) else (if p0 = 8 then (j_X10_count_110 (fun o0 o1 => (o0, o1)) m_fruits m_standings m_typed m_rowMany m_undoMany m_now m_worth p0 0) else (if p0 = 9 then ((m_now (16 : Int32).toNatClampNeg), 0) else (if p0 = 10 then ((F_X10_worthOfAll (F_X10_which 2 m_fruits m_now) (m_now (16 : Int32).toNatClampNeg) m_fruits m_worth), 0) else (if p0 = 11 then (m_undoMany, 0) else (if p0 = 12 then (m_rowMany, 0) else (if p0 = 13 then (m_typed, 0) else ((-100), 0))))))))))))))
set_option maxHeartbeats 200000 in
set_option maxRecDepth 10000 in
theorem dt_X10_count {P Q : Int32 → Int32 → Prop} {p0 : Int32} {m_fruits : Int32} {m_standings : Int32} {m_typed : Int32} {m_rowMany : Int32} {m_thrown : Int32} {m_undoMany : Int32} {m_now : Nat → Int32} {m_worth : Nat → Int32} (h : wp_X10_count P p0 m_fruits m_standings m_typed m_rowMany m_thrown m_undoMany m_now m_worth) (hq : ∀ o : Int32 × Int32, o = F_X10_count p0 m_fruits m_standings m_typed m_rowMany m_thrown m_undoMany m_now m_worth → P o.1 o.2 → Q o.1 o.2) : wp_X10_count Q p0 m_fruits m_standings m_typed m_rowMany m_thrown m_undoMany m_now m_worth := by
  rw [F_X10_count] at hq
  refine (And.intro (fun c1 => ?_) (And.intro (fun c2 => ?_) (And.intro (fun c3 => ?_) (And.intro (fun c4 => ?_) (And.intro (fun c5 => ?_) (And.intro (fun c6 => ?_) (And.intro (fun c7 => ?_) (And.intro (fun c8 => ?_) (And.intro (fun c9 => ?_) (And.intro (fun c10 => ?_) (And.intro (fun c11 => ?_) (And.intro (fun c12 => ?_) (And.intro (fun c13 => ?_) (And.intro (fun c14 => ?_) (fun c1 c2 c3 c4 c5 c6 c7 c8 c9 c10 c11 c12 c13 c14 => ?_)))))))))))))))
  · have h := And.left h c1
    rw [if_pos c1] at hq
    have q9 := hq _ rfl
    dsimp only at q9
    exact q9 h
  · have h := And.left (And.right h) c2
    rw [if_neg (fun e9 => absurd (e9.symm.trans c2) (by decide)), if_pos c2] at hq
    have q9 := hq _ rfl
    dsimp only at q9
    exact q9 h
  · have h := And.left (And.right (And.right h)) c3
    rw [if_neg (fun e9 => absurd (e9.symm.trans c3) (by decide)), if_neg (fun e9 => absurd (e9.symm.trans c3) (by decide)), if_pos c3] at hq
    have q9 := hq _ rfl
    dsimp only at q9
    exact q9 h
  · have h := And.left (And.right (And.right (And.right h))) c4
    rw [if_neg (fun e9 => absurd (e9.symm.trans c4) (by decide)), if_neg (fun e9 => absurd (e9.symm.trans c4) (by decide)), if_neg (fun e9 => absurd (e9.symm.trans c4) (by decide)), if_pos c4] at hq
    have q9 := hq _ rfl
    dsimp only at q9
    exact q9 h
  · have h := And.left (And.right (And.right (And.right (And.right h)))) c5
    rw [if_neg (fun e9 => absurd (e9.symm.trans c5) (by decide)), if_neg (fun e9 => absurd (e9.symm.trans c5) (by decide)), if_neg (fun e9 => absurd (e9.symm.trans c5) (by decide)), if_neg (fun e9 => absurd (e9.symm.trans c5) (by decide)), if_pos c5] at hq
    have q9 := hq _ rfl
    dsimp only at q9
    exact q9 h
  · have h := And.left (And.right (And.right (And.right (And.right (And.right h))))) c6
    rw [if_neg (fun e9 => absurd (e9.symm.trans c6) (by decide)), if_neg (fun e9 => absurd (e9.symm.trans c6) (by decide)), if_neg (fun e9 => absurd (e9.symm.trans c6) (by decide)), if_neg (fun e9 => absurd (e9.symm.trans c6) (by decide)), if_neg (fun e9 => absurd (e9.symm.trans c6) (by decide)), if_pos c6] at hq
    rw [j_X10_count_110] at hq
    unfold ws_X10_count_110 at h ⊢
    refine ae ?_
    have h := h _ rfl
    refine du_X10_which h ?_
    intro h
    have q9 := hq _ rfl
    dsimp only at q9
    exact q9 h
  · have h := And.left (And.right (And.right (And.right (And.right (And.right (And.right h)))))) c7
    rw [if_neg (fun e9 => absurd (e9.symm.trans c7) (by decide)), if_neg (fun e9 => absurd (e9.symm.trans c7) (by decide)), if_neg (fun e9 => absurd (e9.symm.trans c7) (by decide)), if_neg (fun e9 => absurd (e9.symm.trans c7) (by decide)), if_neg (fun e9 => absurd (e9.symm.trans c7) (by decide)), if_neg (fun e9 => absurd (e9.symm.trans c7) (by decide)), if_pos c7] at hq
    rw [j_X10_count_110] at hq
    unfold ws_X10_count_110 at h ⊢
    refine ae ?_
    have h := h _ rfl
    refine du_X10_which h ?_
    intro h
    have q9 := hq _ rfl
    dsimp only at q9
    exact q9 h
  · have h := And.left (And.right (And.right (And.right (And.right (And.right (And.right (And.right h))))))) c8
    rw [if_neg (fun e9 => absurd (e9.symm.trans c8) (by decide)), if_neg (fun e9 => absurd (e9.symm.trans c8) (by decide)), if_neg (fun e9 => absurd (e9.symm.trans c8) (by decide)), if_neg (fun e9 => absurd (e9.symm.trans c8) (by decide)), if_neg (fun e9 => absurd (e9.symm.trans c8) (by decide)), if_neg (fun e9 => absurd (e9.symm.trans c8) (by decide)), if_neg (fun e9 => absurd (e9.symm.trans c8) (by decide)), if_pos c8] at hq
    rw [j_X10_count_110] at hq
    unfold ws_X10_count_110 at h ⊢
    refine ae ?_
    have h := h _ rfl
    refine du_X10_which h ?_
    intro h
    have q9 := hq _ rfl
    dsimp only at q9
    exact q9 h
  · have h := And.left (And.right (And.right (And.right (And.right (And.right (And.right (And.right (And.right h)))))))) c9
    rw [if_neg (fun e9 => absurd (e9.symm.trans c9) (by decide)), if_neg (fun e9 => absurd (e9.symm.trans c9) (by decide)), if_neg (fun e9 => absurd (e9.symm.trans c9) (by decide)), if_neg (fun e9 => absurd (e9.symm.trans c9) (by decide)), if_neg (fun e9 => absurd (e9.symm.trans c9) (by decide)), if_neg (fun e9 => absurd (e9.symm.trans c9) (by decide)), if_neg (fun e9 => absurd (e9.symm.trans c9) (by decide)), if_neg (fun e9 => absurd (e9.symm.trans c9) (by decide)), if_pos c9] at hq
    rw [j_X10_count_110] at hq
    unfold ws_X10_count_110 at h ⊢
    refine ae ?_
    have h := h _ rfl
    refine du_X10_which h ?_
    intro h
    have q9 := hq _ rfl
    dsimp only at q9
    exact q9 h
  · have h := And.left (And.right (And.right (And.right (And.right (And.right (And.right (And.right (And.right (And.right h))))))))) c10
    rw [if_neg (fun e9 => absurd (e9.symm.trans c10) (by decide)), if_neg (fun e9 => absurd (e9.symm.trans c10) (by decide)), if_neg (fun e9 => absurd (e9.symm.trans c10) (by decide)), if_neg (fun e9 => absurd (e9.symm.trans c10) (by decide)), if_neg (fun e9 => absurd (e9.symm.trans c10) (by decide)), if_neg (fun e9 => absurd (e9.symm.trans c10) (by decide)), if_neg (fun e9 => absurd (e9.symm.trans c10) (by decide)), if_neg (fun e9 => absurd (e9.symm.trans c10) (by decide)), if_neg (fun e9 => absurd (e9.symm.trans c10) (by decide)), if_pos c10] at hq
    have q9 := hq _ rfl
    dsimp only at q9
    exact q9 h
  · have h := And.left (And.right (And.right (And.right (And.right (And.right (And.right (And.right (And.right (And.right (And.right h)))))))))) c11
    rw [if_neg (fun e9 => absurd (e9.symm.trans c11) (by decide)), if_neg (fun e9 => absurd (e9.symm.trans c11) (by decide)), if_neg (fun e9 => absurd (e9.symm.trans c11) (by decide)), if_neg (fun e9 => absurd (e9.symm.trans c11) (by decide)), if_neg (fun e9 => absurd (e9.symm.trans c11) (by decide)), if_neg (fun e9 => absurd (e9.symm.trans c11) (by decide)), if_neg (fun e9 => absurd (e9.symm.trans c11) (by decide)), if_neg (fun e9 => absurd (e9.symm.trans c11) (by decide)), if_neg (fun e9 => absurd (e9.symm.trans c11) (by decide)), if_neg (fun e9 => absurd (e9.symm.trans c11) (by decide)), if_pos c11] at hq
    refine du_X10_which h ?_
    intro h
    refine ae ?_
    have h := h _ rfl
    refine du_X10_worthOfAll h ?_
    intro h
    have q9 := hq _ rfl
    dsimp only at q9
    exact q9 h
  · have h := And.left (And.right (And.right (And.right (And.right (And.right (And.right (And.right (And.right (And.right (And.right (And.right h))))))))))) c12
    rw [if_neg (fun e9 => absurd (e9.symm.trans c12) (by decide)), if_neg (fun e9 => absurd (e9.symm.trans c12) (by decide)), if_neg (fun e9 => absurd (e9.symm.trans c12) (by decide)), if_neg (fun e9 => absurd (e9.symm.trans c12) (by decide)), if_neg (fun e9 => absurd (e9.symm.trans c12) (by decide)), if_neg (fun e9 => absurd (e9.symm.trans c12) (by decide)), if_neg (fun e9 => absurd (e9.symm.trans c12) (by decide)), if_neg (fun e9 => absurd (e9.symm.trans c12) (by decide)), if_neg (fun e9 => absurd (e9.symm.trans c12) (by decide)), if_neg (fun e9 => absurd (e9.symm.trans c12) (by decide)), if_neg (fun e9 => absurd (e9.symm.trans c12) (by decide)), if_pos c12] at hq
    have q9 := hq _ rfl
    dsimp only at q9
    exact q9 h
  · have h := And.left (And.right (And.right (And.right (And.right (And.right (And.right (And.right (And.right (And.right (And.right (And.right (And.right h)))))))))))) c13
    rw [if_neg (fun e9 => absurd (e9.symm.trans c13) (by decide)), if_neg (fun e9 => absurd (e9.symm.trans c13) (by decide)), if_neg (fun e9 => absurd (e9.symm.trans c13) (by decide)), if_neg (fun e9 => absurd (e9.symm.trans c13) (by decide)), if_neg (fun e9 => absurd (e9.symm.trans c13) (by decide)), if_neg (fun e9 => absurd (e9.symm.trans c13) (by decide)), if_neg (fun e9 => absurd (e9.symm.trans c13) (by decide)), if_neg (fun e9 => absurd (e9.symm.trans c13) (by decide)), if_neg (fun e9 => absurd (e9.symm.trans c13) (by decide)), if_neg (fun e9 => absurd (e9.symm.trans c13) (by decide)), if_neg (fun e9 => absurd (e9.symm.trans c13) (by decide)), if_neg (fun e9 => absurd (e9.symm.trans c13) (by decide)), if_pos c13] at hq
    have q9 := hq _ rfl
    dsimp only at q9
    exact q9 h
  · have h := And.left (And.right (And.right (And.right (And.right (And.right (And.right (And.right (And.right (And.right (And.right (And.right (And.right (And.right h))))))))))))) c14
    rw [if_neg (fun e9 => absurd (e9.symm.trans c14) (by decide)), if_neg (fun e9 => absurd (e9.symm.trans c14) (by decide)), if_neg (fun e9 => absurd (e9.symm.trans c14) (by decide)), if_neg (fun e9 => absurd (e9.symm.trans c14) (by decide)), if_neg (fun e9 => absurd (e9.symm.trans c14) (by decide)), if_neg (fun e9 => absurd (e9.symm.trans c14) (by decide)), if_neg (fun e9 => absurd (e9.symm.trans c14) (by decide)), if_neg (fun e9 => absurd (e9.symm.trans c14) (by decide)), if_neg (fun e9 => absurd (e9.symm.trans c14) (by decide)), if_neg (fun e9 => absurd (e9.symm.trans c14) (by decide)), if_neg (fun e9 => absurd (e9.symm.trans c14) (by decide)), if_neg (fun e9 => absurd (e9.symm.trans c14) (by decide)), if_neg (fun e9 => absurd (e9.symm.trans c14) (by decide)), if_pos c14] at hq
    have q9 := hq _ rfl
    dsimp only at q9
    exact q9 h
  · have h := And.right (And.right (And.right (And.right (And.right (And.right (And.right (And.right (And.right (And.right (And.right (And.right (And.right (And.right h))))))))))))) c1 c2 c3 c4 c5 c6 c7 c8 c9 c10 c11 c12 c13 c14
    rw [if_neg c1, if_neg c2, if_neg c3, if_neg c4, if_neg c5, if_neg c6, if_neg c7, if_neg c8, if_neg c9, if_neg c10, if_neg c11, if_neg c12, if_neg c13, if_neg c14] at hq
    have q9 := hq _ rfl
    dsimp only at q9
    exact q9 h
theorem du_X10_count {P Q : Int32 → Int32 → Prop} {p0 : Int32} {m_fruits : Int32} {m_standings : Int32} {m_typed : Int32} {m_rowMany : Int32} {m_thrown : Int32} {m_undoMany : Int32} {m_now : Nat → Int32} {m_worth : Nat → Int32} (h : wp_X10_count P p0 m_fruits m_standings m_typed m_rowMany m_thrown m_undoMany m_now m_worth) (hq : P (F_X10_count p0 m_fruits m_standings m_typed m_rowMany m_thrown m_undoMany m_now m_worth).1 (F_X10_count p0 m_fruits m_standings m_typed m_rowMany m_thrown m_undoMany m_now m_worth).2 → Q (F_X10_count p0 m_fruits m_standings m_typed m_rowMany m_thrown m_undoMany m_now m_worth).1 (F_X10_count p0 m_fruits m_standings m_typed m_rowMany m_thrown m_undoMany m_now m_worth).2) : wp_X10_count Q p0 m_fruits m_standings m_typed m_rowMany m_thrown m_undoMany m_now m_worth := dt_X10_count h (fun o eo => by rw [eo]; exact hq)
theorem dw_X10_count {Q : Int32 → Int32 → Prop} {p0 : Int32} {m_fruits : Int32} {m_standings : Int32} {m_typed : Int32} {m_rowMany : Int32} {m_thrown : Int32} {m_undoMany : Int32} {m_now : Nat → Int32} {m_worth : Nat → Int32} (h : wp_X10_count (fun o0 o1 => (o0, o1) = F_X10_count p0 m_fruits m_standings m_typed m_rowMany m_thrown m_undoMany m_now m_worth → Q o0 o1) p0 m_fruits m_standings m_typed m_rowMany m_thrown m_undoMany m_now m_worth) : wp_X10_count Q p0 m_fruits m_standings m_typed m_rowMany m_thrown m_undoMany m_now m_worth := dt_X10_count h (fun o eo hp => hp eo)
noncomputable def F_X10_row (p0 : Int32) (m_rowMany : Int32) (m_thrown : Int32) (m_row : Nat → Int32) : Int32 × Int32 := if (F_X10_in p0 0 (m_rowMany - 1)) = 0 then ((F_X10_lost 0).1, (F_X10_lost 0).2) else ((m_row p0.toNatClampNeg), 0)
set_option maxHeartbeats 200000 in
set_option maxRecDepth 10000 in
theorem dt_X10_row {P Q : Int32 → Int32 → Prop} {p0 : Int32} {m_rowMany : Int32} {m_thrown : Int32} {m_row : Nat → Int32} (h : wp_X10_row P p0 m_rowMany m_thrown m_row) (hq : ∀ o : Int32 × Int32, o = F_X10_row p0 m_rowMany m_thrown m_row → P o.1 o.2 → Q o.1 o.2) : wp_X10_row Q p0 m_rowMany m_thrown m_row := by
  rw [F_X10_row] at hq
  refine ae ?_
  have h := h _ rfl
  refine du_X10_in h ?_
  intro h
  refine And.intro (fun c1 => ?_) (fun c1 => ?_)
  · have h := And.left h c1
    rw [if_pos c1] at hq
    refine du_X10_lost h ?_
    intro h
    have q9 := hq _ rfl
    dsimp only at q9
    exact q9 h
  · have h := And.right h c1
    rw [if_neg c1] at hq
    refine And.intro (And.left h) ?_
    have h := And.right h
    refine ae ?_
    have h := h _ rfl
    have q9 := hq _ rfl
    dsimp only at q9
    exact q9 h
theorem du_X10_row {P Q : Int32 → Int32 → Prop} {p0 : Int32} {m_rowMany : Int32} {m_thrown : Int32} {m_row : Nat → Int32} (h : wp_X10_row P p0 m_rowMany m_thrown m_row) (hq : P (F_X10_row p0 m_rowMany m_thrown m_row).1 (F_X10_row p0 m_rowMany m_thrown m_row).2 → Q (F_X10_row p0 m_rowMany m_thrown m_row).1 (F_X10_row p0 m_rowMany m_thrown m_row).2) : wp_X10_row Q p0 m_rowMany m_thrown m_row := dt_X10_row h (fun o eo => by rw [eo]; exact hq)
theorem dw_X10_row {Q : Int32 → Int32 → Prop} {p0 : Int32} {m_rowMany : Int32} {m_thrown : Int32} {m_row : Nat → Int32} (h : wp_X10_row (fun o0 o1 => (o0, o1) = F_X10_row p0 m_rowMany m_thrown m_row → Q o0 o1) p0 m_rowMany m_thrown m_row) : wp_X10_row Q p0 m_rowMany m_thrown m_row := dt_X10_row h (fun o eo hp => hp eo)
