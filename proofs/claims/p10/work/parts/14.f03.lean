noncomputable def F_X10_reachedFrom (p0 : Int32) (p1 : Int32) (p2 : Int32) (m_fruits : Int32) (m_x : Nat → Int32) (m_height : Nat → Int32) (m_foot : Nat → Int32) (m_fork : Nat → Int32) (m_told : Nat → Int32) : Int32 := ex_X10_reachedFrom_6 (fun o0 => o0) m_fruits m_x m_height m_foot m_fork m_told p0 p1 p2 (nI (0 + (Int32.toInt m_fruits - ((0 : Nat) : Int)).toNat)) (itr (bd_X10_reachedFrom_6 m_fruits m_x m_height m_foot m_fork m_told p0 p1 p2) 0 0 (Int32.toInt m_fruits - ((0 : Nat) : Int)).toNat)
set_option maxHeartbeats 200000 in
set_option maxRecDepth 10000 in
theorem dt_X10_reachedFrom {P Q : Int32 → Prop} {p0 : Int32} {p1 : Int32} {p2 : Int32} {m_fruits : Int32} {m_x : Nat → Int32} {m_height : Nat → Int32} {m_foot : Nat → Int32} {m_fork : Nat → Int32} {m_told : Nat → Int32} (h : wp_X10_reachedFrom P p0 p1 p2 m_fruits m_x m_height m_foot m_fork m_told) (hq : ∀ o : Int32, o = F_X10_reachedFrom p0 p1 p2 m_fruits m_x m_height m_foot m_fork m_told → P o → Q o) : wp_X10_reachedFrom Q p0 p1 p2 m_fruits m_x m_height m_foot m_fork m_told := by
  rw [F_X10_reachedFrom] at hq
  obtain ⟨n1, h⟩ := h
  refine ⟨n1, dl_X10_reachedFrom_6 (a := 0) (i := 0) (by decide) ?_ n1 0 0 (by decide) (Nat.zero_le _) h⟩
  intro cc2 s3 ec4 es5 h
  rw [← ec4, ← es5, ex_X10_reachedFrom_6] at hq
  have q9 := hq _ rfl
  exact q9 h
theorem du_X10_reachedFrom {P Q : Int32 → Prop} {p0 : Int32} {p1 : Int32} {p2 : Int32} {m_fruits : Int32} {m_x : Nat → Int32} {m_height : Nat → Int32} {m_foot : Nat → Int32} {m_fork : Nat → Int32} {m_told : Nat → Int32} (h : wp_X10_reachedFrom P p0 p1 p2 m_fruits m_x m_height m_foot m_fork m_told) (hq : P (F_X10_reachedFrom p0 p1 p2 m_fruits m_x m_height m_foot m_fork m_told) → Q (F_X10_reachedFrom p0 p1 p2 m_fruits m_x m_height m_foot m_fork m_told)) : wp_X10_reachedFrom Q p0 p1 p2 m_fruits m_x m_height m_foot m_fork m_told := dt_X10_reachedFrom h (fun o eo => by rw [eo]; exact hq)
theorem dw_X10_reachedFrom {Q : Int32 → Prop} {p0 : Int32} {p1 : Int32} {p2 : Int32} {m_fruits : Int32} {m_x : Nat → Int32} {m_height : Nat → Int32} {m_foot : Nat → Int32} {m_fork : Nat → Int32} {m_told : Nat → Int32} (h : wp_X10_reachedFrom (fun o0 => o0 = F_X10_reachedFrom p0 p1 p2 m_fruits m_x m_height m_foot m_fork m_told → Q o0) p0 p1 p2 m_fruits m_x m_height m_foot m_fork m_told) : wp_X10_reachedFrom Q p0 p1 p2 m_fruits m_x m_height m_foot m_fork m_told := dt_X10_reachedFrom h (fun o eo hp => hp eo)
noncomputable def F_X10_reached (p0 : Int32) (m_fruits : Int32) (m_standings : Int32) (m_rowMany : Int32) (m_thrown : Int32) (m_x : Nat → Int32) (m_height : Nat → Int32) (m_foot : Nat → Int32) (m_fork : Nat → Int32) (m_told : Nat → Int32) (m_row : Nat → Int32) : Int32 × Int32 × Int32 × (Nat → Int32) := if (F_X10_isStanding p0 m_standings) = 0 then ((-1), m_rowMany, 0, m_row) else ((F_X10_reachedFrom p0 0 0 m_fruits m_x m_height m_foot m_fork m_told), (F_X10_tell (F_X10_reachedFrom p0 1 1 m_fruits m_x m_height m_foot m_fork m_told) (F_X10_tell (F_X10_reachedFrom p0 1 0 m_fruits m_x m_height m_foot m_fork m_told) 0 m_row).1 (F_X10_tell (F_X10_reachedFrom p0 1 0 m_fruits m_x m_height m_foot m_fork m_told) 0 m_row).2).1, 0, (F_X10_tell (F_X10_reachedFrom p0 1 1 m_fruits m_x m_height m_foot m_fork m_told) (F_X10_tell (F_X10_reachedFrom p0 1 0 m_fruits m_x m_height m_foot m_fork m_told) 0 m_row).1 (F_X10_tell (F_X10_reachedFrom p0 1 0 m_fruits m_x m_height m_foot m_fork m_told) 0 m_row).2).2)
set_option maxHeartbeats 200000 in
set_option maxRecDepth 10000 in
theorem dt_X10_reached {P Q : Int32 → Int32 → Int32 → (Nat → Int32) → Prop} {p0 : Int32} {m_fruits : Int32} {m_standings : Int32} {m_rowMany : Int32} {m_thrown : Int32} {m_x : Nat → Int32} {m_height : Nat → Int32} {m_foot : Nat → Int32} {m_fork : Nat → Int32} {m_told : Nat → Int32} {m_row : Nat → Int32} (h : wp_X10_reached P p0 m_fruits m_standings m_rowMany m_thrown m_x m_height m_foot m_fork m_told m_row) (hq : ∀ o : Int32 × Int32 × Int32 × (Nat → Int32), o = F_X10_reached p0 m_fruits m_standings m_rowMany m_thrown m_x m_height m_foot m_fork m_told m_row → P o.1 o.2.1 o.2.2.1 o.2.2.2 → Q o.1 o.2.1 o.2.2.1 o.2.2.2) : wp_X10_reached Q p0 m_fruits m_standings m_rowMany m_thrown m_x m_height m_foot m_fork m_told m_row := by
  rw [F_X10_reached] at hq
  refine du_X10_isStanding h ?_
  intro h
  refine And.intro (fun c1 => ?_) (fun c1 => ?_)
  · have h := And.left h c1
    rw [if_neg c1] at hq
    refine du_X10_reachedFrom h ?_
    intro h
    refine du_X10_tell h ?_
    intro h
    refine du_X10_reachedFrom h ?_
    intro h
    refine du_X10_tell h ?_
    intro h
    refine du_X10_reachedFrom h ?_
    intro h
    have q9 := hq _ rfl
    dsimp only at q9
    exact q9 h
  · have h := And.right h c1
    rw [if_pos c1] at hq
    have q9 := hq _ rfl
    dsimp only at q9
    exact q9 h
theorem du_X10_reached {P Q : Int32 → Int32 → Int32 → (Nat → Int32) → Prop} {p0 : Int32} {m_fruits : Int32} {m_standings : Int32} {m_rowMany : Int32} {m_thrown : Int32} {m_x : Nat → Int32} {m_height : Nat → Int32} {m_foot : Nat → Int32} {m_fork : Nat → Int32} {m_told : Nat → Int32} {m_row : Nat → Int32} (h : wp_X10_reached P p0 m_fruits m_standings m_rowMany m_thrown m_x m_height m_foot m_fork m_told m_row) (hq : P (F_X10_reached p0 m_fruits m_standings m_rowMany m_thrown m_x m_height m_foot m_fork m_told m_row).1 (F_X10_reached p0 m_fruits m_standings m_rowMany m_thrown m_x m_height m_foot m_fork m_told m_row).2.1 (F_X10_reached p0 m_fruits m_standings m_rowMany m_thrown m_x m_height m_foot m_fork m_told m_row).2.2.1 (F_X10_reached p0 m_fruits m_standings m_rowMany m_thrown m_x m_height m_foot m_fork m_told m_row).2.2.2 → Q (F_X10_reached p0 m_fruits m_standings m_rowMany m_thrown m_x m_height m_foot m_fork m_told m_row).1 (F_X10_reached p0 m_fruits m_standings m_rowMany m_thrown m_x m_height m_foot m_fork m_told m_row).2.1 (F_X10_reached p0 m_fruits m_standings m_rowMany m_thrown m_x m_height m_foot m_fork m_told m_row).2.2.1 (F_X10_reached p0 m_fruits m_standings m_rowMany m_thrown m_x m_height m_foot m_fork m_told m_row).2.2.2) : wp_X10_reached Q p0 m_fruits m_standings m_rowMany m_thrown m_x m_height m_foot m_fork m_told m_row := dt_X10_reached h (fun o eo => by rw [eo]; exact hq)
theorem dw_X10_reached {Q : Int32 → Int32 → Int32 → (Nat → Int32) → Prop} {p0 : Int32} {m_fruits : Int32} {m_standings : Int32} {m_rowMany : Int32} {m_thrown : Int32} {m_x : Nat → Int32} {m_height : Nat → Int32} {m_foot : Nat → Int32} {m_fork : Nat → Int32} {m_told : Nat → Int32} {m_row : Nat → Int32} (h : wp_X10_reached (fun o0 o1 o2 o3 => (o0, o1, o2, o3) = F_X10_reached p0 m_fruits m_standings m_rowMany m_thrown m_x m_height m_foot m_fork m_told m_row → Q o0 o1 o2 o3) p0 m_fruits m_standings m_rowMany m_thrown m_x m_height m_foot m_fork m_told m_row) : wp_X10_reached Q p0 m_fruits m_standings m_rowMany m_thrown m_x m_height m_foot m_fork m_told m_row := dt_X10_reached h (fun o eo hp => hp eo)
noncomputable def bd_X10_orchard_105 (m_text : Nat → Int32) (m_rule : Nat → Int32) (m_standings : Int32) (m_typed : Int32) (m_thrown : Int32) (m_read : Nat) (m_length : Int32) (m_top : Int32) (m_at : Int32) (m_wrong : Int32) (m_newFruitMany : Int32) (m_newStandingMany : Int32) (m_undoMany : Int32) (m_came : Int32) (m_foot : Nat → Int32) (m_fork : Nat → Int32) (m_newFruits : Nat → Int32) (m_newStandings : Nat → Int32) (c : Int32) (s : Int32 × (Nat → Int32) × (Nat → Int32) × (Nat → Int32) × (Nat → Int32) × (Nat → Int32)) : Int32 × (Nat → Int32) × (Nat → Int32) × (Nat → Int32) × (Nat → Int32) × (Nat → Int32) := ((s.1 + 1), (upd s.2.1 s.1.toNatClampNeg 0), (upd s.2.2.1 s.1.toNatClampNeg (m_newFruits (4 * c).toNatClampNeg)), (upd s.2.2.2.1 s.1.toNatClampNeg (m_newFruits ((4 * c) + 1).toNatClampNeg)), (upd s.2.2.2.2.1 s.1.toNatClampNeg (m_newFruits ((4 * c) + 2).toNatClampNeg)), (upd s.2.2.2.2.2 s.1.toNatClampNeg (m_newFruits ((4 * c) + 3).toNatClampNeg)))
noncomputable def bd_X10_orchard_215 (m_text : Nat → Int32) (m_rule : Nat → Int32) (m_fruits : Int32) (m_typed : Int32) (m_thrown : Int32) (m_read : Nat) (m_length : Int32) (m_top : Int32) (m_at : Int32) (m_wrong : Int32) (m_newFruitMany : Int32) (m_newStandingMany : Int32) (m_undoMany : Int32) (m_came : Int32) (m_now : Nat → Int32) (m_x : Nat → Int32) (m_height : Nat → Int32) (m_worth : Nat → Int32) (m_ripe : Nat → Int32) (m_newFruits : Nat → Int32) (m_newStandings : Nat → Int32) (c : Int32) (s : Int32 × (Nat → Int32) × (Nat → Int32)) : Int32 × (Nat → Int32) × (Nat → Int32) := ((s.1 + 1), (upd s.2.1 s.1.toNatClampNeg (m_newStandings (2 * c).toNatClampNeg)), (upd s.2.2 s.1.toNatClampNeg (m_newStandings ((2 * c) + 1).toNatClampNeg)))
noncomputable def ex_X10_orchard_215 {R : Type} (po : Int32 → Int32 → Int32 → Int32 → Int32 → Nat → Int32 → Int32 → Int32 → Int32 → Int32 → Int32 → Int32 → Int32 → (Nat → Int32) → (Nat → Int32) → (Nat → Int32) → (Nat → Int32) → (Nat → Int32) → (Nat → Int32) → (Nat → Int32) → (Nat → Int32) → (Nat → Int32) → R) (m_text : Nat → Int32) (m_rule : Nat → Int32) (m_fruits : Int32) (m_typed : Int32) (m_thrown : Int32) (m_read : Nat) (m_length : Int32) (m_top : Int32) (m_at : Int32) (m_wrong : Int32) (m_newFruitMany : Int32) (m_newStandingMany : Int32) (m_undoMany : Int32) (m_came : Int32) (m_now : Nat → Int32) (m_x : Nat → Int32) (m_height : Nat → Int32) (m_worth : Nat → Int32) (m_ripe : Nat → Int32) (m_newFruits : Nat → Int32) (m_newStandings : Nat → Int32) (c : Int32) (s : Int32 × (Nat → Int32) × (Nat → Int32)) : R := po (m_newFruitMany + m_newStandingMany) m_fruits s.1 m_typed m_thrown m_read m_length m_top m_at m_wrong m_newFruitMany m_newStandingMany 0 (m_came + 1) m_now m_x m_height m_worth m_ripe s.2.1 s.2.2 m_newFruits m_newStandings
set_option maxHeartbeats 200000 in
set_option maxRecDepth 10000 in
theorem dl_X10_orchard_215 {P Q : Int32 → Int32 → Int32 → Int32 → Int32 → Nat → Int32 → Int32 → Int32 → Int32 → Int32 → Int32 → Int32 → Int32 → (Nat → Int32) → (Nat → Int32) → (Nat → Int32) → (Nat → Int32) → (Nat → Int32) → (Nat → Int32) → (Nat → Int32) → (Nat → Int32) → (Nat → Int32) → Prop} {m_text : Nat → Int32} {m_rule : Nat → Int32} {m_fruits : Int32} {m_typed : Int32} {m_thrown : Int32} {m_read : Nat} {m_length : Int32} {m_top : Int32} {m_at : Int32} {m_wrong : Int32} {m_newFruitMany : Int32} {m_newStandingMany : Int32} {m_undoMany : Int32} {m_came : Int32} {m_now : Nat → Int32} {m_x : Nat → Int32} {m_height : Nat → Int32} {m_worth : Nat → Int32} {m_ripe : Nat → Int32} {m_newFruits : Nat → Int32} {m_newStandings : Nat → Int32} {a : Int32 × (Nat → Int32) × (Nat → Int32)} {i : Nat} (hi0 : i < 2147483648) (hE : ∀ (c : Int32) (s : Int32 × (Nat → Int32) × (Nat → Int32)), c = nI (i + (Int32.toInt m_newStandingMany - ((i : Nat) : Int)).toNat) → s = itr (bd_X10_orchard_215 m_text m_rule m_fruits m_typed m_thrown m_read m_length m_top m_at m_wrong m_newFruitMany m_newStandingMany m_undoMany m_came m_now m_x m_height m_worth m_ripe m_newFruits m_newStandings) a i (Int32.toInt m_newStandingMany - ((i : Nat) : Int)).toNat → (∀ v_7 : Int32, v_7 = m_came + 1 → P (m_newFruitMany + m_newStandingMany) m_fruits s.1 m_typed m_thrown m_read m_length m_top m_at m_wrong m_newFruitMany m_newStandingMany 0 v_7 m_now m_x m_height m_worth m_ripe s.2.1 s.2.2 m_newFruits m_newStandings) → (∀ v_7 : Int32, v_7 = m_came + 1 → Q (m_newFruitMany + m_newStandingMany) m_fruits s.1 m_typed m_thrown m_read m_length m_top m_at m_wrong m_newFruitMany m_newStandingMany 0 v_7 m_now m_x m_height m_worth m_ripe s.2.1 s.2.2 m_newFruits m_newStandings)) : ∀ (n k : Nat) (c : Int32), c = nI (i + k) → k ≤ (Int32.toInt m_newStandingMany - ((i : Nat) : Int)).toNat → wb_X10_orchard_215 P m_text m_rule n c m_fruits (itr (bd_X10_orchard_215 m_text m_rule m_fruits m_typed m_thrown m_read m_length m_top m_at m_wrong m_newFruitMany m_newStandingMany m_undoMany m_came m_now m_x m_height m_worth m_ripe m_newFruits m_newStandings) a i k).1 m_typed m_thrown m_read m_length m_top m_at m_wrong m_newFruitMany m_newStandingMany m_undoMany m_came m_now m_x m_height m_worth m_ripe (itr (bd_X10_orchard_215 m_text m_rule m_fruits m_typed m_thrown m_read m_length m_top m_at m_wrong m_newFruitMany m_newStandingMany m_undoMany m_came m_now m_x m_height m_worth m_ripe m_newFruits m_newStandings) a i k).2.1 (itr (bd_X10_orchard_215 m_text m_rule m_fruits m_typed m_thrown m_read m_length m_top m_at m_wrong m_newFruitMany m_newStandingMany m_undoMany m_came m_now m_x m_height m_worth m_ripe m_newFruits m_newStandings) a i k).2.2 m_newFruits m_newStandings → wb_X10_orchard_215 Q m_text m_rule n c m_fruits (itr (bd_X10_orchard_215 m_text m_rule m_fruits m_typed m_thrown m_read m_length m_top m_at m_wrong m_newFruitMany m_newStandingMany m_undoMany m_came m_now m_x m_height m_worth m_ripe m_newFruits m_newStandings) a i k).1 m_typed m_thrown m_read m_length m_top m_at m_wrong m_newFruitMany m_newStandingMany m_undoMany m_came m_now m_x m_height m_worth m_ripe (itr (bd_X10_orchard_215 m_text m_rule m_fruits m_typed m_thrown m_read m_length m_top m_at m_wrong m_newFruitMany m_newStandingMany m_undoMany m_came m_now m_x m_height m_worth m_ripe m_newFruits m_newStandings) a i k).2.1 (itr (bd_X10_orchard_215 m_text m_rule m_fruits m_typed m_thrown m_read m_length m_top m_at m_wrong m_newFruitMany m_newStandingMany m_undoMany m_came m_now m_x m_height m_worth m_ripe m_newFruits m_newStandings) a i k).2.2 m_newFruits m_newStandings := by
  intro n
  induction n with
  | zero => intro k c hc hk h; exact False.elim h
  | succ n ih =>
    intro k c hc hk h
    have hr := tp_r m_newStandingMany
    have hi : Int32.toInt c = ((i + k : Nat) : Int) := by rw [hc]; exact nI_toInt (by omega)
    refine And.intro (fun t0 => ?_) (fun t0 => ?_)
    · have h := And.left h t0
      have t1 := (fa_le _ _).mp t0
      have hk2 : k = (Int32.toInt m_newStandingMany - ((i : Nat) : Int)).toNat := by omega
      subst hk2
      exact hE _ _ hc rfl h
    · have h := And.right h t0
      have t1 := mt (fa_le _ _).mpr t0
      have hs : ∀ o : Int32 × (Nat → Int32) × (Nat → Int32), o = itr (bd_X10_orchard_215 m_text m_rule m_fruits m_typed m_thrown m_read m_length m_top m_at m_wrong m_newFruitMany m_newStandingMany m_undoMany m_came m_now m_x m_height m_worth m_ripe m_newFruits m_newStandings) a i (k + 1) → wb_X10_orchard_215 P m_text m_rule n (c + 1) m_fruits o.1 m_typed m_thrown m_read m_length m_top m_at m_wrong m_newFruitMany m_newStandingMany m_undoMany m_came m_now m_x m_height m_worth m_ripe o.2.1 o.2.2 m_newFruits m_newStandings → wb_X10_orchard_215 Q m_text m_rule n (c + 1) m_fruits o.1 m_typed m_thrown m_read m_length m_top m_at m_wrong m_newFruitMany m_newStandingMany m_undoMany m_came m_now m_x m_height m_worth m_ripe o.2.1 o.2.2 m_newFruits m_newStandings := by
        intro o eo h9
        have q := ih (k + 1) (c + 1) (by rw [hc]; exact nI_1 _) (by omega)
        rw [← eo] at q
        exact q h9
      rw [itr_s, ← hc, bd_X10_orchard_215] at hs
      refine ae ?_
      have h := h _ rfl
      refine And.intro (And.left h) ?_
      have h := And.right h
      refine ae ?_
      have h := h _ rfl
      refine And.intro (And.left h) ?_
      have h := And.right h
      refine ae ?_
      have h := h _ rfl
      refine ae ?_
      have h := h _ rfl
      refine And.intro (And.left h) ?_
      have h := And.right h
      refine ae ?_
      have h := h _ rfl
      refine And.intro (And.left h) ?_
      have h := And.right h
      refine ae ?_
      have h := h _ rfl
      refine ae ?_
      have h := h _ rfl
      have q9 := hs _ rfl
      dsimp only at q9
      exact q9 h
noncomputable def ex_X10_orchard_105 {R : Type} (po : Int32 → Int32 → Int32 → Int32 → Int32 → Nat → Int32 → Int32 → Int32 → Int32 → Int32 → Int32 → Int32 → Int32 → (Nat → Int32) → (Nat → Int32) → (Nat → Int32) → (Nat → Int32) → (Nat → Int32) → (Nat → Int32) → (Nat → Int32) → (Nat → Int32) → (Nat → Int32) → R) (m_text : Nat → Int32) (m_rule : Nat → Int32) (m_standings : Int32) (m_typed : Int32) (m_thrown : Int32) (m_read : Nat) (m_length : Int32) (m_top : Int32) (m_at : Int32) (m_wrong : Int32) (m_newFruitMany : Int32) (m_newStandingMany : Int32) (m_undoMany : Int32) (m_came : Int32) (m_foot : Nat → Int32) (m_fork : Nat → Int32) (m_newFruits : Nat → Int32) (m_newStandings : Nat → Int32) (c : Int32) (s : Int32 × (Nat → Int32) × (Nat → Int32) × (Nat → Int32) × (Nat → Int32) × (Nat → Int32)) : R := ex_X10_orchard_215 po m_text m_rule s.1 m_typed m_thrown m_read m_length m_top m_at m_wrong m_newFruitMany m_newStandingMany m_undoMany m_came s.2.1 s.2.2.1 s.2.2.2.1 s.2.2.2.2.1 s.2.2.2.2.2 m_newFruits m_newStandings (nI (0 + (Int32.toInt m_newStandingMany - ((0 : Nat) : Int)).toNat)) (itr (bd_X10_orchard_215 m_text m_rule s.1 m_typed m_thrown m_read m_length m_top m_at m_wrong m_newFruitMany m_newStandingMany m_undoMany m_came s.2.1 s.2.2.1 s.2.2.2.1 s.2.2.2.2.1 s.2.2.2.2.2 m_newFruits m_newStandings) (m_standings, m_foot, m_fork) 0 (Int32.toInt m_newStandingMany - ((0 : Nat) : Int)).toNat)
set_option maxHeartbeats 200000 in
set_option maxRecDepth 10000 in
theorem dl_X10_orchard_105 {P Q : Int32 → Int32 → Int32 → Int32 → Int32 → Nat → Int32 → Int32 → Int32 → Int32 → Int32 → Int32 → Int32 → Int32 → (Nat → Int32) → (Nat → Int32) → (Nat → Int32) → (Nat → Int32) → (Nat → Int32) → (Nat → Int32) → (Nat → Int32) → (Nat → Int32) → (Nat → Int32) → Prop} {m_text : Nat → Int32} {m_rule : Nat → Int32} {m_standings : Int32} {m_typed : Int32} {m_thrown : Int32} {m_read : Nat} {m_length : Int32} {m_top : Int32} {m_at : Int32} {m_wrong : Int32} {m_newFruitMany : Int32} {m_newStandingMany : Int32} {m_undoMany : Int32} {m_came : Int32} {m_foot : Nat → Int32} {m_fork : Nat → Int32} {m_newFruits : Nat → Int32} {m_newStandings : Nat → Int32} {a : Int32 × (Nat → Int32) × (Nat → Int32) × (Nat → Int32) × (Nat → Int32) × (Nat → Int32)} {i : Nat} (hi0 : i < 2147483648) (hE : ∀ (c : Int32) (s : Int32 × (Nat → Int32) × (Nat → Int32) × (Nat → Int32) × (Nat → Int32) × (Nat → Int32)), c = nI (i + (Int32.toInt m_newFruitMany - ((i : Nat) : Int)).toNat) → s = itr (bd_X10_orchard_105 m_text m_rule m_standings m_typed m_thrown m_read m_length m_top m_at m_wrong m_newFruitMany m_newStandingMany m_undoMany m_came m_foot m_fork m_newFruits m_newStandings) a i (Int32.toInt m_newFruitMany - ((i : Nat) : Int)).toNat → (∃ n : Nat, wb_X10_orchard_215 P m_text m_rule n 0 s.1 m_standings m_typed m_thrown m_read m_length m_top m_at m_wrong m_newFruitMany m_newStandingMany m_undoMany m_came s.2.1 s.2.2.1 s.2.2.2.1 s.2.2.2.2.1 s.2.2.2.2.2 m_foot m_fork m_newFruits m_newStandings) → (∃ n : Nat, wb_X10_orchard_215 Q m_text m_rule n 0 s.1 m_standings m_typed m_thrown m_read m_length m_top m_at m_wrong m_newFruitMany m_newStandingMany m_undoMany m_came s.2.1 s.2.2.1 s.2.2.2.1 s.2.2.2.2.1 s.2.2.2.2.2 m_foot m_fork m_newFruits m_newStandings)) : ∀ (n k : Nat) (c : Int32), c = nI (i + k) → k ≤ (Int32.toInt m_newFruitMany - ((i : Nat) : Int)).toNat → wb_X10_orchard_105 P m_text m_rule n c (itr (bd_X10_orchard_105 m_text m_rule m_standings m_typed m_thrown m_read m_length m_top m_at m_wrong m_newFruitMany m_newStandingMany m_undoMany m_came m_foot m_fork m_newFruits m_newStandings) a i k).1 m_standings m_typed m_thrown m_read m_length m_top m_at m_wrong m_newFruitMany m_newStandingMany m_undoMany m_came (itr (bd_X10_orchard_105 m_text m_rule m_standings m_typed m_thrown m_read m_length m_top m_at m_wrong m_newFruitMany m_newStandingMany m_undoMany m_came m_foot m_fork m_newFruits m_newStandings) a i k).2.1 (itr (bd_X10_orchard_105 m_text m_rule m_standings m_typed m_thrown m_read m_length m_top m_at m_wrong m_newFruitMany m_newStandingMany m_undoMany m_came m_foot m_fork m_newFruits m_newStandings) a i k).2.2.1 (itr (bd_X10_orchard_105 m_text m_rule m_standings m_typed m_thrown m_read m_length m_top m_at m_wrong m_newFruitMany m_newStandingMany m_undoMany m_came m_foot m_fork m_newFruits m_newStandings) a i k).2.2.2.1 (itr (bd_X10_orchard_105 m_text m_rule m_standings m_typed m_thrown m_read m_length m_top m_at m_wrong m_newFruitMany m_newStandingMany m_undoMany m_came m_foot m_fork m_newFruits m_newStandings) a i k).2.2.2.2.1 (itr (bd_X10_orchard_105 m_text m_rule m_standings m_typed m_thrown m_read m_length m_top m_at m_wrong m_newFruitMany m_newStandingMany m_undoMany m_came m_foot m_fork m_newFruits m_newStandings) a i k).2.2.2.2.2 m_foot m_fork m_newFruits m_newStandings → wb_X10_orchard_105 Q m_text m_rule n c (itr (bd_X10_orchard_105 m_text m_rule m_standings m_typed m_thrown m_read m_length m_top m_at m_wrong m_newFruitMany m_newStandingMany m_undoMany m_came m_foot m_fork m_newFruits m_newStandings) a i k).1 m_standings m_typed m_thrown m_read m_length m_top m_at m_wrong m_newFruitMany m_newStandingMany m_undoMany m_came (itr (bd_X10_orchard_105 m_text m_rule m_standings m_typed m_thrown m_read m_length m_top m_at m_wrong m_newFruitMany m_newStandingMany m_undoMany m_came m_foot m_fork m_newFruits m_newStandings) a i k).2.1 (itr (bd_X10_orchard_105 m_text m_rule m_standings m_typed m_thrown m_read m_length m_top m_at m_wrong m_newFruitMany m_newStandingMany m_undoMany m_came m_foot m_fork m_newFruits m_newStandings) a i k).2.2.1 (itr (bd_X10_orchard_105 m_text m_rule m_standings m_typed m_thrown m_read m_length m_top m_at m_wrong m_newFruitMany m_newStandingMany m_undoMany m_came m_foot m_fork m_newFruits m_newStandings) a i k).2.2.2.1 (itr (bd_X10_orchard_105 m_text m_rule m_standings m_typed m_thrown m_read m_length m_top m_at m_wrong m_newFruitMany m_newStandingMany m_undoMany m_came m_foot m_fork m_newFruits m_newStandings) a i k).2.2.2.2.1 (itr (bd_X10_orchard_105 m_text m_rule m_standings m_typed m_thrown m_read m_length m_top m_at m_wrong m_newFruitMany m_newStandingMany m_undoMany m_came m_foot m_fork m_newFruits m_newStandings) a i k).2.2.2.2.2 m_foot m_fork m_newFruits m_newStandings := by
  intro n
  induction n with
  | zero => intro k c hc hk h; exact False.elim h
  | succ n ih =>
    intro k c hc hk h
    have hr := tp_r m_newFruitMany
    have hi : Int32.toInt c = ((i + k : Nat) : Int) := by rw [hc]; exact nI_toInt (by omega)
    refine And.intro (fun t0 => ?_) (fun t0 => ?_)
    · have h := And.left h t0
      have t1 := (fa_le _ _).mp t0
      have hk2 : k = (Int32.toInt m_newFruitMany - ((i : Nat) : Int)).toNat := by omega
      subst hk2
      exact hE _ _ hc rfl h
    · have h := And.right h t0
      have t1 := mt (fa_le _ _).mpr t0
      have hs : ∀ o : Int32 × (Nat → Int32) × (Nat → Int32) × (Nat → Int32) × (Nat → Int32) × (Nat → Int32), o = itr (bd_X10_orchard_105 m_text m_rule m_standings m_typed m_thrown m_read m_length m_top m_at m_wrong m_newFruitMany m_newStandingMany m_undoMany m_came m_foot m_fork m_newFruits m_newStandings) a i (k + 1) → wb_X10_orchard_105 P m_text m_rule n (c + 1) o.1 m_standings m_typed m_thrown m_read m_length m_top m_at m_wrong m_newFruitMany m_newStandingMany m_undoMany m_came o.2.1 o.2.2.1 o.2.2.2.1 o.2.2.2.2.1 o.2.2.2.2.2 m_foot m_fork m_newFruits m_newStandings → wb_X10_orchard_105 Q m_text m_rule n (c + 1) o.1 m_standings m_typed m_thrown m_read m_length m_top m_at m_wrong m_newFruitMany m_newStandingMany m_undoMany m_came o.2.1 o.2.2.1 o.2.2.2.1 o.2.2.2.2.1 o.2.2.2.2.2 m_foot m_fork m_newFruits m_newStandings := by
        intro o eo h9
        have q := ih (k + 1) (c + 1) (by rw [hc]; exact nI_1 _) (by omega)
        rw [← eo] at q
        exact q h9
      rw [itr_s, ← hc, bd_X10_orchard_105] at hs
      refine ae ?_
      have h := h _ rfl
      refine And.intro (And.left h) ?_
      have h := And.right h
      refine ae ?_
      have h := h _ rfl
      refine And.intro (And.left h) ?_
      have h := And.right h
      refine ae ?_
      have h := h _ rfl
      refine ae ?_
      have h := h _ rfl
      refine And.intro (And.left h) ?_
      have h := And.right h
      refine ae ?_
      have h := h _ rfl
      refine And.intro (And.left h) ?_
      have h := And.right h
      refine ae ?_
      have h := h _ rfl
      refine ae ?_
      have h := h _ rfl
      refine And.intro (And.left h) ?_
      have h := And.right h
      refine ae ?_
      have h := h _ rfl
      refine And.intro (And.left h) ?_
      have h := And.right h
      refine ae ?_
      have h := h _ rfl
      refine ae ?_
      have h := h _ rfl
      refine And.intro (And.left h) ?_
      have h := And.right h
      refine ae ?_
      have h := h _ rfl
      refine And.intro (And.left h) ?_
      have h := And.right h
      refine And.intro (And.left h) ?_
      have h := And.right h
      refine ae ?_
      have h := h _ rfl
      refine ae ?_
      have h := h _ rfl
      have q9 := hs _ rfl
      dsimp only at q9
      exact q9 h
noncomputable def F_X8_cut (p0 : Int32) (tx_length : Int32) : Int32 × Int32 := if p0 < 0 then (0, tx_length) else (if p0 ≤ tx_length then (1, p0) else (0, tx_length))
set_option maxHeartbeats 200000 in
set_option maxRecDepth 10000 in
theorem dt_X8_cut {P Q : Int32 → Int32 → Prop} {p0 : Int32} {tx_length : Int32} (h : wp_X8_cut P p0 tx_length) (hq : ∀ o : Int32 × Int32, o = F_X8_cut p0 tx_length → P o.1 o.2 → Q o.1 o.2) : wp_X8_cut Q p0 tx_length := by
  rw [F_X8_cut] at hq
  refine And.intro (fun c1 => ?_) (fun c1 => ?_)
  · have h := And.left h c1
    rw [if_pos c1] at hq
    have q9 := hq _ rfl
    dsimp only at q9
    exact q9 h
  · have h := And.right h c1
    rw [if_neg c1] at hq
    refine And.intro (fun c2 => ?_) (fun c2 => ?_)
    · have h := And.left h c2
      rw [if_pos c2] at hq
      have q9 := hq _ rfl
      dsimp only at q9
      exact q9 h
    · have h := And.right h c2
      rw [if_neg c2] at hq
      have q9 := hq _ rfl
      dsimp only at q9
      exact q9 h
theorem du_X8_cut {P Q : Int32 → Int32 → Prop} {p0 : Int32} {tx_length : Int32} (h : wp_X8_cut P p0 tx_length) (hq : P (F_X8_cut p0 tx_length).1 (F_X8_cut p0 tx_length).2 → Q (F_X8_cut p0 tx_length).1 (F_X8_cut p0 tx_length).2) : wp_X8_cut Q p0 tx_length := dt_X8_cut h (fun o eo => by rw [eo]; exact hq)
noncomputable def F_X9_end (p0 : Int32) (tx_length : Int32) : Int32 × Int32 := ((F_X8_cut p0 tx_length).1, (F_X8_cut p0 tx_length).2)
set_option maxHeartbeats 200000 in
set_option maxRecDepth 10000 in
theorem dt_X9_end {P Q : Int32 → Int32 → Prop} {p0 : Int32} {tx_length : Int32} (h : wp_X9_end P p0 tx_length) (hq : ∀ o : Int32 × Int32, o = F_X9_end p0 tx_length → P o.1 o.2 → Q o.1 o.2) : wp_X9_end Q p0 tx_length := by
  rw [F_X9_end] at hq
  refine du_X8_cut h ?_
  intro h
  refine And.intro (And.left h) ?_
  have h := And.right h
  have q9 := hq _ rfl
  dsimp only at q9
  exact q9 h
theorem du_X9_end {P Q : Int32 → Int32 → Prop} {p0 : Int32} {tx_length : Int32} (h : wp_X9_end P p0 tx_length) (hq : P (F_X9_end p0 tx_length).1 (F_X9_end p0 tx_length).2 → Q (F_X9_end p0 tx_length).1 (F_X9_end p0 tx_length).2) : wp_X9_end Q p0 tx_length := dt_X9_end h (fun o eo => by rw [eo]; exact hq)
theorem dw_X9_end {Q : Int32 → Int32 → Prop} {p0 : Int32} {tx_length : Int32} (h : wp_X9_end (fun o0 o1 => (o0, o1) = F_X9_end p0 tx_length → Q o0 o1) p0 tx_length) : wp_X9_end Q p0 tx_length := dt_X9_end h (fun o eo hp => hp eo)
noncomputable def F_X7_drop (ru_length : Int32) : Int32 := 0
set_option maxHeartbeats 200000 in
set_option maxRecDepth 10000 in
theorem dt_X7_drop {P Q : Int32 → Prop} {ru_length : Int32} (h : wp_X7_drop P ru_length) (hq : ∀ o : Int32, o = F_X7_drop ru_length → P o → Q o) : wp_X7_drop Q ru_length := by
  rw [F_X7_drop] at hq
  have q9 := hq _ rfl
  exact q9 h
theorem du_X7_drop {P Q : Int32 → Prop} {ru_length : Int32} (h : wp_X7_drop P ru_length) (hq : P (F_X7_drop ru_length) → Q (F_X7_drop ru_length)) : wp_X7_drop Q ru_length := dt_X7_drop h (fun o eo => by rw [eo]; exact hq)
noncomputable def F_X7_hold (p0 : Int32) (ru_waits : Int32) (ru_waiting : Nat → Int32) : Int32 × (Nat → Int32) := if 40 ≤ ru_waits then (ru_waits, ru_waiting) else ((ru_waits + 1), (upd ru_waiting ru_waits.toNatClampNeg p0))
set_option maxHeartbeats 200000 in
set_option maxRecDepth 10000 in
theorem dt_X7_hold {P Q : Int32 → (Nat → Int32) → Prop} {p0 : Int32} {ru_waits : Int32} {ru_waiting : Nat → Int32} (h : wp_X7_hold P p0 ru_waits ru_waiting) (hq : ∀ o : Int32 × (Nat → Int32), o = F_X7_hold p0 ru_waits ru_waiting → P o.1 o.2 → Q o.1 o.2) : wp_X7_hold Q p0 ru_waits ru_waiting := by
  rw [F_X7_hold] at hq
  refine And.intro (fun c1 => ?_) (fun c1 => ?_)
  · have h := And.left h c1
    rw [if_pos c1] at hq
    have q9 := hq _ rfl
    dsimp only at q9
    exact q9 h
  · have h := And.right h c1
    rw [if_neg c1] at hq
    refine And.intro (And.left h) ?_
    have h := And.right h
    refine ae ?_
    have h := h _ rfl
    have q9 := hq _ rfl
    dsimp only at q9
    exact q9 h
theorem du_X7_hold {P Q : Int32 → (Nat → Int32) → Prop} {p0 : Int32} {ru_waits : Int32} {ru_waiting : Nat → Int32} (h : wp_X7_hold P p0 ru_waits ru_waiting) (hq : P (F_X7_hold p0 ru_waits ru_waiting).1 (F_X7_hold p0 ru_waits ru_waiting).2 → Q (F_X7_hold p0 ru_waits ru_waiting).1 (F_X7_hold p0 ru_waits ru_waiting).2) : wp_X7_hold Q p0 ru_waits ru_waiting := dt_X7_hold h (fun o eo => by rw [eo]; exact hq)
noncomputable def F_X7_emit (p0 : Int32) (ru_drafted : Int32) (ru_draft : Nat → Int32) : Int32 × (Nat → Int32) := if 40 ≤ ru_drafted then (ru_drafted, ru_draft) else ((ru_drafted + 1), (upd ru_draft ru_drafted.toNatClampNeg p0))
set_option maxHeartbeats 200000 in
set_option maxRecDepth 10000 in
theorem dt_X7_emit {P Q : Int32 → (Nat → Int32) → Prop} {p0 : Int32} {ru_drafted : Int32} {ru_draft : Nat → Int32} (h : wp_X7_emit P p0 ru_drafted ru_draft) (hq : ∀ o : Int32 × (Nat → Int32), o = F_X7_emit p0 ru_drafted ru_draft → P o.1 o.2 → Q o.1 o.2) : wp_X7_emit Q p0 ru_drafted ru_draft := by
  rw [F_X7_emit] at hq
  refine And.intro (fun c1 => ?_) (fun c1 => ?_)
  · have h := And.left h c1
    rw [if_pos c1] at hq
    have q9 := hq _ rfl
    dsimp only at q9
    exact q9 h
  · have h := And.right h c1
    rw [if_neg c1] at hq
    refine And.intro (And.left h) ?_
    have h := And.right h
    refine ae ?_
    have h := h _ rfl
    have q9 := hq _ rfl
    dsimp only at q9
    exact q9 h
theorem du_X7_emit {P Q : Int32 → (Nat → Int32) → Prop} {p0 : Int32} {ru_drafted : Int32} {ru_draft : Nat → Int32} (h : wp_X7_emit P p0 ru_drafted ru_draft) (hq : P (F_X7_emit p0 ru_drafted ru_draft).1 (F_X7_emit p0 ru_drafted ru_draft).2 → Q (F_X7_emit p0 ru_drafted ru_draft).1 (F_X7_emit p0 ru_drafted ru_draft).2) : wp_X7_emit Q p0 ru_drafted ru_draft := dt_X7_emit h (fun o eo => by rw [eo]; exact hq)
noncomputable def j_X7_readPlainThing_38 {R : Type} (po : Int32 → Int32 → Int32 → Int32 → (Nat → Int32) → R) (tx_stop : Int32) (tx_signs : Nat → Int32) (x2 : Int32) (tx_place : Int32) (ru_drafted : Int32) (ru_wantsThing : Int32) (ru_draft : Nat → Int32) : R := po 1 tx_place ((F_X7_emit x2 ru_drafted ru_draft).1) 0 ((F_X7_emit x2 ru_drafted ru_draft).2)
noncomputable def F_X7_readPlainThing (tx_place : Int32) (tx_stop : Int32) (tx_signs : Nat → Int32) (ru_drafted : Int32) (ru_wantsThing : Int32) (ru_draft : Nat → Int32) : Int32 × Int32 × Int32 × Int32 × (Nat → Int32) := if (F_X8_readNumber 3 tx_place tx_stop tx_signs).1 = (-1) then (if 0 ≤ (lix (((F_X8_here (F_X8_readNumber 3 tx_place tx_stop tx_signs).2 tx_stop tx_signs).toUInt32 % 65536).toInt32)) then (j_X7_readPlainThing_38 (fun o0 o1 o2 o3 o4 => (o0, o1, o2, o3, o4)) tx_stop tx_signs (1000 + (lix (((F_X8_here (F_X8_readNumber 3 tx_place tx_stop tx_signs).2 tx_stop tx_signs).toUInt32 % 65536).toInt32))) (F_X8_skip (F_X8_readNumber 3 tx_place tx_stop tx_signs).2 tx_stop) ru_drafted ru_wantsThing ru_draft) else (0, (F_X8_readNumber 3 tx_place tx_stop tx_signs).2, ru_drafted, ru_wantsThing, ru_draft)) else (j_X7_readPlainThing_38 (fun o0 o1 o2 o3 o4 => (o0, o1, o2, o3, o4)) tx_stop tx_signs ((F_X8_readNumber 3 tx_place tx_stop tx_signs).1) ((F_X8_readNumber 3 tx_place tx_stop tx_signs).2) ru_drafted ru_wantsThing ru_draft)
set_option maxHeartbeats 200000 in
set_option maxRecDepth 10000 in
theorem dt_X7_readPlainThing {P Q : Int32 → Int32 → Int32 → Int32 → (Nat → Int32) → Prop} {tx_place : Int32} {tx_stop : Int32} {tx_signs : Nat → Int32} {ru_drafted : Int32} {ru_wantsThing : Int32} {ru_draft : Nat → Int32} (h : wp_X7_readPlainThing P tx_place tx_stop tx_signs ru_drafted ru_wantsThing ru_draft) (hq : ∀ o : Int32 × Int32 × Int32 × Int32 × (Nat → Int32), o = F_X7_readPlainThing tx_place tx_stop tx_signs ru_drafted ru_wantsThing ru_draft → P o.1 o.2.1 o.2.2.1 o.2.2.2.1 o.2.2.2.2 → Q o.1 o.2.1 o.2.2.1 o.2.2.2.1 o.2.2.2.2) : wp_X7_readPlainThing Q tx_place tx_stop tx_signs ru_drafted ru_wantsThing ru_draft := by
  rw [F_X7_readPlainThing] at hq
  refine du_X8_readNumber (by decide) h ?_
  intro h
  refine And.intro (fun c1 => ?_) (fun c1 => ?_)
  · have h := And.left h c1
    rw [if_neg c1] at hq
    rw [j_X7_readPlainThing_38] at hq
    unfold ws_X7_readPlainThing_38 at h ⊢
    refine du_X7_emit h ?_
    intro h
    have q9 := hq _ rfl
    dsimp only at q9
    exact q9 h
  · have h := And.right h c1
    rw [if_pos c1] at hq
    refine du_X8_here h ?_
    intro h
    refine ae ?_
    have h := h _ rfl
    refine ae ?_
    have h := h _ rfl
    refine And.intro (fun c2 => ?_) (fun c2 => ?_)
    · have h := And.left h c2
      rw [if_pos c2] at hq
      refine ae ?_
      have h := h _ rfl
      refine du_X8_skip h ?_
      intro h
      rw [j_X7_readPlainThing_38] at hq
      unfold ws_X7_readPlainThing_38 at h ⊢
      refine du_X7_emit h ?_
      intro h
      have q9 := hq _ rfl
      dsimp only at q9
      exact q9 h
    · have h := And.right h c2
      rw [if_neg c2] at hq
      have q9 := hq _ rfl
      dsimp only at q9
      exact q9 h
theorem du_X7_readPlainThing {P Q : Int32 → Int32 → Int32 → Int32 → (Nat → Int32) → Prop} {tx_place : Int32} {tx_stop : Int32} {tx_signs : Nat → Int32} {ru_drafted : Int32} {ru_wantsThing : Int32} {ru_draft : Nat → Int32} (h : wp_X7_readPlainThing P tx_place tx_stop tx_signs ru_drafted ru_wantsThing ru_draft) (hq : P (F_X7_readPlainThing tx_place tx_stop tx_signs ru_drafted ru_wantsThing ru_draft).1 (F_X7_readPlainThing tx_place tx_stop tx_signs ru_drafted ru_wantsThing ru_draft).2.1 (F_X7_readPlainThing tx_place tx_stop tx_signs ru_drafted ru_wantsThing ru_draft).2.2.1 (F_X7_readPlainThing tx_place tx_stop tx_signs ru_drafted ru_wantsThing ru_draft).2.2.2.1 (F_X7_readPlainThing tx_place tx_stop tx_signs ru_drafted ru_wantsThing ru_draft).2.2.2.2 → Q (F_X7_readPlainThing tx_place tx_stop tx_signs ru_drafted ru_wantsThing ru_draft).1 (F_X7_readPlainThing tx_place tx_stop tx_signs ru_drafted ru_wantsThing ru_draft).2.1 (F_X7_readPlainThing tx_place tx_stop tx_signs ru_drafted ru_wantsThing ru_draft).2.2.1 (F_X7_readPlainThing tx_place tx_stop tx_signs ru_drafted ru_wantsThing ru_draft).2.2.2.1 (F_X7_readPlainThing tx_place tx_stop tx_signs ru_drafted ru_wantsThing ru_draft).2.2.2.2) : wp_X7_readPlainThing Q tx_place tx_stop tx_signs ru_drafted ru_wantsThing ru_draft := dt_X7_readPlainThing h (fun o eo => by rw [eo]; exact hq)
noncomputable def j_X7_readThing_78 {R : Type} (po : Int32 → Int32 → Int32 → Int32 → Int32 → Int32 → Int32 → (Nat → Int32) → (Nat → Int32) → R) (tx_stop : Int32) (tx_signs : Nat → Int32) (tx_place : Int32) (ru_drafted : Int32) (ru_waits : Int32) (ru_open : Int32) (ru_compared : Int32) (ru_wantsThing : Int32) (ru_waiting : Nat → Int32) (ru_draft : Nat → Int32) : R := po 1 (F_X8_skip tx_place tx_stop) ru_drafted ru_waits ru_open ru_compared ru_wantsThing ru_waiting ru_draft
noncomputable def F_X7_readThing (tx_place : Int32) (tx_stop : Int32) (tx_signs : Nat → Int32) (ru_drafted : Int32) (ru_waits : Int32) (ru_open : Int32) (ru_compared : Int32) (ru_wantsThing : Int32) (ru_waiting : Nat → Int32) (ru_draft : Nat → Int32) : Int32 × Int32 × Int32 × Int32 × Int32 × Int32 × Int32 × (Nat → Int32) × (Nat → Int32) := if (F_X8_here tx_place tx_stop tx_signs) = 45 then (j_X7_readThing_78 (fun o0 o1 o2 o3 o4 o5 o6 o7 o8 => (o0, o1, o2, o3, o4, o5, o6, o7, o8)) tx_stop tx_signs tx_place ru_drafted ((F_X7_hold 256 ru_waits ru_waiting).1) ru_open ru_compared ru_wantsThing ((F_X7_hold 256 ru_waits ru_waiting).2) ru_draft) else (if (F_X8_here tx_place tx_stop tx_signs) = 40 then (if ru_open < 4 then (j_X7_readThing_78 (fun o0 o1 o2 o3 o4 o5 o6 o7 o8 => (o0, o1, o2, o3, o4, o5, o6, o7, o8)) tx_stop tx_signs tx_place ru_drafted ((F_X7_hold (F_X8_here tx_place tx_stop tx_signs) ru_waits ru_waiting).1) (ru_open + 1) (ru_compared &&& ((1 <<< ((ru_open + 1) &&& 31)) ^^^ (-1))) ru_wantsThing ((F_X7_hold (F_X8_here tx_place tx_stop tx_signs) ru_waits ru_waiting).2) ru_draft) else (0, tx_place, ru_drafted, ru_waits, ru_open, ru_compared, ru_wantsThing, ru_waiting, ru_draft)) else ((F_X7_readPlainThing tx_place tx_stop tx_signs ru_drafted ru_wantsThing ru_draft).1, (F_X7_readPlainThing tx_place tx_stop tx_signs ru_drafted ru_wantsThing ru_draft).2.1, (F_X7_readPlainThing tx_place tx_stop tx_signs ru_drafted ru_wantsThing ru_draft).2.2.1, ru_waits, ru_open, ru_compared, (F_X7_readPlainThing tx_place tx_stop tx_signs ru_drafted ru_wantsThing ru_draft).2.2.2.1, ru_waiting, (F_X7_readPlainThing tx_place tx_stop tx_signs ru_drafted ru_wantsThing ru_draft).2.2.2.2))
set_option maxHeartbeats 200000 in
set_option maxRecDepth 10000 in
theorem dt_X7_readThing {P Q : Int32 → Int32 → Int32 → Int32 → Int32 → Int32 → Int32 → (Nat → Int32) → (Nat → Int32) → Prop} {tx_place : Int32} {tx_stop : Int32} {tx_signs : Nat → Int32} {ru_drafted : Int32} {ru_waits : Int32} {ru_open : Int32} {ru_compared : Int32} {ru_wantsThing : Int32} {ru_waiting : Nat → Int32} {ru_draft : Nat → Int32} (h : wp_X7_readThing P tx_place tx_stop tx_signs ru_drafted ru_waits ru_open ru_compared ru_wantsThing ru_waiting ru_draft) (hq : ∀ o : Int32 × Int32 × Int32 × Int32 × Int32 × Int32 × Int32 × (Nat → Int32) × (Nat → Int32), o = F_X7_readThing tx_place tx_stop tx_signs ru_drafted ru_waits ru_open ru_compared ru_wantsThing ru_waiting ru_draft → P o.1 o.2.1 o.2.2.1 o.2.2.2.1 o.2.2.2.2.1 o.2.2.2.2.2.1 o.2.2.2.2.2.2.1 o.2.2.2.2.2.2.2.1 o.2.2.2.2.2.2.2.2 → Q o.1 o.2.1 o.2.2.1 o.2.2.2.1 o.2.2.2.2.1 o.2.2.2.2.2.1 o.2.2.2.2.2.2.1 o.2.2.2.2.2.2.2.1 o.2.2.2.2.2.2.2.2) : wp_X7_readThing Q tx_place tx_stop tx_signs ru_drafted ru_waits ru_open ru_compared ru_wantsThing ru_waiting ru_draft := by
  rw [F_X7_readThing] at hq
  refine du_X8_here h ?_
  intro h
  refine And.intro (fun c1 => ?_) (fun c1 => ?_)
  · have h := And.left h c1
    rw [if_neg c1] at hq
    refine And.intro (fun c2 => ?_) (fun c2 => ?_)
    · have h := And.left h c2
      rw [if_neg c2] at hq
      refine du_X7_readPlainThing h ?_
      intro h
      refine And.intro (And.left h) ?_
      have h := And.right h
      have q9 := hq _ rfl
      dsimp only at q9
      exact q9 h
    · have h := And.right h c2
      rw [if_pos c2] at hq
      refine And.intro (fun c3 => ?_) (fun c3 => ?_)
      · have h := And.left h c3
        rw [if_pos c3] at hq
        refine ae ?_
        have h := h _ rfl
        refine ae ?_
        have h := h _ rfl
        refine ae ?_
        have h := h _ rfl
        refine du_X7_hold h ?_
        intro h
        rw [j_X7_readThing_78] at hq
        unfold ws_X7_readThing_78 at h ⊢
        refine du_X8_skip h ?_
        intro h
        have q9 := hq _ rfl
        dsimp only at q9
        exact q9 h
      · have h := And.right h c3
        rw [if_neg c3] at hq
        have q9 := hq _ rfl
        dsimp only at q9
        exact q9 h
  · have h := And.right h c1
    rw [if_pos c1] at hq
    refine du_X7_hold h ?_
    intro h
    rw [j_X7_readThing_78] at hq
    unfold ws_X7_readThing_78 at h ⊢
    refine du_X8_skip h ?_
    intro h
    have q9 := hq _ rfl
    dsimp only at q9
    exact q9 h
theorem du_X7_readThing {P Q : Int32 → Int32 → Int32 → Int32 → Int32 → Int32 → Int32 → (Nat → Int32) → (Nat → Int32) → Prop} {tx_place : Int32} {tx_stop : Int32} {tx_signs : Nat → Int32} {ru_drafted : Int32} {ru_waits : Int32} {ru_open : Int32} {ru_compared : Int32} {ru_wantsThing : Int32} {ru_waiting : Nat → Int32} {ru_draft : Nat → Int32} (h : wp_X7_readThing P tx_place tx_stop tx_signs ru_drafted ru_waits ru_open ru_compared ru_wantsThing ru_waiting ru_draft) (hq : P (F_X7_readThing tx_place tx_stop tx_signs ru_drafted ru_waits ru_open ru_compared ru_wantsThing ru_waiting ru_draft).1 (F_X7_readThing tx_place tx_stop tx_signs ru_drafted ru_waits ru_open ru_compared ru_wantsThing ru_waiting ru_draft).2.1 (F_X7_readThing tx_place tx_stop tx_signs ru_drafted ru_waits ru_open ru_compared ru_wantsThing ru_waiting ru_draft).2.2.1 (F_X7_readThing tx_place tx_stop tx_signs ru_drafted ru_waits ru_open ru_compared ru_wantsThing ru_waiting ru_draft).2.2.2.1 (F_X7_readThing tx_place tx_stop tx_signs ru_drafted ru_waits ru_open ru_compared ru_wantsThing ru_waiting ru_draft).2.2.2.2.1 (F_X7_readThing tx_place tx_stop tx_signs ru_drafted ru_waits ru_open ru_compared ru_wantsThing ru_waiting ru_draft).2.2.2.2.2.1 (F_X7_readThing tx_place tx_stop tx_signs ru_drafted ru_waits ru_open ru_compared ru_wantsThing ru_waiting ru_draft).2.2.2.2.2.2.1 (F_X7_readThing tx_place tx_stop tx_signs ru_drafted ru_waits ru_open ru_compared ru_wantsThing ru_waiting ru_draft).2.2.2.2.2.2.2.1 (F_X7_readThing tx_place tx_stop tx_signs ru_drafted ru_waits ru_open ru_compared ru_wantsThing ru_waiting ru_draft).2.2.2.2.2.2.2.2 → Q (F_X7_readThing tx_place tx_stop tx_signs ru_drafted ru_waits ru_open ru_compared ru_wantsThing ru_waiting ru_draft).1 (F_X7_readThing tx_place tx_stop tx_signs ru_drafted ru_waits ru_open ru_compared ru_wantsThing ru_waiting ru_draft).2.1 (F_X7_readThing tx_place tx_stop tx_signs ru_drafted ru_waits ru_open ru_compared ru_wantsThing ru_waiting ru_draft).2.2.1 (F_X7_readThing tx_place tx_stop tx_signs ru_drafted ru_waits ru_open ru_compared ru_wantsThing ru_waiting ru_draft).2.2.2.1 (F_X7_readThing tx_place tx_stop tx_signs ru_drafted ru_waits ru_open ru_compared ru_wantsThing ru_waiting ru_draft).2.2.2.2.1 (F_X7_readThing tx_place tx_stop tx_signs ru_drafted ru_waits ru_open ru_compared ru_wantsThing ru_waiting ru_draft).2.2.2.2.2.1 (F_X7_readThing tx_place tx_stop tx_signs ru_drafted ru_waits ru_open ru_compared ru_wantsThing ru_waiting ru_draft).2.2.2.2.2.2.1 (F_X7_readThing tx_place tx_stop tx_signs ru_drafted ru_waits ru_open ru_compared ru_wantsThing ru_waiting ru_draft).2.2.2.2.2.2.2.1 (F_X7_readThing tx_place tx_stop tx_signs ru_drafted ru_waits ru_open ru_compared ru_wantsThing ru_waiting ru_draft).2.2.2.2.2.2.2.2) : wp_X7_readThing Q tx_place tx_stop tx_signs ru_drafted ru_waits ru_open ru_compared ru_wantsThing ru_waiting ru_draft := dt_X7_readThing h (fun o eo => by rw [eo]; exact hq)
noncomputable def F_X7_strength (p0 : Int32) : Int32 := if p0 = 42 then 3 else (if p0 = 43 then 2 else (if p0 = 45 then 2 else (if p0 = 47 then 3 else (if p0 = 60 then 1 else (if p0 = 61 then 1 else (if p0 = 62 then 1 else (if p0 = 256 then 4 else 0)))))))
set_option maxHeartbeats 200000 in
set_option maxRecDepth 10000 in
theorem dt_X7_strength {P Q : Int32 → Prop} {p0 : Int32} (h : wp_X7_strength P p0) (hq : ∀ o : Int32, o = F_X7_strength p0 → P o → Q o) : wp_X7_strength Q p0 := by
  rw [F_X7_strength] at hq
  refine (And.intro (fun c1 => ?_) (And.intro (fun c2 => ?_) (And.intro (fun c3 => ?_) (And.intro (fun c4 => ?_) (And.intro (fun c5 => ?_) (And.intro (fun c6 => ?_) (And.intro (fun c7 => ?_) (And.intro (fun c8 => ?_) (fun c1 c2 c3 c4 c5 c6 c7 c8 => ?_)))))))))
  · have h := And.left h c1
    rw [if_pos c1] at hq
    have q9 := hq _ rfl
    exact q9 h
  · have h := And.left (And.right h) c2
    rw [if_neg (fun e9 => absurd (e9.symm.trans c2) (by decide)), if_pos c2] at hq
    have q9 := hq _ rfl
    exact q9 h
  · have h := And.left (And.right (And.right h)) c3
    rw [if_neg (fun e9 => absurd (e9.symm.trans c3) (by decide)), if_neg (fun e9 => absurd (e9.symm.trans c3) (by decide)), if_pos c3] at hq
    have q9 := hq _ rfl
    exact q9 h
  · have h := And.left (And.right (And.right (And.right h))) c4
    rw [if_neg (fun e9 => absurd (e9.symm.trans c4) (by decide)), if_neg (fun e9 => absurd (e9.symm.trans c4) (by decide)), if_neg (fun e9 => absurd (e9.symm.trans c4) (by decide)), if_pos c4] at hq
    have q9 := hq _ rfl
    exact q9 h
  · have h := And.left (And.right (And.right (And.right (And.right h)))) c5
    rw [if_neg (fun e9 => absurd (e9.symm.trans c5) (by decide)), if_neg (fun e9 => absurd (e9.symm.trans c5) (by decide)), if_neg (fun e9 => absurd (e9.symm.trans c5) (by decide)), if_neg (fun e9 => absurd (e9.symm.trans c5) (by decide)), if_pos c5] at hq
    have q9 := hq _ rfl
    exact q9 h
  · have h := And.left (And.right (And.right (And.right (And.right (And.right h))))) c6
    rw [if_neg (fun e9 => absurd (e9.symm.trans c6) (by decide)), if_neg (fun e9 => absurd (e9.symm.trans c6) (by decide)), if_neg (fun e9 => absurd (e9.symm.trans c6) (by decide)), if_neg (fun e9 => absurd (e9.symm.trans c6) (by decide)), if_neg (fun e9 => absurd (e9.symm.trans c6) (by decide)), if_pos c6] at hq
    have q9 := hq _ rfl
    exact q9 h
  · have h := And.left (And.right (And.right (And.right (And.right (And.right (And.right h)))))) c7
    rw [if_neg (fun e9 => absurd (e9.symm.trans c7) (by decide)), if_neg (fun e9 => absurd (e9.symm.trans c7) (by decide)), if_neg (fun e9 => absurd (e9.symm.trans c7) (by decide)), if_neg (fun e9 => absurd (e9.symm.trans c7) (by decide)), if_neg (fun e9 => absurd (e9.symm.trans c7) (by decide)), if_neg (fun e9 => absurd (e9.symm.trans c7) (by decide)), if_pos c7] at hq
    have q9 := hq _ rfl
    exact q9 h
  · have h := And.left (And.right (And.right (And.right (And.right (And.right (And.right (And.right h))))))) c8
    rw [if_neg (fun e9 => absurd (e9.symm.trans c8) (by decide)), if_neg (fun e9 => absurd (e9.symm.trans c8) (by decide)), if_neg (fun e9 => absurd (e9.symm.trans c8) (by decide)), if_neg (fun e9 => absurd (e9.symm.trans c8) (by decide)), if_neg (fun e9 => absurd (e9.symm.trans c8) (by decide)), if_neg (fun e9 => absurd (e9.symm.trans c8) (by decide)), if_neg (fun e9 => absurd (e9.symm.trans c8) (by decide)), if_pos c8] at hq
    have q9 := hq _ rfl
    exact q9 h
  · have h := And.right (And.right (And.right (And.right (And.right (And.right (And.right (And.right h))))))) c1 c2 c3 c4 c5 c6 c7 c8
    rw [if_neg c1, if_neg c2, if_neg c3, if_neg c4, if_neg c5, if_neg c6, if_neg c7, if_neg c8] at hq
    have q9 := hq _ rfl
    exact q9 h
theorem du_X7_strength {P Q : Int32 → Prop} {p0 : Int32} (h : wp_X7_strength P p0) (hq : P (F_X7_strength p0) → Q (F_X7_strength p0)) : wp_X7_strength Q p0 := dt_X7_strength h (fun o eo => by rw [eo]; exact hq)
noncomputable def F_X3_allFruits (tr_fruits : Int32) : Int32 := ((1 <<< (tr_fruits &&& 31)) - 1)
set_option maxHeartbeats 200000 in
set_option maxRecDepth 10000 in
theorem dt_X3_allFruits {P Q : Int32 → Prop} {tr_fruits : Int32} (h : wp_X3_allFruits P tr_fruits) (hq : ∀ o : Int32, o = F_X3_allFruits tr_fruits → P o → Q o) : wp_X3_allFruits Q tr_fruits := by
  rw [F_X3_allFruits] at hq
  refine ae ?_
  have h := h _ rfl
  have q9 := hq _ rfl
  exact q9 h
theorem du_X3_allFruits {P Q : Int32 → Prop} {tr_fruits : Int32} (h : wp_X3_allFruits P tr_fruits) (hq : P (F_X3_allFruits tr_fruits) → Q (F_X3_allFruits tr_fruits)) : wp_X3_allFruits Q tr_fruits := dt_X3_allFruits h (fun o eo => by rw [eo]; exact hq)
noncomputable def F_X0_hanging (tr_fruits : Int32) (no_apron : Int32) (no_basket : Int32) (no_ground : Int32) : Int32 := ((F_X3_allFruits tr_fruits) &&& (((no_apron ||| no_basket) ||| no_ground) ^^^ (-1)))
set_option maxHeartbeats 200000 in
set_option maxRecDepth 10000 in
theorem dt_X0_hanging {P Q : Int32 → Prop} {tr_fruits : Int32} {no_apron : Int32} {no_basket : Int32} {no_ground : Int32} (h : wp_X0_hanging P tr_fruits no_apron no_basket no_ground) (hq : ∀ o : Int32, o = F_X0_hanging tr_fruits no_apron no_basket no_ground → P o → Q o) : wp_X0_hanging Q tr_fruits no_apron no_basket no_ground := by
  rw [F_X0_hanging] at hq
  refine du_X3_allFruits h ?_
  intro h
  refine ae ?_
  have h := h _ rfl
  refine ae ?_
  have h := h _ rfl
  have q9 := hq _ rfl
  exact q9 h
theorem du_X0_hanging {P Q : Int32 → Prop} {tr_fruits : Int32} {no_apron : Int32} {no_basket : Int32} {no_ground : Int32} (h : wp_X0_hanging P tr_fruits no_apron no_basket no_ground) (hq : P (F_X0_hanging tr_fruits no_apron no_basket no_ground) → Q (F_X0_hanging tr_fruits no_apron no_basket no_ground)) : wp_X0_hanging Q tr_fruits no_apron no_basket no_ground := dt_X0_hanging h (fun o eo => by rw [eo]; exact hq)
noncomputable def j_X3_lowerThan_89 {R : Type} (k15 : Int32 → Int32 → Int32 → Int32 → R) (tr_fruits : Int32) (tr_x : Nat → Int32) (tr_height : Nat → Int32) (x1 : Int32) (x2 : Int32) (x3 : Int32) (x4 : Int32) : R := k15 x1 x2 x3 (x4 + 1)
noncomputable def j_X3_lowerThan_66 {R : Type} (k15 : Int32 → Int32 → Int32 → Int32 → R) (tr_fruits : Int32) (tr_x : Nat → Int32) (tr_height : Nat → Int32) (x1 : Int32) (x2 : Int32) (x3 : Int32) (x4 : Int32) (k0 : Int32) : R := if k0 = 0 then (j_X3_lowerThan_89 k15 tr_fruits tr_x tr_height x1 x2 x3 x4) else (if ((x2 >>> (x4 &&& 31)) &&& 1) = 0 then (j_X3_lowerThan_89 k15 tr_fruits tr_x tr_height x1 x2 x3 x4) else (j_X3_lowerThan_89 k15 tr_fruits tr_x tr_height x1 x2 (x3 ||| (1 <<< (x4 &&& 31))) x4))
noncomputable def j_X3_lowerThan_65 {R : Type} (k15 : Int32 → Int32 → Int32 → Int32 → R) (tr_fruits : Int32) (tr_x : Nat → Int32) (tr_height : Nat → Int32) (x1 : Int32) (x2 : Int32) (x3 : Int32) (x4 : Int32) : R := j_X3_lowerThan_66 k15 tr_fruits tr_x tr_height x1 x2 x3 x4 0
noncomputable def bd_X3_lowerThan_15 (tr_fruits : Int32) (tr_x : Nat → Int32) (tr_height : Nat → Int32) (x1 : Int32) (x2 : Int32) (c : Int32) (s : Int32) : Int32 := if 1 < (if 0 ≤ ((tr_x c.toNatClampNeg) - (tr_x x1.toNatClampNeg)) then ((tr_x c.toNatClampNeg) - (tr_x x1.toNatClampNeg)) else 0 - ((tr_x c.toNatClampNeg) - (tr_x x1.toNatClampNeg))) then (j_X3_lowerThan_65 (fun q0 q1 q2 q3 => q2) tr_fruits tr_x tr_height x1 x2 s c) else (if (tr_height x1.toNatClampNeg) ≤ (tr_height c.toNatClampNeg) then (j_X3_lowerThan_65 (fun q0 q1 q2 q3 => q2) tr_fruits tr_x tr_height x1 x2 s c) else (j_X3_lowerThan_66 (fun q0 q1 q2 q3 => q2) tr_fruits tr_x tr_height x1 x2 s c 1))
noncomputable def ex_X3_lowerThan_15 {R : Type} (po : Int32 → R) (tr_fruits : Int32) (tr_x : Nat → Int32) (tr_height : Nat → Int32) (x1 : Int32) (x2 : Int32) (c : Int32) (s : Int32) : R := po s
set_option maxHeartbeats 200000 in
set_option maxRecDepth 10000 in
theorem dl_X3_lowerThan_15 {P Q : Int32 → Prop} {tr_fruits : Int32} {tr_x : Nat → Int32} {tr_height : Nat → Int32} {x1 : Int32} {x2 : Int32} {a : Int32} {i : Nat} (hi0 : i < 2147483648) (hE : ∀ (c : Int32) (s : Int32), c = nI (i + (Int32.toInt tr_fruits - ((i : Nat) : Int)).toNat) → s = itr (bd_X3_lowerThan_15 tr_fruits tr_x tr_height x1 x2) a i (Int32.toInt tr_fruits - ((i : Nat) : Int)).toNat → (P s) → (Q s)) : ∀ (n k : Nat) (c : Int32), c = nI (i + k) → k ≤ (Int32.toInt tr_fruits - ((i : Nat) : Int)).toNat → wb_X3_lowerThan_15 P tr_fruits tr_x tr_height n x1 x2 (itr (bd_X3_lowerThan_15 tr_fruits tr_x tr_height x1 x2) a i k) c → wb_X3_lowerThan_15 Q tr_fruits tr_x tr_height n x1 x2 (itr (bd_X3_lowerThan_15 tr_fruits tr_x tr_height x1 x2) a i k) c := by
  intro n
  induction n with
  | zero => intro k c hc hk h; exact False.elim h
  | succ n ih =>
    intro k c hc hk h
    have hr := tp_r tr_fruits
    have hi : Int32.toInt c = ((i + k : Nat) : Int) := by rw [hc]; exact nI_toInt (by omega)
    refine And.intro (fun t0 => ?_) (fun t0 => ?_)
    · have h := And.left h t0
      have t1 := (fa_le _ _).mp t0
      have hk2 : k = (Int32.toInt tr_fruits - ((i : Nat) : Int)).toNat := by omega
      subst hk2
      exact hE _ _ hc rfl h
    · have h := And.right h t0
      have t1 := mt (fa_le _ _).mpr t0
      have hs : ∀ o : Int32, o = itr (bd_X3_lowerThan_15 tr_fruits tr_x tr_height x1 x2) a i (k + 1) → wb_X3_lowerThan_15 P tr_fruits tr_x tr_height n x1 x2 o (c + 1) → wb_X3_lowerThan_15 Q tr_fruits tr_x tr_height n x1 x2 o (c + 1) := by
        intro o eo h9
        have q := ih (k + 1) (c + 1) (by rw [hc]; exact nI_1 _) (by omega)
        rw [← eo] at q
        exact q h9
      rw [itr_s, ← hc, bd_X3_lowerThan_15] at hs
      refine And.intro (And.left h) ?_
      have h := And.right h
      refine ae ?_
      have h := h _ rfl
      refine And.intro (And.left h) ?_
      have h := And.right h
      refine ae ?_
      have h := h _ rfl
      refine ae ?_
      have h := h _ rfl
      refine And.intro (fun c1 => ?_) (fun c1 => ?_)
      · have h := And.left h c1
        rw [if_pos c1] at hs
        rw [j_X3_lowerThan_65] at hs
        unfold ws_X3_lowerThan_65 at h ⊢
        rw [j_X3_lowerThan_66] at hs
        unfold ws_X3_lowerThan_66 at h ⊢
        refine And.intro (fun c2 => ?_) (fun c2 => ?_)
        · have h := And.left h c2
          rw [if_pos c2] at hs
          rw [j_X3_lowerThan_89] at hs
          unfold ws_X3_lowerThan_89 at h ⊢
          refine ae ?_
          have h := h _ rfl
          have q9 := hs _ rfl
          exact q9 h
        · have h := And.right h c2
          rw [if_neg c2] at hs
          refine ae ?_
          have h := h _ rfl
          refine And.intro (fun c3 => ?_) (fun c3 => ?_)
          · have h := And.left h c3
            rw [if_pos c3] at hs
            rw [j_X3_lowerThan_89] at hs
            unfold ws_X3_lowerThan_89 at h ⊢
            refine ae ?_
            have h := h _ rfl
            have q9 := hs _ rfl
            exact q9 h
          · have h := And.right h c3
            rw [if_neg c3] at hs
            refine ae ?_
            have h := h _ rfl
            rw [j_X3_lowerThan_89] at hs
            unfold ws_X3_lowerThan_89 at h ⊢
            refine ae ?_
            have h := h _ rfl
            have q9 := hs _ rfl
            exact q9 h
      · have h := And.right h c1
        rw [if_neg c1] at hs
        refine And.intro (And.left h) ?_
        have h := And.right h
        refine ae ?_
        have h := h _ rfl
        refine And.intro (And.left h) ?_
        have h := And.right h
        refine And.intro (fun c4 => ?_) (fun c4 => ?_)
        · have h := And.left h c4
          rw [if_pos c4] at hs
          rw [j_X3_lowerThan_65] at hs
          unfold ws_X3_lowerThan_65 at h ⊢
          rw [j_X3_lowerThan_66] at hs
          unfold ws_X3_lowerThan_66 at h ⊢
          refine And.intro (fun c5 => ?_) (fun c5 => ?_)
          · have h := And.left h c5
            rw [if_pos c5] at hs
            rw [j_X3_lowerThan_89] at hs
            unfold ws_X3_lowerThan_89 at h ⊢
            refine ae ?_
            have h := h _ rfl
            have q9 := hs _ rfl
            exact q9 h
          · have h := And.right h c5
            rw [if_neg c5] at hs
            refine ae ?_
            have h := h _ rfl
            refine And.intro (fun c6 => ?_) (fun c6 => ?_)
            · have h := And.left h c6
              rw [if_pos c6] at hs
              rw [j_X3_lowerThan_89] at hs
              unfold ws_X3_lowerThan_89 at h ⊢
              refine ae ?_
              have h := h _ rfl
              have q9 := hs _ rfl
              exact q9 h
            · have h := And.right h c6
              rw [if_neg c6] at hs
              refine ae ?_
              have h := h _ rfl
              rw [j_X3_lowerThan_89] at hs
              unfold ws_X3_lowerThan_89 at h ⊢
              refine ae ?_
              have h := h _ rfl
              have q9 := hs _ rfl
              exact q9 h
        · have h := And.right h c4
          rw [if_neg c4] at hs
          rw [j_X3_lowerThan_66] at hs
          unfold ws_X3_lowerThan_66 at h ⊢
          refine And.intro (fun c7 => ?_) (fun c7 => ?_)
          · have h := And.left h c7
            rw [if_pos c7] at hs
            rw [j_X3_lowerThan_89] at hs
            unfold ws_X3_lowerThan_89 at h ⊢
            refine ae ?_
            have h := h _ rfl
            have q9 := hs _ rfl
            exact q9 h
          · have h := And.right h c7
            rw [if_neg c7] at hs
            refine ae ?_
            have h := h _ rfl
            refine And.intro (fun c8 => ?_) (fun c8 => ?_)
            · have h := And.left h c8
              rw [if_pos c8] at hs
              rw [j_X3_lowerThan_89] at hs
              unfold ws_X3_lowerThan_89 at h ⊢
              refine ae ?_
              have h := h _ rfl
              have q9 := hs _ rfl
              exact q9 h
            · have h := And.right h c8
              rw [if_neg c8] at hs
              refine ae ?_
              have h := h _ rfl
              rw [j_X3_lowerThan_89] at hs
              unfold ws_X3_lowerThan_89 at h ⊢
              refine ae ?_
              have h := h _ rfl
              have q9 := hs _ rfl
              exact q9 h
noncomputable def F_X3_lowerThan (p0 : Int32) (p1 : Int32) (tr_fruits : Int32) (tr_x : Nat → Int32) (tr_height : Nat → Int32) : Int32 := if ((p1 >>> (p0 &&& 31)) &&& 1) = 0 then 0 else (ex_X3_lowerThan_15 (fun o0 => o0) tr_fruits tr_x tr_height p0 p1 (nI (0 + (Int32.toInt tr_fruits - ((0 : Nat) : Int)).toNat)) (itr (bd_X3_lowerThan_15 tr_fruits tr_x tr_height p0 p1) 0 0 (Int32.toInt tr_fruits - ((0 : Nat) : Int)).toNat))
set_option maxHeartbeats 200000 in
set_option maxRecDepth 10000 in
theorem dt_X3_lowerThan {P Q : Int32 → Prop} {p0 : Int32} {p1 : Int32} {tr_fruits : Int32} {tr_x : Nat → Int32} {tr_height : Nat → Int32} (h : wp_X3_lowerThan P p0 p1 tr_fruits tr_x tr_height) (hq : ∀ o : Int32, o = F_X3_lowerThan p0 p1 tr_fruits tr_x tr_height → P o → Q o) : wp_X3_lowerThan Q p0 p1 tr_fruits tr_x tr_height := by
  rw [F_X3_lowerThan] at hq
  refine ae ?_
  have h := h _ rfl
  refine And.intro (fun c1 => ?_) (fun c1 => ?_)
  · have h := And.left h c1
    rw [if_neg c1] at hq
    obtain ⟨n2, h⟩ := h
    refine ⟨n2, dl_X3_lowerThan_15 (a := 0) (i := 0) (by decide) ?_ n2 0 0 (by decide) (Nat.zero_le _) h⟩
    intro cc3 s4 ec5 es6 h
    rw [← ec5, ← es6, ex_X3_lowerThan_15] at hq
    have q9 := hq _ rfl
    exact q9 h
  · have h := And.right h c1
    rw [if_pos c1] at hq
    have q9 := hq _ rfl
    exact q9 h
theorem du_X3_lowerThan {P Q : Int32 → Prop} {p0 : Int32} {p1 : Int32} {tr_fruits : Int32} {tr_x : Nat → Int32} {tr_height : Nat → Int32} (h : wp_X3_lowerThan P p0 p1 tr_fruits tr_x tr_height) (hq : P (F_X3_lowerThan p0 p1 tr_fruits tr_x tr_height) → Q (F_X3_lowerThan p0 p1 tr_fruits tr_x tr_height)) : wp_X3_lowerThan Q p0 p1 tr_fruits tr_x tr_height := dt_X3_lowerThan h (fun o eo => by rw [eo]; exact hq)
noncomputable def F_X2_whereIs (p0 : Int32) (no_apron : Int32) (no_basket : Int32) (no_ground : Int32) : Int32 := ((((no_apron >>> (p0 &&& 31)) &&& 1) + (2 * ((no_basket >>> (p0 &&& 31)) &&& 1))) + (3 * ((no_ground >>> (p0 &&& 31)) &&& 1)))
set_option maxHeartbeats 200000 in
set_option maxRecDepth 10000 in
theorem dt_X2_whereIs {P Q : Int32 → Prop} {p0 : Int32} {no_apron : Int32} {no_basket : Int32} {no_ground : Int32} (h : wp_X2_whereIs P p0 no_apron no_basket no_ground) (hq : ∀ o : Int32, o = F_X2_whereIs p0 no_apron no_basket no_ground → P o → Q o) : wp_X2_whereIs Q p0 no_apron no_basket no_ground := by
  rw [F_X2_whereIs] at hq
  refine ae ?_
  have h := h _ rfl
  refine ae ?_
  have h := h _ rfl
  refine ae ?_
  have h := h _ rfl
  refine ae ?_
  have h := h _ rfl
  refine ae ?_
  have h := h _ rfl
  have q9 := hq _ rfl
  exact q9 h
theorem du_X2_whereIs {P Q : Int32 → Prop} {p0 : Int32} {no_apron : Int32} {no_basket : Int32} {no_ground : Int32} (h : wp_X2_whereIs P p0 no_apron no_basket no_ground) (hq : P (F_X2_whereIs p0 no_apron no_basket no_ground) → Q (F_X2_whereIs p0 no_apron no_basket no_ground)) : wp_X2_whereIs Q p0 no_apron no_basket no_ground := dt_X2_whereIs h (fun o eo => by rw [eo]; exact hq)
noncomputable def F_X9_fruit (p0 : Int32) (p1 : Int32) (tr_fruits : Int32) (tr_x : Nat → Int32) (tr_height : Nat → Int32) (tr_worth : Nat → Int32) (tr_ripe : Nat → Int32) (no_apron : Int32) (no_basket : Int32) (no_ground : Int32) (no_bruised : Int32) : Option Int32 := if (F_X3_hasFruit p0 tr_fruits) = 0 then none else (if p1 = 0 then (some (tr_x p0.toNatClampNeg)) else (if p1 = 1 then (some (tr_height p0.toNatClampNeg)) else (if p1 = 2 then (some (tr_worth p0.toNatClampNeg)) else (if p1 = 3 then (some (tr_ripe p0.toNatClampNeg)) else (if p1 = 4 then (some (F_X2_whereIs p0 no_apron no_basket no_ground)) else (if p1 = 5 then (some ((no_bruised >>> (p0 &&& 31)) &&& 1)) else (if p1 = 6 then (some (F_X3_lowerThan p0 (F_X0_hanging tr_fruits no_apron no_basket no_ground) tr_fruits tr_x tr_height)) else none)))))))
set_option maxHeartbeats 200000 in
set_option maxRecDepth 10000 in
theorem dt_X9_fruit {P Q : Int32 → Prop} {Px Qx : Prop} {p0 : Int32} {p1 : Int32} {tr_fruits : Int32} {tr_x : Nat → Int32} {tr_height : Nat → Int32} {tr_worth : Nat → Int32} {tr_ripe : Nat → Int32} {no_apron : Int32} {no_basket : Int32} {no_ground : Int32} {no_bruised : Int32} (h : wp_X9_fruit P Px p0 p1 tr_fruits tr_x tr_height tr_worth tr_ripe no_apron no_basket no_ground no_bruised) (hq : ∀ o : Option Int32, o = F_X9_fruit p0 p1 tr_fruits tr_x tr_height tr_worth tr_ripe no_apron no_basket no_ground no_bruised → Option.elim o Px P → Option.elim o Qx Q) : wp_X9_fruit Q Qx p0 p1 tr_fruits tr_x tr_height tr_worth tr_ripe no_apron no_basket no_ground no_bruised := by
  rw [F_X9_fruit] at hq
  refine du_X3_hasFruit h ?_
  intro h
  refine And.intro (fun c1 => ?_) (fun c1 => ?_)
  · have h := And.left h c1
    rw [if_neg c1] at hq
    refine (And.intro (fun c2 => ?_) (And.intro (fun c3 => ?_) (And.intro (fun c4 => ?_) (And.intro (fun c5 => ?_) (And.intro (fun c6 => ?_) (And.intro (fun c7 => ?_) (And.intro (fun c8 => ?_) (fun c2 c3 c4 c5 c6 c7 c8 => ?_))))))))
    · have h := And.left h c2
      rw [if_pos c2] at hq
      refine And.intro (And.left h) ?_
      have h := And.right h
      have q9 := hq _ rfl
      exact q9 h
    · have h := And.left (And.right h) c3
      rw [if_neg (fun e9 => absurd (e9.symm.trans c3) (by decide)), if_pos c3] at hq
      refine And.intro (And.left h) ?_
      have h := And.right h
      have q9 := hq _ rfl
      exact q9 h
    · have h := And.left (And.right (And.right h)) c4
      rw [if_neg (fun e9 => absurd (e9.symm.trans c4) (by decide)), if_neg (fun e9 => absurd (e9.symm.trans c4) (by decide)), if_pos c4] at hq
      refine And.intro (And.left h) ?_
      have h := And.right h
      have q9 := hq _ rfl
      exact q9 h
    · have h := And.left (And.right (And.right (And.right h))) c5
      rw [if_neg (fun e9 => absurd (e9.symm.trans c5) (by decide)), if_neg (fun e9 => absurd (e9.symm.trans c5) (by decide)), if_neg (fun e9 => absurd (e9.symm.trans c5) (by decide)), if_pos c5] at hq
      refine And.intro (And.left h) ?_
      have h := And.right h
      have q9 := hq _ rfl
      exact q9 h
    · have h := And.left (And.right (And.right (And.right (And.right h)))) c6
      rw [if_neg (fun e9 => absurd (e9.symm.trans c6) (by decide)), if_neg (fun e9 => absurd (e9.symm.trans c6) (by decide)), if_neg (fun e9 => absurd (e9.symm.trans c6) (by decide)), if_neg (fun e9 => absurd (e9.symm.trans c6) (by decide)), if_pos c6] at hq
      refine du_X2_whereIs h ?_
      intro h
      have q9 := hq _ rfl
      exact q9 h
    · have h := And.left (And.right (And.right (And.right (And.right (And.right h))))) c7
      rw [if_neg (fun e9 => absurd (e9.symm.trans c7) (by decide)), if_neg (fun e9 => absurd (e9.symm.trans c7) (by decide)), if_neg (fun e9 => absurd (e9.symm.trans c7) (by decide)), if_neg (fun e9 => absurd (e9.symm.trans c7) (by decide)), if_neg (fun e9 => absurd (e9.symm.trans c7) (by decide)), if_pos c7] at hq
      refine ae ?_
      have h := h _ rfl
      have q9 := hq _ rfl
      exact q9 h
    · have h := And.left (And.right (And.right (And.right (And.right (And.right (And.right h)))))) c8
      rw [if_neg (fun e9 => absurd (e9.symm.trans c8) (by decide)), if_neg (fun e9 => absurd (e9.symm.trans c8) (by decide)), if_neg (fun e9 => absurd (e9.symm.trans c8) (by decide)), if_neg (fun e9 => absurd (e9.symm.trans c8) (by decide)), if_neg (fun e9 => absurd (e9.symm.trans c8) (by decide)), if_neg (fun e9 => absurd (e9.symm.trans c8) (by decide)), if_pos c8] at hq
      refine du_X0_hanging h ?_
      intro h
      refine du_X3_lowerThan h ?_
      intro h
      have q9 := hq _ rfl
      exact q9 h
    · have h := And.right (And.right (And.right (And.right (And.right (And.right (And.right h)))))) c2 c3 c4 c5 c6 c7 c8
      rw [if_neg c2, if_neg c3, if_neg c4, if_neg c5, if_neg c6, if_neg c7, if_neg c8] at hq
      have q9 := hq _ rfl
      exact q9 h
  · have h := And.right h c1
    rw [if_pos c1] at hq
    have q9 := hq _ rfl
    exact q9 h
noncomputable def F_X2_write (p1 : Int32) (no_apron : Int32) (no_basket : Int32) (no_ground : Int32) (no_bruised : Int32) (no_ladder : Int32) (no_helper : Int32) (no_today : Int32) (no_clock : Int32) (pa_cells : Nat → Int32) : (Nat → Int32) := if p1 < 0 then pa_cells else (if p1 ≤ (104 - 8) then (upd (upd (upd (upd (upd (upd (upd (upd pa_cells p1.toNatClampNeg no_apron) (p1 + 1).toNatClampNeg no_basket) (p1 + 2).toNatClampNeg no_ground) (p1 + 3).toNatClampNeg no_bruised) (p1 + 4).toNatClampNeg no_ladder) (p1 + 5).toNatClampNeg no_helper) (p1 + 6).toNatClampNeg no_today) (p1 + 7).toNatClampNeg no_clock) else pa_cells)
set_option maxHeartbeats 200000 in
set_option maxRecDepth 10000 in
theorem dt_X2_write {P Q : (Nat → Int32) → Prop} {p1 : Int32} {no_apron : Int32} {no_basket : Int32} {no_ground : Int32} {no_bruised : Int32} {no_ladder : Int32} {no_helper : Int32} {no_today : Int32} {no_clock : Int32} {pa_cells : Nat → Int32} (h : wp_X2_write P p1 no_apron no_basket no_ground no_bruised no_ladder no_helper no_today no_clock pa_cells) (hq : ∀ o : (Nat → Int32), o = F_X2_write p1 no_apron no_basket no_ground no_bruised no_ladder no_helper no_today no_clock pa_cells → P o → Q o) : wp_X2_write Q p1 no_apron no_basket no_ground no_bruised no_ladder no_helper no_today no_clock pa_cells := by
  rw [F_X2_write] at hq
  refine And.intro (fun c1 => ?_) (fun c1 => ?_)
  · have h := And.left h c1
    rw [if_pos c1] at hq
    have q9 := hq _ rfl
    exact q9 h
  · have h := And.right h c1
    rw [if_neg c1] at hq
    refine And.intro (fun c2 => ?_) (fun c2 => ?_)
    · have h := And.left h c2
      rw [if_pos c2] at hq
      refine And.intro (And.left h) ?_
      have h := And.right h
      refine ae ?_
      have h := h _ rfl
      refine And.intro (And.left h) ?_
      have h := And.right h
      refine ae ?_
      have h := h _ rfl
      refine And.intro (And.left h) ?_
      have h := And.right h
      refine ae ?_
      have h := h _ rfl
      refine And.intro (And.left h) ?_
      have h := And.right h
      refine ae ?_
      have h := h _ rfl
      refine And.intro (And.left h) ?_
      have h := And.right h
      refine ae ?_
      have h := h _ rfl
      refine And.intro (And.left h) ?_
      have h := And.right h
      refine ae ?_
      have h := h _ rfl
      refine And.intro (And.left h) ?_
      have h := And.right h
      refine ae ?_
      have h := h _ rfl
      refine And.intro (And.left h) ?_
      have h := And.right h
      have q9 := hq _ rfl
      exact q9 h
    · have h := And.right h c2
      rw [if_neg c2] at hq
      have q9 := hq _ rfl
      exact q9 h
theorem du_X2_write {P Q : (Nat → Int32) → Prop} {p1 : Int32} {no_apron : Int32} {no_basket : Int32} {no_ground : Int32} {no_bruised : Int32} {no_ladder : Int32} {no_helper : Int32} {no_today : Int32} {no_clock : Int32} {pa_cells : Nat → Int32} (h : wp_X2_write P p1 no_apron no_basket no_ground no_bruised no_ladder no_helper no_today no_clock pa_cells) (hq : P (F_X2_write p1 no_apron no_basket no_ground no_bruised no_ladder no_helper no_today no_clock pa_cells) → Q (F_X2_write p1 no_apron no_basket no_ground no_bruised no_ladder no_helper no_today no_clock pa_cells)) : wp_X2_write Q p1 no_apron no_basket no_ground no_bruised no_ladder no_helper no_today no_clock pa_cells := dt_X2_write h (fun o eo => by rw [eo]; exact hq)
noncomputable def F_X4_note (no_apron : Int32) (no_basket : Int32) (no_ground : Int32) (no_bruised : Int32) (no_ladder : Int32) (no_helper : Int32) (no_today : Int32) (no_clock : Int32) (pa_free : Int32) (pa_cells : Nat → Int32) : (Nat → Int32) := (F_X2_write (pa_free * 8) no_apron no_basket no_ground no_bruised no_ladder no_helper no_today no_clock pa_cells)
set_option maxHeartbeats 200000 in
set_option maxRecDepth 10000 in
theorem dt_X4_note {P Q : (Nat → Int32) → Prop} {no_apron : Int32} {no_basket : Int32} {no_ground : Int32} {no_bruised : Int32} {no_ladder : Int32} {no_helper : Int32} {no_today : Int32} {no_clock : Int32} {pa_free : Int32} {pa_cells : Nat → Int32} (h : wp_X4_note P no_apron no_basket no_ground no_bruised no_ladder no_helper no_today no_clock pa_free pa_cells) (hq : ∀ o : (Nat → Int32), o = F_X4_note no_apron no_basket no_ground no_bruised no_ladder no_helper no_today no_clock pa_free pa_cells → P o → Q o) : wp_X4_note Q no_apron no_basket no_ground no_bruised no_ladder no_helper no_today no_clock pa_free pa_cells := by
  rw [F_X4_note] at hq
  refine ae ?_
  have h := h _ rfl
  refine du_X2_write h ?_
  intro h
  have q9 := hq _ rfl
  exact q9 h
theorem du_X4_note {P Q : (Nat → Int32) → Prop} {no_apron : Int32} {no_basket : Int32} {no_ground : Int32} {no_bruised : Int32} {no_ladder : Int32} {no_helper : Int32} {no_today : Int32} {no_clock : Int32} {pa_free : Int32} {pa_cells : Nat → Int32} (h : wp_X4_note P no_apron no_basket no_ground no_bruised no_ladder no_helper no_today no_clock pa_free pa_cells) (hq : P (F_X4_note no_apron no_basket no_ground no_bruised no_ladder no_helper no_today no_clock pa_free pa_cells) → Q (F_X4_note no_apron no_basket no_ground no_bruised no_ladder no_helper no_today no_clock pa_free pa_cells)) : wp_X4_note Q no_apron no_basket no_ground no_bruised no_ladder no_helper no_today no_clock pa_free pa_cells := dt_X4_note h (fun o eo => by rw [eo]; exact hq)
noncomputable def F_X3_moveSeconds (p0 : Int32) (p1 : Int32) (tr_foot : Nat → Int32) (tr_settings : Nat → Int32) : Int32 := if p0 = (-1) then 9 else (9 + ((tr_settings (3 : Int32).toNatClampNeg) * (if 0 ≤ ((tr_foot p0.toNatClampNeg) - (tr_foot p1.toNatClampNeg)) then ((tr_foot p0.toNatClampNeg) - (tr_foot p1.toNatClampNeg)) else 0 - ((tr_foot p0.toNatClampNeg) - (tr_foot p1.toNatClampNeg)))))
set_option maxHeartbeats 200000 in
set_option maxRecDepth 10000 in
theorem dt_X3_moveSeconds {P Q : Int32 → Prop} {p0 : Int32} {p1 : Int32} {tr_foot : Nat → Int32} {tr_settings : Nat → Int32} (h : wp_X3_moveSeconds P p0 p1 tr_foot tr_settings) (hq : ∀ o : Int32, o = F_X3_moveSeconds p0 p1 tr_foot tr_settings → P o → Q o) : wp_X3_moveSeconds Q p0 p1 tr_foot tr_settings := by
  rw [F_X3_moveSeconds] at hq
  refine And.intro (fun c1 => ?_) (fun c1 => ?_)
  · have h := And.left h c1
    rw [if_neg c1] at hq
    refine ae ?_
    have h := h _ rfl
    refine And.intro (And.left h) ?_
    have h := And.right h
    refine ae ?_
    have h := h _ rfl
    refine And.intro (And.left h) ?_
    have h := And.right h
    refine ae ?_
    have h := h _ rfl
    refine ae ?_
    have h := h _ rfl
    have q9 := hq _ rfl
    exact q9 h
  · have h := And.right h c1
    rw [if_pos c1] at hq
    have q9 := hq _ rfl
    exact q9 h
theorem du_X3_moveSeconds {P Q : Int32 → Prop} {p0 : Int32} {p1 : Int32} {tr_foot : Nat → Int32} {tr_settings : Nat → Int32} (h : wp_X3_moveSeconds P p0 p1 tr_foot tr_settings) (hq : P (F_X3_moveSeconds p0 p1 tr_foot tr_settings) → Q (F_X3_moveSeconds p0 p1 tr_foot tr_settings)) : wp_X3_moveSeconds Q p0 p1 tr_foot tr_settings := dt_X3_moveSeconds h (fun o eo => by rw [eo]; exact hq)
noncomputable def F_X2_emptyApron (no_apron : Int32) (no_basket : Int32) : Int32 × Int32 := (0, (no_basket ||| no_apron))
set_option maxHeartbeats 200000 in
set_option maxRecDepth 10000 in
theorem dt_X2_emptyApron {P Q : Int32 → Int32 → Prop} {no_apron : Int32} {no_basket : Int32} (h : wp_X2_emptyApron P no_apron no_basket) (hq : ∀ o : Int32 × Int32, o = F_X2_emptyApron no_apron no_basket → P o.1 o.2 → Q o.1 o.2) : wp_X2_emptyApron Q no_apron no_basket := by
  rw [F_X2_emptyApron] at hq
  refine ae ?_
  have h := h _ rfl
  have q9 := hq _ rfl
  dsimp only at q9
  exact q9 h
theorem du_X2_emptyApron {P Q : Int32 → Int32 → Prop} {no_apron : Int32} {no_basket : Int32} (h : wp_X2_emptyApron P no_apron no_basket) (hq : P (F_X2_emptyApron no_apron no_basket).1 (F_X2_emptyApron no_apron no_basket).2 → Q (F_X2_emptyApron no_apron no_basket).1 (F_X2_emptyApron no_apron no_basket).2) : wp_X2_emptyApron Q no_apron no_basket := dt_X2_emptyApron h (fun o eo => by rw [eo]; exact hq)
noncomputable def F_X2_spend (p0 : Int32) (no_clock : Int32) : Int32 := (if (no_clock + p0) < 9999 then (no_clock + p0) else 9999)
set_option maxHeartbeats 200000 in
set_option maxRecDepth 10000 in
theorem dt_X2_spend {P Q : Int32 → Prop} {p0 : Int32} {no_clock : Int32} (h : wp_X2_spend P p0 no_clock) (hq : ∀ o : Int32, o = F_X2_spend p0 no_clock → P o → Q o) : wp_X2_spend Q p0 no_clock := by
  rw [F_X2_spend] at hq
  refine ae ?_
  have h := h _ rfl
  refine ae ?_
  have h := h _ rfl
  have q9 := hq _ rfl
  exact q9 h
theorem du_X2_spend {P Q : Int32 → Prop} {p0 : Int32} {no_clock : Int32} (h : wp_X2_spend P p0 no_clock) (hq : P (F_X2_spend p0 no_clock) → Q (F_X2_spend p0 no_clock)) : wp_X2_spend Q p0 no_clock := dt_X2_spend h (fun o eo => by rw [eo]; exact hq)
noncomputable def j_X0_setLadder_81 {R : Type} (po : Int32 → Int32 → Int32 → Int32 → Int32 → R) (tr_standings : Int32) (tr_foot : Nat → Int32) (tr_fork : Nat → Int32) (tr_settings : Nat → Int32) (x1 : Int32) (x2 : Int32) (no_apron : Int32) (no_basket : Int32) (no_ladder : Int32) (no_clock : Int32) : R := po x2 ((F_X2_emptyApron no_apron no_basket).1) ((F_X2_emptyApron no_apron no_basket).2) x1 (F_X2_spend x2 no_clock)
noncomputable def F_X0_setLadder (p0 : Int32) (tr_standings : Int32) (tr_foot : Nat → Int32) (tr_fork : Nat → Int32) (tr_settings : Nat → Int32) (no_apron : Int32) (no_basket : Int32) (no_ladder : Int32) (no_clock : Int32) : Int32 × Int32 × Int32 × Int32 × Int32 := if (F_X3_hasStanding p0 tr_standings) = 0 then ((-1), no_apron, no_basket, no_ladder, no_clock) else (if p0 = no_ladder then ((-2), no_apron, no_basket, no_ladder, no_clock) else (if no_apron = 0 then (j_X0_setLadder_81 (fun o0 o1 o2 o3 o4 => (o0, o1, o2, o3, o4)) tr_standings tr_foot tr_fork tr_settings p0 (F_X3_moveSeconds no_ladder p0 tr_foot tr_settings) no_apron no_basket no_ladder no_clock) else (if no_ladder = (-1) then (j_X0_setLadder_81 (fun o0 o1 o2 o3 o4 => (o0, o1, o2, o3, o4)) tr_standings tr_foot tr_fork tr_settings p0 (F_X3_moveSeconds no_ladder p0 tr_foot tr_settings) no_apron no_basket no_ladder no_clock) else (j_X0_setLadder_81 (fun o0 o1 o2 o3 o4 => (o0, o1, o2, o3, o4)) tr_standings tr_foot tr_fork tr_settings p0 ((F_X3_moveSeconds no_ladder p0 tr_foot tr_settings) + (F_X3_downSeconds no_ladder tr_fork)) no_apron no_basket no_ladder no_clock))))
set_option maxHeartbeats 200000 in
set_option maxRecDepth 10000 in
theorem dt_X0_setLadder {P Q : Int32 → Int32 → Int32 → Int32 → Int32 → Prop} {p0 : Int32} {tr_standings : Int32} {tr_foot : Nat → Int32} {tr_fork : Nat → Int32} {tr_settings : Nat → Int32} {no_apron : Int32} {no_basket : Int32} {no_ladder : Int32} {no_clock : Int32} (h : wp_X0_setLadder P p0 tr_standings tr_foot tr_fork tr_settings no_apron no_basket no_ladder no_clock) (hq : ∀ o : Int32 × Int32 × Int32 × Int32 × Int32, o = F_X0_setLadder p0 tr_standings tr_foot tr_fork tr_settings no_apron no_basket no_ladder no_clock → P o.1 o.2.1 o.2.2.1 o.2.2.2.1 o.2.2.2.2 → Q o.1 o.2.1 o.2.2.1 o.2.2.2.1 o.2.2.2.2) : wp_X0_setLadder Q p0 tr_standings tr_foot tr_fork tr_settings no_apron no_basket no_ladder no_clock := by
  rw [F_X0_setLadder] at hq
  refine du_X3_hasStanding h ?_
  intro h
  refine And.intro (fun c1 => ?_) (fun c1 => ?_)
  · have h := And.left h c1
    rw [if_neg c1] at hq
    refine And.intro (fun c2 => ?_) (fun c2 => ?_)
    · have h := And.left h c2
      rw [if_neg c2] at hq
      refine du_X3_moveSeconds h ?_
      intro h
      refine And.intro (fun c3 => ?_) (fun c3 => ?_)
      · have h := And.left h c3
        rw [if_pos c3] at hq
        rw [j_X0_setLadder_81] at hq
        unfold ws_X0_setLadder_81 at h ⊢
        refine du_X2_emptyApron h ?_
        intro h
        refine du_X2_spend h ?_
        intro h
        have q9 := hq _ rfl
        dsimp only at q9
        exact q9 h
      · have h := And.right h c3
        rw [if_neg c3] at hq
        refine And.intro (fun c4 => ?_) (fun c4 => ?_)
        · have h := And.left h c4
          rw [if_pos c4] at hq
          rw [j_X0_setLadder_81] at hq
          unfold ws_X0_setLadder_81 at h ⊢
          refine du_X2_emptyApron h ?_
          intro h
          refine du_X2_spend h ?_
          intro h
          have q9 := hq _ rfl
          dsimp only at q9
          exact q9 h
        · have h := And.right h c4
          rw [if_neg c4] at hq
          refine du_X3_downSeconds h ?_
          intro h
          refine ae ?_
          have h := h _ rfl
          rw [j_X0_setLadder_81] at hq
          unfold ws_X0_setLadder_81 at h ⊢
          refine du_X2_emptyApron h ?_
          intro h
          refine du_X2_spend h ?_
          intro h
          have q9 := hq _ rfl
          dsimp only at q9
          exact q9 h
    · have h := And.right h c2
      rw [if_pos c2] at hq
      have q9 := hq _ rfl
      dsimp only at q9
      exact q9 h
  · have h := And.right h c1
    rw [if_pos c1] at hq
    have q9 := hq _ rfl
    dsimp only at q9
    exact q9 h
theorem du_X0_setLadder {P Q : Int32 → Int32 → Int32 → Int32 → Int32 → Prop} {p0 : Int32} {tr_standings : Int32} {tr_foot : Nat → Int32} {tr_fork : Nat → Int32} {tr_settings : Nat → Int32} {no_apron : Int32} {no_basket : Int32} {no_ladder : Int32} {no_clock : Int32} (h : wp_X0_setLadder P p0 tr_standings tr_foot tr_fork tr_settings no_apron no_basket no_ladder no_clock) (hq : P (F_X0_setLadder p0 tr_standings tr_foot tr_fork tr_settings no_apron no_basket no_ladder no_clock).1 (F_X0_setLadder p0 tr_standings tr_foot tr_fork tr_settings no_apron no_basket no_ladder no_clock).2.1 (F_X0_setLadder p0 tr_standings tr_foot tr_fork tr_settings no_apron no_basket no_ladder no_clock).2.2.1 (F_X0_setLadder p0 tr_standings tr_foot tr_fork tr_settings no_apron no_basket no_ladder no_clock).2.2.2.1 (F_X0_setLadder p0 tr_standings tr_foot tr_fork tr_settings no_apron no_basket no_ladder no_clock).2.2.2.2 → Q (F_X0_setLadder p0 tr_standings tr_foot tr_fork tr_settings no_apron no_basket no_ladder no_clock).1 (F_X0_setLadder p0 tr_standings tr_foot tr_fork tr_settings no_apron no_basket no_ladder no_clock).2.1 (F_X0_setLadder p0 tr_standings tr_foot tr_fork tr_settings no_apron no_basket no_ladder no_clock).2.2.1 (F_X0_setLadder p0 tr_standings tr_foot tr_fork tr_settings no_apron no_basket no_ladder no_clock).2.2.2.1 (F_X0_setLadder p0 tr_standings tr_foot tr_fork tr_settings no_apron no_basket no_ladder no_clock).2.2.2.2) : wp_X0_setLadder Q p0 tr_standings tr_foot tr_fork tr_settings no_apron no_basket no_ladder no_clock := dt_X0_setLadder h (fun o eo => by rw [eo]; exact hq)
noncomputable def F_X4_hold (pa_undoable : Int32) (pa_free : Int32) : Int32 × Int32 := ((if (pa_undoable + 1) < 12 then (pa_undoable + 1) else 12), ((pa_free + 1) - (pa_free + 1) / 13 * 13))
set_option maxHeartbeats 200000 in
set_option maxRecDepth 10000 in
theorem dt_X4_hold {P Q : Int32 → Int32 → Prop} {pa_undoable : Int32} {pa_free : Int32} (h : wp_X4_hold P pa_undoable pa_free) (hq : ∀ o : Int32 × Int32, o = F_X4_hold pa_undoable pa_free → P o.1 o.2 → Q o.1 o.2) : wp_X4_hold Q pa_undoable pa_free := by
  rw [F_X4_hold] at hq
  refine ae ?_
  have h := h _ rfl
  refine ae ?_
  have h := h _ rfl
  refine ae ?_
  have h := h _ rfl
  refine ae ?_
  have h := h _ rfl
  have q9 := hq _ rfl
  dsimp only at q9
  exact q9 h
theorem du_X4_hold {P Q : Int32 → Int32 → Prop} {pa_undoable : Int32} {pa_free : Int32} (h : wp_X4_hold P pa_undoable pa_free) (hq : P (F_X4_hold pa_undoable pa_free).1 (F_X4_hold pa_undoable pa_free).2 → Q (F_X4_hold pa_undoable pa_free).1 (F_X4_hold pa_undoable pa_free).2) : wp_X4_hold Q pa_undoable pa_free := dt_X4_hold h (fun o eo => by rw [eo]; exact hq)
noncomputable def F_X9_holdIfDone (p0 : Int32) (pa_undoable : Int32) (pa_free : Int32) : Int32 × Int32 × Int32 := if p0 < 0 then (p0, pa_undoable, pa_free) else (p0, (F_X4_hold pa_undoable pa_free).1, (F_X4_hold pa_undoable pa_free).2)
set_option maxHeartbeats 200000 in
set_option maxRecDepth 10000 in
theorem dt_X9_holdIfDone {P Q : Int32 → Int32 → Int32 → Prop} {p0 : Int32} {pa_undoable : Int32} {pa_free : Int32} (h : wp_X9_holdIfDone P p0 pa_undoable pa_free) (hq : ∀ o : Int32 × Int32 × Int32, o = F_X9_holdIfDone p0 pa_undoable pa_free → P o.1 o.2.1 o.2.2 → Q o.1 o.2.1 o.2.2) : wp_X9_holdIfDone Q p0 pa_undoable pa_free := by
  rw [F_X9_holdIfDone] at hq
  refine And.intro (fun c1 => ?_) (fun c1 => ?_)
  · have h := And.left h c1
    rw [if_pos c1] at hq
    have q9 := hq _ rfl
    dsimp only at q9
    exact q9 h
  · have h := And.right h c1
    rw [if_neg c1] at hq
    refine du_X4_hold h ?_
    intro h
    have q9 := hq _ rfl
    dsimp only at q9
    exact q9 h
theorem du_X9_holdIfDone {P Q : Int32 → Int32 → Int32 → Prop} {p0 : Int32} {pa_undoable : Int32} {pa_free : Int32} (h : wp_X9_holdIfDone P p0 pa_undoable pa_free) (hq : P (F_X9_holdIfDone p0 pa_undoable pa_free).1 (F_X9_holdIfDone p0 pa_undoable pa_free).2.1 (F_X9_holdIfDone p0 pa_undoable pa_free).2.2 → Q (F_X9_holdIfDone p0 pa_undoable pa_free).1 (F_X9_holdIfDone p0 pa_undoable pa_free).2.1 (F_X9_holdIfDone p0 pa_undoable pa_free).2.2) : wp_X9_holdIfDone Q p0 pa_undoable pa_free := dt_X9_holdIfDone h (fun o eo => by rw [eo]; exact hq)
theorem dw_X9_holdIfDone {Q : Int32 → Int32 → Int32 → Prop} {p0 : Int32} {pa_undoable : Int32} {pa_free : Int32} (h : wp_X9_holdIfDone (fun o0 o1 o2 => (o0, o1, o2) = F_X9_holdIfDone p0 pa_undoable pa_free → Q o0 o1 o2) p0 pa_undoable pa_free) : wp_X9_holdIfDone Q p0 pa_undoable pa_free := dt_X9_holdIfDone h (fun o eo hp => hp eo)
noncomputable def F_X9_move (p0 : Int32) (tr_standings : Int32) (tr_foot : Nat → Int32) (tr_fork : Nat → Int32) (tr_settings : Nat → Int32) (no_apron : Int32) (no_basket : Int32) (no_ground : Int32) (no_bruised : Int32) (no_ladder : Int32) (no_helper : Int32) (no_today : Int32) (no_clock : Int32) (pa_undoable : Int32) (pa_free : Int32) (pa_cells : Nat → Int32) : Int32 × Int32 × Int32 × Int32 × Int32 × Int32 × Int32 × (Nat → Int32) := ((F_X9_holdIfDone (F_X0_setLadder p0 tr_standings tr_foot tr_fork tr_settings no_apron no_basket no_ladder no_clock).1 pa_undoable pa_free).1, (F_X0_setLadder p0 tr_standings tr_foot tr_fork tr_settings no_apron no_basket no_ladder no_clock).2.1, (F_X0_setLadder p0 tr_standings tr_foot tr_fork tr_settings no_apron no_basket no_ladder no_clock).2.2.1, (F_X0_setLadder p0 tr_standings tr_foot tr_fork tr_settings no_apron no_basket no_ladder no_clock).2.2.2.1, (F_X0_setLadder p0 tr_standings tr_foot tr_fork tr_settings no_apron no_basket no_ladder no_clock).2.2.2.2, (F_X9_holdIfDone (F_X0_setLadder p0 tr_standings tr_foot tr_fork tr_settings no_apron no_basket no_ladder no_clock).1 pa_undoable pa_free).2.1, (F_X9_holdIfDone (F_X0_setLadder p0 tr_standings tr_foot tr_fork tr_settings no_apron no_basket no_ladder no_clock).1 pa_undoable pa_free).2.2, (F_X4_note no_apron no_basket no_ground no_bruised no_ladder no_helper no_today no_clock pa_free pa_cells))
set_option maxHeartbeats 200000 in
set_option maxRecDepth 10000 in
theorem dt_X9_move {P Q : Int32 → Int32 → Int32 → Int32 → Int32 → Int32 → Int32 → (Nat → Int32) → Prop} {p0 : Int32} {tr_standings : Int32} {tr_foot : Nat → Int32} {tr_fork : Nat → Int32} {tr_settings : Nat → Int32} {no_apron : Int32} {no_basket : Int32} {no_ground : Int32} {no_bruised : Int32} {no_ladder : Int32} {no_helper : Int32} {no_today : Int32} {no_clock : Int32} {pa_undoable : Int32} {pa_free : Int32} {pa_cells : Nat → Int32} (h : wp_X9_move P p0 tr_standings tr_foot tr_fork tr_settings no_apron no_basket no_ground no_bruised no_ladder no_helper no_today no_clock pa_undoable pa_free pa_cells) (hq : ∀ o : Int32 × Int32 × Int32 × Int32 × Int32 × Int32 × Int32 × (Nat → Int32), o = F_X9_move p0 tr_standings tr_foot tr_fork tr_settings no_apron no_basket no_ground no_bruised no_ladder no_helper no_today no_clock pa_undoable pa_free pa_cells → P o.1 o.2.1 o.2.2.1 o.2.2.2.1 o.2.2.2.2.1 o.2.2.2.2.2.1 o.2.2.2.2.2.2.1 o.2.2.2.2.2.2.2 → Q o.1 o.2.1 o.2.2.1 o.2.2.2.1 o.2.2.2.2.1 o.2.2.2.2.2.1 o.2.2.2.2.2.2.1 o.2.2.2.2.2.2.2) : wp_X9_move Q p0 tr_standings tr_foot tr_fork tr_settings no_apron no_basket no_ground no_bruised no_ladder no_helper no_today no_clock pa_undoable pa_free pa_cells := by
  rw [F_X9_move] at hq
  refine du_X4_note h ?_
  intro h
  refine du_X0_setLadder h ?_
  intro h
  refine du_X9_holdIfDone h ?_
  intro h
  have q9 := hq _ rfl
  dsimp only at q9
  exact q9 h
theorem du_X9_move {P Q : Int32 → Int32 → Int32 → Int32 → Int32 → Int32 → Int32 → (Nat → Int32) → Prop} {p0 : Int32} {tr_standings : Int32} {tr_foot : Nat → Int32} {tr_fork : Nat → Int32} {tr_settings : Nat → Int32} {no_apron : Int32} {no_basket : Int32} {no_ground : Int32} {no_bruised : Int32} {no_ladder : Int32} {no_helper : Int32} {no_today : Int32} {no_clock : Int32} {pa_undoable : Int32} {pa_free : Int32} {pa_cells : Nat → Int32} (h : wp_X9_move P p0 tr_standings tr_foot tr_fork tr_settings no_apron no_basket no_ground no_bruised no_ladder no_helper no_today no_clock pa_undoable pa_free pa_cells) (hq : P (F_X9_move p0 tr_standings tr_foot tr_fork tr_settings no_apron no_basket no_ground no_bruised no_ladder no_helper no_today no_clock pa_undoable pa_free pa_cells).1 (F_X9_move p0 tr_standings tr_foot tr_fork tr_settings no_apron no_basket no_ground no_bruised no_ladder no_helper no_today no_clock pa_undoable pa_free pa_cells).2.1 (F_X9_move p0 tr_standings tr_foot tr_fork tr_settings no_apron no_basket no_ground no_bruised no_ladder no_helper no_today no_clock pa_undoable pa_free pa_cells).2.2.1 (F_X9_move p0 tr_standings tr_foot tr_fork tr_settings no_apron no_basket no_ground no_bruised no_ladder no_helper no_today no_clock pa_undoable pa_free pa_cells).2.2.2.1 (F_X9_move p0 tr_standings tr_foot tr_fork tr_settings no_apron no_basket no_ground no_bruised no_ladder no_helper no_today no_clock pa_undoable pa_free pa_cells).2.2.2.2.1 (F_X9_move p0 tr_standings tr_foot tr_fork tr_settings no_apron no_basket no_ground no_bruised no_ladder no_helper no_today no_clock pa_undoable pa_free pa_cells).2.2.2.2.2.1 (F_X9_move p0 tr_standings tr_foot tr_fork tr_settings no_apron no_basket no_ground no_bruised no_ladder no_helper no_today no_clock pa_undoable pa_free pa_cells).2.2.2.2.2.2.1 (F_X9_move p0 tr_standings tr_foot tr_fork tr_settings no_apron no_basket no_ground no_bruised no_ladder no_helper no_today no_clock pa_undoable pa_free pa_cells).2.2.2.2.2.2.2 → Q (F_X9_move p0 tr_standings tr_foot tr_fork tr_settings no_apron no_basket no_ground no_bruised no_ladder no_helper no_today no_clock pa_undoable pa_free pa_cells).1 (F_X9_move p0 tr_standings tr_foot tr_fork tr_settings no_apron no_basket no_ground no_bruised no_ladder no_helper no_today no_clock pa_undoable pa_free pa_cells).2.1 (F_X9_move p0 tr_standings tr_foot tr_fork tr_settings no_apron no_basket no_ground no_bruised no_ladder no_helper no_today no_clock pa_undoable pa_free pa_cells).2.2.1 (F_X9_move p0 tr_standings tr_foot tr_fork tr_settings no_apron no_basket no_ground no_bruised no_ladder no_helper no_today no_clock pa_undoable pa_free pa_cells).2.2.2.1 (F_X9_move p0 tr_standings tr_foot tr_fork tr_settings no_apron no_basket no_ground no_bruised no_ladder no_helper no_today no_clock pa_undoable pa_free pa_cells).2.2.2.2.1 (F_X9_move p0 tr_standings tr_foot tr_fork tr_settings no_apron no_basket no_ground no_bruised no_ladder no_helper no_today no_clock pa_undoable pa_free pa_cells).2.2.2.2.2.1 (F_X9_move p0 tr_standings tr_foot tr_fork tr_settings no_apron no_basket no_ground no_bruised no_ladder no_helper no_today no_clock pa_undoable pa_free pa_cells).2.2.2.2.2.2.1 (F_X9_move p0 tr_standings tr_foot tr_fork tr_settings no_apron no_basket no_ground no_bruised no_ladder no_helper no_today no_clock pa_undoable pa_free pa_cells).2.2.2.2.2.2.2) : wp_X9_move Q p0 tr_standings tr_foot tr_fork tr_settings no_apron no_basket no_ground no_bruised no_ladder no_helper no_today no_clock pa_undoable pa_free pa_cells := dt_X9_move h (fun o eo => by rw [eo]; exact hq)
theorem dw_X9_move {Q : Int32 → Int32 → Int32 → Int32 → Int32 → Int32 → Int32 → (Nat → Int32) → Prop} {p0 : Int32} {tr_standings : Int32} {tr_foot : Nat → Int32} {tr_fork : Nat → Int32} {tr_settings : Nat → Int32} {no_apron : Int32} {no_basket : Int32} {no_ground : Int32} {no_bruised : Int32} {no_ladder : Int32} {no_helper : Int32} {no_today : Int32} {no_clock : Int32} {pa_undoable : Int32} {pa_free : Int32} {pa_cells : Nat → Int32} (h : wp_X9_move (fun o0 o1 o2 o3 o4 o5 o6 o7 => (o0, o1, o2, o3, o4, o5, o6, o7) = F_X9_move p0 tr_standings tr_foot tr_fork tr_settings no_apron no_basket no_ground no_bruised no_ladder no_helper no_today no_clock pa_undoable pa_free pa_cells → Q o0 o1 o2 o3 o4 o5 o6 o7) p0 tr_standings tr_foot tr_fork tr_settings no_apron no_basket no_ground no_bruised no_ladder no_helper no_today no_clock pa_undoable pa_free pa_cells) : wp_X9_move Q p0 tr_standings tr_foot tr_fork tr_settings no_apron no_basket no_ground no_bruised no_ladder no_helper no_today no_clock pa_undoable pa_free pa_cells := dt_X9_move h (fun o eo hp => hp eo)
noncomputable def j_X9_isYesOrNo_9 {R : Type} (po : Int32 → R) : R := po 1
noncomputable def F_X9_isYesOrNo (p0 : Int32) : Int32 := if p0 = 0 then (j_X9_isYesOrNo_9 (fun o0 => o0)) else (if p0 = 1 then (j_X9_isYesOrNo_9 (fun o0 => o0)) else 0)
set_option maxHeartbeats 200000 in
set_option maxRecDepth 10000 in
theorem dt_X9_isYesOrNo {P Q : Int32 → Prop} {p0 : Int32} (h : wp_X9_isYesOrNo P p0) (hq : ∀ o : Int32, o = F_X9_isYesOrNo p0 → P o → Q o) : wp_X9_isYesOrNo Q p0 := by
  rw [F_X9_isYesOrNo] at hq
  refine And.intro (fun c1 => ?_) (fun c1 => ?_)
  · have h := And.left h c1
    rw [if_pos c1] at hq
    rw [j_X9_isYesOrNo_9] at hq
    unfold ws_X9_isYesOrNo_9 at h ⊢
    have q9 := hq _ rfl
    exact q9 h
  · have h := And.right h c1
    rw [if_neg c1] at hq
    refine And.intro (fun c2 => ?_) (fun c2 => ?_)
    · have h := And.left h c2
      rw [if_neg c2] at hq
      have q9 := hq _ rfl
      exact q9 h
    · have h := And.right h c2
      rw [if_pos c2] at hq
      rw [j_X9_isYesOrNo_9] at hq
      unfold ws_X9_isYesOrNo_9 at h ⊢
      have q9 := hq _ rfl
      exact q9 h
theorem du_X9_isYesOrNo {P Q : Int32 → Prop} {p0 : Int32} (h : wp_X9_isYesOrNo P p0) (hq : P (F_X9_isYesOrNo p0) → Q (F_X9_isYesOrNo p0)) : wp_X9_isYesOrNo Q p0 := dt_X9_isYesOrNo h (fun o eo => by rw [eo]; exact hq)
theorem dw_X9_isYesOrNo {Q : Int32 → Prop} {p0 : Int32} (h : wp_X9_isYesOrNo (fun o0 => o0 = F_X9_isYesOrNo p0 → Q o0) p0) : wp_X9_isYesOrNo Q p0 := dt_X9_isYesOrNo h (fun o eo hp => hp eo)
noncomputable def F_X0_setHelper (p0 : Int32) (no_helper : Int32) : Int32 × Int32 := if (F_X9_isYesOrNo p0) = 0 then ((-1), no_helper) else (no_helper, p0)
set_option maxHeartbeats 200000 in
set_option maxRecDepth 10000 in
theorem dt_X0_setHelper {P Q : Int32 → Int32 → Prop} {p0 : Int32} {no_helper : Int32} (h : wp_X0_setHelper P p0 no_helper) (hq : ∀ o : Int32 × Int32, o = F_X0_setHelper p0 no_helper → P o.1 o.2 → Q o.1 o.2) : wp_X0_setHelper Q p0 no_helper := by
  rw [F_X0_setHelper] at hq
  refine du_X9_isYesOrNo h ?_
  intro h
  refine And.intro (fun c1 => ?_) (fun c1 => ?_)
  · have h := And.left h c1
    rw [if_neg c1] at hq
    have q9 := hq _ rfl
    dsimp only at q9
    exact q9 h
  · have h := And.right h c1
    rw [if_pos c1] at hq
    have q9 := hq _ rfl
    dsimp only at q9
    exact q9 h
theorem du_X0_setHelper {P Q : Int32 → Int32 → Prop} {p0 : Int32} {no_helper : Int32} (h : wp_X0_setHelper P p0 no_helper) (hq : P (F_X0_setHelper p0 no_helper).1 (F_X0_setHelper p0 no_helper).2 → Q (F_X0_setHelper p0 no_helper).1 (F_X0_setHelper p0 no_helper).2) : wp_X0_setHelper Q p0 no_helper := dt_X0_setHelper h (fun o eo => by rw [eo]; exact hq)
noncomputable def F_X9_foot (p0 : Int32) (no_apron : Int32) (no_basket : Int32) (no_ground : Int32) (no_bruised : Int32) (no_ladder : Int32) (no_helper : Int32) (no_today : Int32) (no_clock : Int32) (pa_undoable : Int32) (pa_free : Int32) (pa_cells : Nat → Int32) : Int32 × Int32 × Int32 × Int32 × (Nat → Int32) := ((F_X9_holdIfDone (F_X0_setHelper p0 no_helper).1 pa_undoable pa_free).1, (F_X0_setHelper p0 no_helper).2, (F_X9_holdIfDone (F_X0_setHelper p0 no_helper).1 pa_undoable pa_free).2.1, (F_X9_holdIfDone (F_X0_setHelper p0 no_helper).1 pa_undoable pa_free).2.2, (F_X4_note no_apron no_basket no_ground no_bruised no_ladder no_helper no_today no_clock pa_free pa_cells))
set_option maxHeartbeats 200000 in
set_option maxRecDepth 10000 in
theorem dt_X9_foot {P Q : Int32 → Int32 → Int32 → Int32 → (Nat → Int32) → Prop} {p0 : Int32} {no_apron : Int32} {no_basket : Int32} {no_ground : Int32} {no_bruised : Int32} {no_ladder : Int32} {no_helper : Int32} {no_today : Int32} {no_clock : Int32} {pa_undoable : Int32} {pa_free : Int32} {pa_cells : Nat → Int32} (h : wp_X9_foot P p0 no_apron no_basket no_ground no_bruised no_ladder no_helper no_today no_clock pa_undoable pa_free pa_cells) (hq : ∀ o : Int32 × Int32 × Int32 × Int32 × (Nat → Int32), o = F_X9_foot p0 no_apron no_basket no_ground no_bruised no_ladder no_helper no_today no_clock pa_undoable pa_free pa_cells → P o.1 o.2.1 o.2.2.1 o.2.2.2.1 o.2.2.2.2 → Q o.1 o.2.1 o.2.2.1 o.2.2.2.1 o.2.2.2.2) : wp_X9_foot Q p0 no_apron no_basket no_ground no_bruised no_ladder no_helper no_today no_clock pa_undoable pa_free pa_cells := by
  rw [F_X9_foot] at hq
  refine du_X4_note h ?_
  intro h
  refine du_X0_setHelper h ?_
  intro h
  refine du_X9_holdIfDone h ?_
  intro h
  have q9 := hq _ rfl
  dsimp only at q9
  exact q9 h
theorem du_X9_foot {P Q : Int32 → Int32 → Int32 → Int32 → (Nat → Int32) → Prop} {p0 : Int32} {no_apron : Int32} {no_basket : Int32} {no_ground : Int32} {no_bruised : Int32} {no_ladder : Int32} {no_helper : Int32} {no_today : Int32} {no_clock : Int32} {pa_undoable : Int32} {pa_free : Int32} {pa_cells : Nat → Int32} (h : wp_X9_foot P p0 no_apron no_basket no_ground no_bruised no_ladder no_helper no_today no_clock pa_undoable pa_free pa_cells) (hq : P (F_X9_foot p0 no_apron no_basket no_ground no_bruised no_ladder no_helper no_today no_clock pa_undoable pa_free pa_cells).1 (F_X9_foot p0 no_apron no_basket no_ground no_bruised no_ladder no_helper no_today no_clock pa_undoable pa_free pa_cells).2.1 (F_X9_foot p0 no_apron no_basket no_ground no_bruised no_ladder no_helper no_today no_clock pa_undoable pa_free pa_cells).2.2.1 (F_X9_foot p0 no_apron no_basket no_ground no_bruised no_ladder no_helper no_today no_clock pa_undoable pa_free pa_cells).2.2.2.1 (F_X9_foot p0 no_apron no_basket no_ground no_bruised no_ladder no_helper no_today no_clock pa_undoable pa_free pa_cells).2.2.2.2 → Q (F_X9_foot p0 no_apron no_basket no_ground no_bruised no_ladder no_helper no_today no_clock pa_undoable pa_free pa_cells).1 (F_X9_foot p0 no_apron no_basket no_ground no_bruised no_ladder no_helper no_today no_clock pa_undoable pa_free pa_cells).2.1 (F_X9_foot p0 no_apron no_basket no_ground no_bruised no_ladder no_helper no_today no_clock pa_undoable pa_free pa_cells).2.2.1 (F_X9_foot p0 no_apron no_basket no_ground no_bruised no_ladder no_helper no_today no_clock pa_undoable pa_free pa_cells).2.2.2.1 (F_X9_foot p0 no_apron no_basket no_ground no_bruised no_ladder no_helper no_today no_clock pa_undoable pa_free pa_cells).2.2.2.2) : wp_X9_foot Q p0 no_apron no_basket no_ground no_bruised no_ladder no_helper no_today no_clock pa_undoable pa_free pa_cells := dt_X9_foot h (fun o eo => by rw [eo]; exact hq)
theorem dw_X9_foot {Q : Int32 → Int32 → Int32 → Int32 → (Nat → Int32) → Prop} {p0 : Int32} {no_apron : Int32} {no_basket : Int32} {no_ground : Int32} {no_bruised : Int32} {no_ladder : Int32} {no_helper : Int32} {no_today : Int32} {no_clock : Int32} {pa_undoable : Int32} {pa_free : Int32} {pa_cells : Nat → Int32} (h : wp_X9_foot (fun o0 o1 o2 o3 o4 => (o0, o1, o2, o3, o4) = F_X9_foot p0 no_apron no_basket no_ground no_bruised no_ladder no_helper no_today no_clock pa_undoable pa_free pa_cells → Q o0 o1 o2 o3 o4) p0 no_apron no_basket no_ground no_bruised no_ladder no_helper no_today no_clock pa_undoable pa_free pa_cells) : wp_X9_foot Q p0 no_apron no_basket no_ground no_bruised no_ladder no_helper no_today no_clock pa_undoable pa_free pa_cells := dt_X9_foot h (fun o eo hp => hp eo)
noncomputable def F_J6_bitCount_0f7a4 (p0 : Int32) : Int32 := ((((((((p0 - (((p0.toUInt32 >>> ((1 : Int32).toUInt32 &&& Int32.toUInt32 31)).toInt32) &&& 1431655765)) &&& 858993459) + ((((p0 - (((p0.toUInt32 >>> ((1 : Int32).toUInt32 &&& Int32.toUInt32 31)).toInt32) &&& 1431655765)).toUInt32 >>> ((2 : Int32).toUInt32 &&& Int32.toUInt32 31)).toInt32) &&& 858993459)) + (((((p0 - (((p0.toUInt32 >>> ((1 : Int32).toUInt32 &&& Int32.toUInt32 31)).toInt32) &&& 1431655765)) &&& 858993459) + ((((p0 - (((p0.toUInt32 >>> ((1 : Int32).toUInt32 &&& Int32.toUInt32 31)).toInt32) &&& 1431655765)).toUInt32 >>> ((2 : Int32).toUInt32 &&& Int32.toUInt32 31)).toInt32) &&& 858993459)).toUInt32 >>> ((4 : Int32).toUInt32 &&& Int32.toUInt32 31)).toInt32)) &&& 252645135) + (((((((p0 - (((p0.toUInt32 >>> ((1 : Int32).toUInt32 &&& Int32.toUInt32 31)).toInt32) &&& 1431655765)) &&& 858993459) + ((((p0 - (((p0.toUInt32 >>> ((1 : Int32).toUInt32 &&& Int32.toUInt32 31)).toInt32) &&& 1431655765)).toUInt32 >>> ((2 : Int32).toUInt32 &&& Int32.toUInt32 31)).toInt32) &&& 858993459)) + (((((p0 - (((p0.toUInt32 >>> ((1 : Int32).toUInt32 &&& Int32.toUInt32 31)).toInt32) &&& 1431655765)) &&& 858993459) + ((((p0 - (((p0.toUInt32 >>> ((1 : Int32).toUInt32 &&& Int32.toUInt32 31)).toInt32) &&& 1431655765)).toUInt32 >>> ((2 : Int32).toUInt32 &&& Int32.toUInt32 31)).toInt32) &&& 858993459)).toUInt32 >>> ((4 : Int32).toUInt32 &&& Int32.toUInt32 31)).toInt32)) &&& 252645135).toUInt32 >>> ((8 : Int32).toUInt32 &&& Int32.toUInt32 31)).toInt32)) + ((((((((p0 - (((p0.toUInt32 >>> ((1 : Int32).toUInt32 &&& Int32.toUInt32 31)).toInt32) &&& 1431655765)) &&& 858993459) + ((((p0 - (((p0.toUInt32 >>> ((1 : Int32).toUInt32 &&& Int32.toUInt32 31)).toInt32) &&& 1431655765)).toUInt32 >>> ((2 : Int32).toUInt32 &&& Int32.toUInt32 31)).toInt32) &&& 858993459)) + (((((p0 - (((p0.toUInt32 >>> ((1 : Int32).toUInt32 &&& Int32.toUInt32 31)).toInt32) &&& 1431655765)) &&& 858993459) + ((((p0 - (((p0.toUInt32 >>> ((1 : Int32).toUInt32 &&& Int32.toUInt32 31)).toInt32) &&& 1431655765)).toUInt32 >>> ((2 : Int32).toUInt32 &&& Int32.toUInt32 31)).toInt32) &&& 858993459)).toUInt32 >>> ((4 : Int32).toUInt32 &&& Int32.toUInt32 31)).toInt32)) &&& 252645135) + (((((((p0 - (((p0.toUInt32 >>> ((1 : Int32).toUInt32 &&& Int32.toUInt32 31)).toInt32) &&& 1431655765)) &&& 858993459) + ((((p0 - (((p0.toUInt32 >>> ((1 : Int32).toUInt32 &&& Int32.toUInt32 31)).toInt32) &&& 1431655765)).toUInt32 >>> ((2 : Int32).toUInt32 &&& Int32.toUInt32 31)).toInt32) &&& 858993459)) + (((((p0 - (((p0.toUInt32 >>> ((1 : Int32).toUInt32 &&& Int32.toUInt32 31)).toInt32) &&& 1431655765)) &&& 858993459) + ((((p0 - (((p0.toUInt32 >>> ((1 : Int32).toUInt32 &&& Int32.toUInt32 31)).toInt32) &&& 1431655765)).toUInt32 >>> ((2 : Int32).toUInt32 &&& Int32.toUInt32 31)).toInt32) &&& 858993459)).toUInt32 >>> ((4 : Int32).toUInt32 &&& Int32.toUInt32 31)).toInt32)) &&& 252645135).toUInt32 >>> ((8 : Int32).toUInt32 &&& Int32.toUInt32 31)).toInt32)).toUInt32 >>> ((16 : Int32).toUInt32 &&& Int32.toUInt32 31)).toInt32)) &&& 63)
set_option maxHeartbeats 200000 in
set_option maxRecDepth 10000 in
theorem dt_J6_bitCount_0f7a4 {P Q : Int32 → Prop} {p0 : Int32} (h : wp_J6_bitCount_0f7a4 P p0) (hq : ∀ o : Int32, o = F_J6_bitCount_0f7a4 p0 → P o → Q o) : wp_J6_bitCount_0f7a4 Q p0 := by
  rw [F_J6_bitCount_0f7a4] at hq
  refine ae ?_
  have h := h _ rfl
  refine ae ?_
  have h := h _ rfl
  refine ae ?_
  have h := h _ rfl
  refine ae ?_
  have h := h _ rfl
  refine ae ?_
  have h := h _ rfl
  refine ae ?_
  have h := h _ rfl
  refine ae ?_
  have h := h _ rfl
  refine ae ?_
  have h := h _ rfl
  refine ae ?_
  have h := h _ rfl
  have q9 := hq _ rfl
  exact q9 h
