noncomputable def F_X10_reachedFrom (p0 : Int32) (p1 : Int32) (p2 : Int32) (m_fruits : Int32) (m_x : Nat → Int32) (m_height : Nat → Int32) (m_foot : Nat → Int32) (m_fork : Nat → Int32) (m_told : Nat → Int32) : Int32 := ex_X10_reachedFrom_6 (fun o0 => o0) m_fruits m_x m_height m_foot m_fork m_told p0 p1 p2 (nI (0 + (Int32.toInt m_fruits - ((0 : Nat) : Int)).toNat)) (itr (bd_X10_reachedFrom_6 m_fruits m_x m_height m_foot m_fork m_told p0 p1 p2) 0 0 (Int32.toInt m_fruits - ((0 : Nat) : Int)).toNat)
set_option maxHeartbeats 200000 in
set_option maxRecDepth 10000 in
theorem dt_X10_reachedFrom {P Q : Int32 → Prop} {p0 : Int32} {p1 : Int32} {p2 : Int32} {m_fruits : Int32} {m_x : Nat → Int32} {m_height : Nat → Int32} {m_foot : Nat → Int32} {m_fork : Nat → Int32} {m_told : Nat → Int32} (h : wp_X10_reachedFrom P p0 p1 p2 m_fruits m_x m_height m_foot m_fork m_told) (hq : ∀ o : Int32, o = F_X10_reachedFrom p0 p1 p2 m_fruits m_x m_height m_foot m_fork m_told → P o → Q o) : wp_X10_reachedFrom Q p0 p1 p2 m_fruits m_x m_height m_foot m_fork m_told := by
  rw [F_X10_reachedFrom] at hq
  obtain ⟨n1, h⟩ := h
  refine ⟨n1, dl_X10_reachedFrom_6 (a := 0) (i := 0) (by decide) ?_ n1 0 0 (by decide) (Nat.zero_le _) h⟩
  intro cc2 s3 ec4 es5 h
  rw [← ec4, ← es5, ex_X10_reachedFrom_6] at hq
  have q9 := hq _ rfl
  exact q9 h
theorem du_X10_reachedFrom {P Q : Int32 → Prop} {p0 : Int32} {p1 : Int32} {p2 : Int32} {m_fruits : Int32} {m_x : Nat → Int32} {m_height : Nat → Int32} {m_foot : Nat → Int32} {m_fork : Nat → Int32} {m_told : Nat → Int32} (h : wp_X10_reachedFrom P p0 p1 p2 m_fruits m_x m_height m_foot m_fork m_told) (hq : P (F_X10_reachedFrom p0 p1 p2 m_fruits m_x m_height m_foot m_fork m_told) → Q (F_X10_reachedFrom p0 p1 p2 m_fruits m_x m_height m_foot m_fork m_told)) : wp_X10_reachedFrom Q p0 p1 p2 m_fruits m_x m_height m_foot m_fork m_told := dt_X10_reachedFrom h (fun o eo => by rw [eo]; exact hq)
theorem dw_X10_reachedFrom {Q : Int32 → Prop} {p0 : Int32} {p1 : Int32} {p2 : Int32} {m_fruits : Int32} {m_x : Nat → Int32} {m_height : Nat → Int32} {m_foot : Nat → Int32} {m_fork : Nat → Int32} {m_told : Nat → Int32} (h : wp_X10_reachedFrom (fun o0 => o0 = F_X10_reachedFrom p0 p1 p2 m_fruits m_x m_height m_foot m_fork m_told → Q o0) p0 p1 p2 m_fruits m_x m_height m_foot m_fork m_told) : wp_X10_reachedFrom Q p0 p1 p2 m_fruits m_x m_height m_foot m_fork m_told := dt_X10_reachedFrom h (fun o eo hp => hp eo)
noncomputable def F_X10_reached (p0 : Int32) (m_fruits : Int32) (m_standings : Int32) (m_rowMany : Int32) (m_thrown : Int32) (m_x : Nat → Int32) (m_height : Nat → Int32) (m_foot : Nat → Int32) (m_fork : Nat → Int32) (m_told : Nat → Int32) (m_row : Nat → Int32) : Int32 × Int32 × Int32 × (Nat → Int32) := if (F_X10_isStanding p0 m_standings) = 0 then ((-1), m_rowMany, 0, m_row) else ((F_X10_reachedFrom p0 0 0 m_fruits m_x m_height m_foot m_fork m_told), (F_X10_tell (F_X10_reachedFrom p0 1 1 m_fruits m_x m_height m_foot m_fork m_told) (F_X10_tell (F_X10_reachedFrom p0 1 0 m_fruits m_x m_height m_foot m_fork m_told) 0 m_row).1 (F_X10_tell (F_X10_reachedFrom p0 1 0 m_fruits m_x m_height m_foot m_fork m_told) 0 m_row).2).1, 0, (F_X10_tell (F_X10_reachedFrom p0 1 1 m_fruits m_x m_height m_foot m_fork m_told) (F_X10_tell (F_X10_reachedFrom p0 1 0 m_fruits m_x m_height m_foot m_fork m_told) 0 m_row).1 (F_X10_tell (F_X10_reachedFrom p0 1 0 m_fruits m_x m_height m_foot m_fork m_told) 0 m_row).2).2)
set_option maxHeartbeats 200000 in
set_option maxRecDepth 10000 in
theorem dt_X10_reached {P Q : Int32 → Int32 → Int32 → (Nat → Int32) → Prop} {p0 : Int32} {m_fruits : Int32} {m_standings : Int32} {m_rowMany : Int32} {m_thrown : Int32} {m_x : Nat → Int32} {m_height : Nat → Int32} {m_foot : Nat → Int32} {m_fork : Nat → Int32} {m_told : Nat → Int32} {m_row : Nat → Int32} (h : wp_X10_reached P p0 m_fruits m_standings m_rowMany m_thrown m_x m_height m_foot m_fork m_told m_row) (hq : ∀ o : Int32 × Int32 × Int32 × (Nat → Int32), o = F_X10_reached p0 m_fruits m_standings m_rowMany m_thrown m_x m_height m_foot m_fork m_told m_row → P o.1 o.2.1 o.2.2.1 o.2.2.2 → Q o.1 o.2.1 o.2.2.1 o.2.2.2) : wp_X10_reached Q p0 m_fruits m_standings m_rowMany m_thrown m_x m_height m_foot m_fork m_told m_row := by
  rw [F_X10_reached] at hq
  refine du_X10_isStanding h ?_
  intro h
  refine And.intro (fun c1 => ?_) (fun c1 => ?_)
  · have h := And.left h c1
    rw [if_neg c1] at hq
    refine du_X10_reachedFrom h ?_
    intro h
    refine du_X10_tell h ?_
    intro h
    refine du_X10_reachedFrom h ?_
    intro h
    refine du_X10_tell h ?_
    intro h
    refine du_X10_reachedFrom h ?_
    intro h
    have q9 := hq _ rfl
    dsimp only at q9
    exact q9 h
  · have h := And.right h c1
    rw [if_pos c1] at hq
    have q9 := hq _ rfl
    dsimp only at q9
    exact q9 h
theorem du_X10_reached {P Q : Int32 → Int32 → Int32 → (Nat → Int32) → Prop} {p0 : Int32} {m_fruits : Int32} {m_standings : Int32} {m_rowMany : Int32} {m_thrown : Int32} {m_x : Nat → Int32} {m_height : Nat → Int32} {m_foot : Nat → Int32} {m_fork : Nat → Int32} {m_told : Nat → Int32} {m_row : Nat → Int32} (h : wp_X10_reached P p0 m_fruits m_standings m_rowMany m_thrown m_x m_height m_foot m_fork m_told m_row) (hq : P (F_X10_reached p0 m_fruits m_standings m_rowMany m_thrown m_x m_height m_foot m_fork m_told m_row).1 (F_X10_reached p0 m_fruits m_standings m_rowMany m_thrown m_x m_height m_foot m_fork m_told m_row).2.1 (F_X10_reached p0 m_fruits m_standings m_rowMany m_thrown m_x m_height m_foot m_fork m_told m_row).2.2.1 (F_X10_reached p0 m_fruits m_standings m_rowMany m_thrown m_x m_height m_foot m_fork m_told m_row).2.2.2 → Q (F_X10_reached p0 m_fruits m_standings m_rowMany m_thrown m_x m_height m_foot m_fork m_told m_row).1 (F_X10_reached p0 m_fruits m_standings m_rowMany m_thrown m_x m_height m_foot m_fork m_told m_row).2.1 (F_X10_reached p0 m_fruits m_standings m_rowMany m_thrown m_x m_height m_foot m_fork m_told m_row).2.2.1 (F_X10_reached p0 m_fruits m_standings m_rowMany m_thrown m_x m_height m_foot m_fork m_told m_row).2.2.2) : wp_X10_reached Q p0 m_fruits m_standings m_rowMany m_thrown m_x m_height m_foot m_fork m_told m_row := dt_X10_reached h (fun o eo => by rw [eo]; exact hq)
theorem dw_X10_reached {Q : Int32 → Int32 → Int32 → (Nat → Int32) → Prop} {p0 : Int32} {m_fruits : Int32} {m_standings : Int32} {m_rowMany : Int32} {m_thrown : Int32} {m_x : Nat → Int32} {m_height : Nat → Int32} {m_foot : Nat → Int32} {m_fork : Nat → Int32} {m_told : Nat → Int32} {m_row : Nat → Int32} (h : wp_X10_reached (fun o0 o1 o2 o3 => (o0, o1, o2, o3) = F_X10_reached p0 m_fruits m_standings m_rowMany m_thrown m_x m_height m_foot m_fork m_told m_row → Q o0 o1 o2 o3) p0 m_fruits m_standings m_rowMany m_thrown m_x m_height m_foot m_fork m_told m_row) : wp_X10_reached Q p0 m_fruits m_standings m_rowMany m_thrown m_x m_height m_foot m_fork m_told m_row := dt_X10_reached h (fun o eo hp => hp eo)
noncomputable def bd_X10_orchard_105 (m_text : Nat → Int32) (m_rule : Nat → Int32) (m_standings : Int32) (m_typed : Int32) (m_thrown : Int32) (m_read : Nat) (m_length : Int32) (m_top : Int32) (m_at : Int32) (m_wrong : Int32) (m_newFruitMany : Int32) (m_newStandingMany : Int32) (m_undoMany : Int32) (m_came : Int32) (m_foot : Nat → Int32) (m_fork : Nat → Int32) (m_newFruits : Nat → Int32) (m_newStandings : Nat → Int32) (c : Int32) (s : Int32 × (Nat → Int32) × (Nat → Int32) × (Nat → Int32) × (Nat → Int32) × (Nat → Int32)) : Int32 × (Nat → Int32) × (Nat → Int32) × (Nat → Int32) × (Nat → Int32) × (Nat → Int32) := ((s.1 + 1), (upd s.2.1 s.1.toNatClampNeg 0), (upd s.2.2.1 s.1.toNatClampNeg (m_newFruits (4 * c).toNatClampNeg)), (upd s.2.2.2.1 s.1.toNatClampNeg (m_newFruits ((4 * c) + 1).toNatClampNeg)), (upd s.2.2.2.2.1 s.1.toNatClampNeg (m_newFruits ((4 * c) + 2).toNatClampNeg)), (upd s.2.2.2.2.2 s.1.toNatClampNeg (m_newFruits ((4 * c) + 3).toNatClampNeg)))
noncomputable def bd_X10_orchard_215 (m_text : Nat → Int32) (m_rule : Nat → Int32) (m_fruits : Int32) (m_typed : Int32) (m_thrown : Int32) (m_read : Nat) (m_length : Int32) (m_top : Int32) (m_at : Int32) (m_wrong : Int32) (m_newFruitMany : Int32) (m_newStandingMany : Int32) (m_undoMany : Int32) (m_came : Int32) (m_now : Nat → Int32) (m_x : Nat → Int32) (m_height : Nat → Int32) (m_worth : Nat → Int32) (m_ripe : Nat → Int32) (m_newFruits : Nat → Int32) (m_newStandings : Nat → Int32) (c : Int32) (s : Int32 × (Nat → Int32) × (Nat → Int32)) : Int32 × (Nat → Int32) × (Nat → Int32) := ((s.1 + 1), (upd s.2.1 s.1.toNatClampNeg (m_newStandings (2 * c).toNatClampNeg)), (upd s.2.2 s.1.toNatClampNeg (m_newStandings ((2 * c) + 1).toNatClampNeg)))
noncomputable def ex_X10_orchard_215 {R : Type} (po : Int32 → Int32 → Int32 → Int32 → Int32 → Nat → Int32 → Int32 → Int32 → Int32 → Int32 → Int32 → Int32 → Int32 → (Nat → Int32) → (Nat → Int32) → (Nat → Int32) → (Nat → Int32) → (Nat → Int32) → (Nat → Int32) → (Nat → Int32) → (Nat → Int32) → (Nat → Int32) → R) (m_text : Nat → Int32) (m_rule : Nat → Int32) (m_fruits : Int32) (m_typed : Int32) (m_thrown : Int32) (m_read : Nat) (m_length : Int32) (m_top : Int32) (m_at : Int32) (m_wrong : Int32) (m_newFruitMany : Int32) (m_newStandingMany : Int32) (m_undoMany : Int32) (m_came : Int32) (m_now : Nat → Int32) (m_x : Nat → Int32) (m_height : Nat → Int32) (m_worth : Nat → Int32) (m_ripe : Nat → Int32) (m_newFruits : Nat → Int32) (m_newStandings : Nat → Int32) (c : Int32) (s : Int32 × (Nat → Int32) × (Nat → Int32)) : R := po (m_newFruitMany + m_newStandingMany) m_fruits s.1 m_typed m_thrown m_read m_length m_top m_at m_wrong m_newFruitMany m_newStandingMany 0 (m_came + 1) m_now m_x m_height m_worth m_ripe s.2.1 s.2.2 m_newFruits m_newStandings
set_option maxHeartbeats 200000 in
set_option maxRecDepth 10000 in
theorem dl_X10_orchard_215 {P Q : Int32 → Int32 → Int32 → Int32 → Int32 → Nat → Int32 → Int32 → Int32 → Int32 → Int32 → Int32 → Int32 → Int32 → (Nat → Int32) → (Nat → Int32) → (Nat → Int32) → (Nat → Int32) → (Nat → Int32) → (Nat → Int32) → (Nat → Int32) → (Nat → Int32) → (Nat → Int32) → Prop} {m_text : Nat → Int32} {m_rule : Nat → Int32} {m_fruits : Int32} {m_typed : Int32} {m_thrown : Int32} {m_read : Nat} {m_length : Int32} {m_top : Int32} {m_at : Int32} {m_wrong : Int32} {m_newFruitMany : Int32} {m_newStandingMany : Int32} {m_undoMany : Int32} {m_came : Int32} {m_now : Nat → Int32} {m_x : Nat → Int32} {m_height : Nat → Int32} {m_worth : Nat → Int32} {m_ripe : Nat → Int32} {m_newFruits : Nat → Int32} {m_newStandings : Nat → Int32} {a : Int32 × (Nat → Int32) × (Nat → Int32)} {i : Nat} (hi0 : i < 2147483648) (hE : ∀ (c : Int32) (s : Int32 × (Nat → Int32) × (Nat → Int32)), c = nI (i + (Int32.toInt m_newStandingMany - ((i : Nat) : Int)).toNat) → s = itr (bd_X10_orchard_215 m_text m_rule m_fruits m_typed m_thrown m_read m_length m_top m_at m_wrong m_newFruitMany m_newStandingMany m_undoMany m_came m_now m_x m_height m_worth m_ripe m_newFruits m_newStandings) a i (Int32.toInt m_newStandingMany - ((i : Nat) : Int)).toNat → (∀ v_7 : Int32, v_7 = m_came + 1 → P (m_newFruitMany + m_newStandingMany) m_fruits s.1 m_typed m_thrown m_read m_length m_top m_at m_wrong m_newFruitMany m_newStandingMany 0 v_7 m_now m_x m_height m_worth m_ripe s.2.1 s.2.2 m_newFruits m_newStandings) → (∀ v_7 : Int32, v_7 = m_came + 1 → Q (m_newFruitMany + m_newStandingMany) m_fruits s.1 m_typed m_thrown m_read m_length m_top m_at m_wrong m_newFruitMany m_newStandingMany 0 v_7 m_now m_x m_height m_worth m_ripe s.2.1 s.2.2 m_newFruits m_newStandings)) : ∀ (n k : Nat) (c : Int32), c = nI (i + k) → k ≤ (Int32.toInt m_newStandingMany - ((i : Nat) : Int)).toNat → wb_X10_orchard_215 P m_text m_rule n c m_fruits (itr (bd_X10_orchard_215 m_text m_rule m_fruits m_typed m_thrown m_read m_length m_top m_at m_wrong m_newFruitMany m_newStandingMany m_undoMany m_came m_now m_x m_height m_worth m_ripe m_newFruits m_newStandings) a i k).1 m_typed m_thrown m_read m_length m_top m_at m_wrong m_newFruitMany m_newStandingMany m_undoMany m_came m_now m_x m_height m_worth m_ripe (itr (bd_X10_orchard_215 m_text m_rule m_fruits m_typed m_thrown m_read m_length m_top m_at m_wrong m_newFruitMany m_newStandingMany m_undoMany m_came m_now m_x m_height m_worth m_ripe m_newFruits m_newStandings) a i k).2.1 (itr (bd_X10_orchard_215 m_text m_rule m_fruits m_typed m_thrown m_read m_length m_top m_at m_wrong m_newFruitMany m_newStandingMany m_undoMany m_came m_now m_x m_height m_worth m_ripe m_newFruits m_newStandings) a i k).2.2 m_newFruits m_newStandings → wb_X10_orchard_215 Q m_text m_rule n c m_fruits (itr (bd_X10_orchard_215 m_text m_rule m_fruits m_typed m_thrown m_read m_length m_top m_at m_wrong m_newFruitMany m_newStandingMany m_undoMany m_came m_now m_x m_height m_worth m_ripe m_newFruits m_newStandings) a i k).1 m_typed m_thrown m_read m_length m_top m_at m_wrong m_newFruitMany m_newStandingMany m_undoMany m_came m_now m_x m_height m_worth m_ripe (itr (bd_X10_orchard_215 m_text m_rule m_fruits m_typed m_thrown m_read m_length m_top m_at m_wrong m_newFruitMany m_newStandingMany m_undoMany m_came m_now m_x m_height m_worth m_ripe m_newFruits m_newStandings) a i k).2.1 (itr (bd_X10_orchard_215 m_text m_rule m_fruits m_typed m_thrown m_read m_length m_top m_at m_wrong m_newFruitMany m_newStandingMany m_undoMany m_came m_now m_x m_height m_worth m_ripe m_newFruits m_newStandings) a i k).2.2 m_newFruits m_newStandings := by
  intro n
  induction n with
  | zero => intro k c hc hk h; exact False.elim h
  | succ n ih =>
    intro k c hc hk h
    have hr := tp_r m_newStandingMany
    have hi : Int32.toInt c = ((i + k : Nat) : Int) := by rw [hc]; exact nI_toInt (by omega)
    refine And.intro (fun t0 => ?_) (fun t0 => ?_)
    · have h := And.left h t0
      have t1 := (fa_le _ _).mp t0
      have hk2 : k = (Int32.toInt m_newStandingMany - ((i : Nat) : Int)).toNat := by omega
      subst hk2
      exact hE _ _ hc rfl h
    · have h := And.right h t0
      have t1 := mt (fa_le _ _).mpr t0
      have hs : ∀ o : Int32 × (Nat → Int32) × (Nat → Int32), o = itr (bd_X10_orchard_215 m_text m_rule m_fruits m_typed m_thrown m_read m_length m_top m_at m_wrong m_newFruitMany m_newStandingMany m_undoMany m_came m_now m_x m_height m_worth m_ripe m_newFruits m_newStandings) a i (k + 1) → wb_X10_orchard_215 P m_text m_rule n (c + 1) m_fruits o.1 m_typed m_thrown m_read m_length m_top m_at m_wrong m_newFruitMany m_newStandingMany m_undoMany m_came m_now m_x m_height m_worth m_ripe o.2.1 o.2.2 m_newFruits m_newStandings → wb_X10_orchard_215 Q m_text m_rule n (c + 1) m_fruits o.1 m_typed m_thrown m_read m_length m_top m_at m_wrong m_newFruitMany m_newStandingMany m_undoMany m_came m_now m_x m_height m_worth m_ripe o.2.1 o.2.2 m_newFruits m_newStandings := by
        intro o eo h9
        have q := ih (k + 1) (c + 1) (by rw [hc]; exact nI_1 _) (by omega)
        rw [← eo] at q
        exact q h9
      rw [itr_s, ← hc, bd_X10_orchard_215] at hs
      refine ae ?_
      have h := h _ rfl
      refine And.intro (And.left h) ?_
      have h := And.right h
      refine ae ?_
      have h := h _ rfl
      refine And.intro (And.left h) ?_
      have h := And.right h
      refine ae ?_
      have h := h _ rfl
      refine ae ?_
      have h := h _ rfl
      refine And.intro (And.left h) ?_
      have h := And.right h
      refine ae ?_
      have h := h _ rfl
      refine And.intro (And.left h) ?_
      have h := And.right h
      refine ae ?_
      have h := h _ rfl
      refine ae ?_
      have h := h _ rfl
      have q9 := hs _ rfl
      dsimp only at q9
      exact q9 h
noncomputable def ex_X10_orchard_105 {R : Type} (po : Int32 → Int32 → Int32 → Int32 → Int32 → Nat → Int32 → Int32 → Int32 → Int32 → Int32 → Int32 → Int32 → Int32 → (Nat → Int32) → (Nat → Int32) → (Nat → Int32) → (Nat → Int32) → (Nat → Int32) → (Nat → Int32) → (Nat → Int32) → (Nat → Int32) → (Nat → Int32) → R) (m_text : Nat → Int32) (m_rule : Nat → Int32) (m_standings : Int32) (m_typed : Int32) (m_thrown : Int32) (m_read : Nat) (m_length : Int32) (m_top : Int32) (m_at : Int32) (m_wrong : Int32) (m_newFruitMany : Int32) (m_newStandingMany : Int32) (m_undoMany : Int32) (m_came : Int32) (m_foot : Nat → Int32) (m_fork : Nat → Int32) (m_newFruits : Nat → Int32) (m_newStandings : Nat → Int32) (c : Int32) (s : Int32 × (Nat → Int32) × (Nat → Int32) × (Nat → Int32) × (Nat → Int32) × (Nat → Int32)) : R := ex_X10_orchard_215 po m_text m_rule s.1 m_typed m_thrown m_read m_length m_top m_at m_wrong m_newFruitMany m_newStandingMany m_undoMany m_came s.2.1 s.2.2.1 s.2.2.2.1 s.2.2.2.2.1 s.2.2.2.2.2 m_newFruits m_newStandings (nI (0 + (Int32.toInt m_newStandingMany - ((0 : Nat) : Int)).toNat)) (itr (bd_X10_orchard_215 m_text m_rule s.1 m_typed m_thrown m_read m_length m_top m_at m_wrong m_newFruitMany m_newStandingMany m_undoMany m_came s.2.1 s.2.2.1 s.2.2.2.1 s.2.2.2.2.1 s.2.2.2.2.2 m_newFruits m_newStandings) (m_standings, m_foot, m_fork) 0 (Int32.toInt m_newStandingMany - ((0 : Nat) : Int)).toNat)
set_option maxHeartbeats 200000 in
set_option maxRecDepth 10000 in
theorem dl_X10_orchard_105 {P Q : Int32 → Int32 → Int32 → Int32 → Int32 → Nat → Int32 → Int32 → Int32 → Int32 → Int32 → Int32 → Int32 → Int32 → (Nat → Int32) → (Nat → Int32) → (Nat → Int32) → (Nat → Int32) → (Nat → Int32) → (Nat → Int32) → (Nat → Int32) → (Nat → Int32) → (Nat → Int32) → Prop} {m_text : Nat → Int32} {m_rule : Nat → Int32} {m_standings : Int32} {m_typed : Int32} {m_thrown : Int32} {m_read : Nat} {m_length : Int32} {m_top : Int32} {m_at : Int32} {m_wrong : Int32} {m_newFruitMany : Int32} {m_newStandingMany : Int32} {m_undoMany : Int32} {m_came : Int32} {m_foot : Nat → Int32} {m_fork : Nat → Int32} {m_newFruits : Nat → Int32} {m_newStandings : Nat → Int32} {a : Int32 × (Nat → Int32) × (Nat → Int32) × (Nat → Int32) × (Nat → Int32) × (Nat → Int32)} {i : Nat} (hi0 : i < 2147483648) (hE : ∀ (c : Int32) (s : Int32 × (Nat → Int32) × (Nat → Int32) × (Nat → Int32) × (Nat → Int32) × (Nat → Int32)), c = nI (i + (Int32.toInt m_newFruitMany - ((i : Nat) : Int)).toNat) → s = itr (bd_X10_orchard_105 m_text m_rule m_standings m_typed m_thrown m_read m_length m_top m_at m_wrong m_newFruitMany m_newStandingMany m_undoMany m_came m_foot m_fork m_newFruits m_newStandings) a i (Int32.toInt m_newFruitMany - ((i : Nat) : Int)).toNat → (∃ n : Nat, wb_X10_orchard_215 P m_text m_rule n 0 s.1 m_standings m_typed m_thrown m_read m_length m_top m_at m_wrong m_newFruitMany m_newStandingMany m_undoMany m_came s.2.1 s.2.2.1 s.2.2.2.1 s.2.2.2.2.1 s.2.2.2.2.2 m_foot m_fork m_newFruits m_newStandings) → (∃ n : Nat, wb_X10_orchard_215 Q m_text m_rule n 0 s.1 m_standings m_typed m_thrown m_read m_length m_top m_at m_wrong m_newFruitMany m_newStandingMany m_undoMany m_came s.2.1 s.2.2.1 s.2.2.2.1 s.2.2.2.2.1 s.2.2.2.2.2 m_foot m_fork m_newFruits m_newStandings)) : ∀ (n k : Nat) (c : Int32), c = nI (i + k) → k ≤ (Int32.toInt m_newFruitMany - ((i : Nat) : Int)).toNat → wb_X10_orchard_105 P m_text m_rule n c (itr (bd_X10_orchard_105 m_text m_rule m_standings m_typed m_thrown m_read m_length m_top m_at m_wrong m_newFruitMany m_newStandingMany m_undoMany m_came m_foot m_fork m_newFruits m_newStandings) a i k).1 m_standings m_typed m_thrown m_read m_length m_top m_at m_wrong m_newFruitMany m_newStandingMany m_undoMany m_came (itr (bd_X10_orchard_105 m_text m_rule m_standings m_typed m_thrown m_read m_length m_top m_at m_wrong m_newFruitMany m_newStandingMany m_undoMany m_came m_foot m_fork m_newFruits m_newStandings) a i k).2.1 (itr (bd_X10_orchard_105 m_text m_rule m_standings m_typed m_thrown m_read m_length m_top m_at m_wrong m_newFruitMany m_newStandingMany m_undoMany m_came m_foot m_fork m_newFruits m_newStandings) a i k).2.2.1 (itr (bd_X10_orchard_105 m_text m_rule m_standings m_typed m_thrown m_read m_length m_top m_at m_wrong m_newFruitMany m_newStandingMany m_undoMany m_came m_foot m_fork m_newFruits m_newStandings) a i k).2.2.2.1 (itr (bd_X10_orchard_105 m_text m_rule m_standings m_typed m_thrown m_read m_length m_top m_at m_wrong m_newFruitMany m_newStandingMany m_undoMany m_came m_foot m_fork m_newFruits m_newStandings) a i k).2.2.2.2.1 (itr (bd_X10_orchard_105 m_text m_rule m_standings m_typed m_thrown m_read m_length m_top m_at m_wrong m_newFruitMany m_newStandingMany m_undoMany m_came m_foot m_fork m_newFruits m_newStandings) a i k).2.2.2.2.2 m_foot m_fork m_newFruits m_newStandings → wb_X10_orchard_105 Q m_text m_rule n c (itr (bd_X10_orchard_105 m_text m_rule m_standings m_typed m_thrown m_read m_length m_top m_at m_wrong m_newFruitMany m_newStandingMany m_undoMany m_came m_foot m_fork m_newFruits m_newStandings) a i k).1 m_standings m_typed m_thrown m_read m_length m_top m_at m_wrong m_newFruitMany m_newStandingMany m_undoMany m_came (itr (bd_X10_orchard_105 m_text m_rule m_standings m_typed m_thrown m_read m_length m_top m_at m_wrong m_newFruitMany m_newStandingMany m_undoMany m_came m_foot m_fork m_newFruits m_newStandings) a i k).2.1 (itr (bd_X10_orchard_105 m_text m_rule m_standings m_typed m_thrown m_read m_length m_top m_at m_wrong m_newFruitMany m_newStandingMany m_undoMany m_came m_foot m_fork m_newFruits m_newStandings) a i k).2.2.1 (itr (bd_X10_orchard_105 m_text m_rule m_standings m_typed m_thrown m_read m_length m_top m_at m_wrong m_newFruitMany m_newStandingMany m_undoMany m_came m_foot m_fork m_newFruits m_newStandings) a i k).2.2.2.1 (itr (bd_X10_orchard_105 m_text m_rule m_standings m_typed m_thrown m_read m_length m_top m_at m_wrong m_newFruitMany m_newStandingMany m_undoMany m_came m_foot m_fork m_newFruits m_newStandings) a i k).2.2.2.2.1 (itr (bd_X10_orchard_105 m_text m_rule m_standings m_typed m_thrown m_read m_length m_top m_at m_wrong m_newFruitMany m_newStandingMany m_undoMany m_came m_foot m_fork m_newFruits m_newStandings) a i k).2.2.2.2.2 m_foot m_fork m_newFruits m_newStandings := by
  intro n
  induction n with
  | zero => intro k c hc hk h; exact False.elim h
  | succ n ih =>
    intro k c hc hk h
    have hr := tp_r m_newFruitMany
    have hi : Int32.toInt c = ((i + k : Nat) : Int) := by rw [hc]; exact nI_toInt (by omega)
    refine And.intro (fun t0 => ?_) (fun t0 => ?_)
    · have h := And.left h t0
      have t1 := (fa_le _ _).mp t0
      have hk2 : k = (Int32.toInt m_newFruitMany - ((i : Nat) : Int)).toNat := by omega
      subst hk2
      exact hE _ _ hc rfl h
    · have h := And.right h t0
      have t1 := mt (fa_le _ _).mpr t0
      have hs : ∀ o : Int32 × (Nat → Int32) × (Nat → Int32) × (Nat → Int32) × (Nat → Int32) × (Nat → Int32), o = itr (bd_X10_orchard_105 m_text m_rule m_standings m_typed m_thrown m_read m_length m_top m_at m_wrong m_newFruitMany m_newStandingMany m_undoMany m_came m_foot m_fork m_newFruits m_newStandings) a i (k + 1) → wb_X10_orchard_105 P m_text m_rule n (c + 1) o.1 m_standings m_typed m_thrown m_read m_length m_top m_at m_wrong m_newFruitMany m_newStandingMany m_undoMany m_came o.2.1 o.2.2.1 o.2.2.2.1 o.2.2.2.2.1 o.2.2.2.2.2 m_foot m_fork m_newFruits m_newStandings → wb_X10_orchard_105 Q m_text m_rule n (c + 1) o.1 m_standings m_typed m_thrown m_read m_length m_top m_at m_wrong m_newFruitMany m_newStandingMany m_undoMany m_came o.2.1 o.2.2.1 o.2.2.2.1 o.2.2.2.2.1 o.2.2.2.2.2 m_foot m_fork m_newFruits m_newStandings := by
        intro o eo h9
        have q := ih (k + 1) (c + 1) (by rw [hc]; exact nI_1 _) (by omega)
        rw [← eo] at q
        exact q h9
      rw [itr_s, ← hc, bd_X10_orchard_105] at hs
      refine ae ?_
      have h := h _ rfl
      refine And.intro (And.left h) ?_
      have h := And.right h
      refine ae ?_
      have h := h _ rfl
      refine And.intro (And.left h) ?_
      have h := And.right h
      refine ae ?_
      have h := h _ rfl
      refine ae ?_
      have h := h _ rfl
      refine And.intro (And.left h) ?_
      have h := And.right h
      refine ae ?_
      have h := h _ rfl
      refine And.intro (And.left h) ?_
      have h := And.right h
      refine ae ?_
      have h := h _ rfl
      refine ae ?_
      have h := h _ rfl
      refine And.intro (And.left h) ?_
      have h := And.right h
      refine ae ?_
      have h := h _ rfl
      refine And.intro (And.left h) ?_
      have h := And.right h
      refine ae ?_
      have h := h _ rfl
      refine ae ?_
      have h := h _ rfl
      refine And.intro (And.left h) ?_
      have h := And.right h
      refine ae ?_
      have h := h _ rfl
      refine And.intro (And.left h) ?_
      have h := And.right h
      refine And.intro (And.left h) ?_
      have h := And.right h
      refine ae ?_
      have h := h _ rfl
      refine ae ?_
      have h := h _ rfl
      have q9 := hs _ rfl
      dsimp only at q9
      exact q9 h
noncomputable def F_X3_allFruits (tr_fruits : Int32) : Int32 := ((1 <<< (tr_fruits &&& 31)) - 1)
set_option maxHeartbeats 200000 in
set_option maxRecDepth 10000 in
theorem dt_X3_allFruits {P Q : Int32 → Prop} {tr_fruits : Int32} (h : wp_X3_allFruits P tr_fruits) (hq : ∀ o : Int32, o = F_X3_allFruits tr_fruits → P o → Q o) : wp_X3_allFruits Q tr_fruits := by
  rw [F_X3_allFruits] at hq
  refine ae ?_
  have h := h _ rfl
  have q9 := hq _ rfl
  exact q9 h
theorem du_X3_allFruits {P Q : Int32 → Prop} {tr_fruits : Int32} (h : wp_X3_allFruits P tr_fruits) (hq : P (F_X3_allFruits tr_fruits) → Q (F_X3_allFruits tr_fruits)) : wp_X3_allFruits Q tr_fruits := dt_X3_allFruits h (fun o eo => by rw [eo]; exact hq)
noncomputable def F_X0_hanging (tr_fruits : Int32) (no_apron : Int32) (no_basket : Int32) (no_ground : Int32) : Int32 := ((F_X3_allFruits tr_fruits) &&& (((no_apron ||| no_basket) ||| no_ground) ^^^ (-1)))
set_option maxHeartbeats 200000 in
set_option maxRecDepth 10000 in
theorem dt_X0_hanging {P Q : Int32 → Prop} {tr_fruits : Int32} {no_apron : Int32} {no_basket : Int32} {no_ground : Int32} (h : wp_X0_hanging P tr_fruits no_apron no_basket no_ground) (hq : ∀ o : Int32, o = F_X0_hanging tr_fruits no_apron no_basket no_ground → P o → Q o) : wp_X0_hanging Q tr_fruits no_apron no_basket no_ground := by
  rw [F_X0_hanging] at hq
  refine du_X3_allFruits h ?_
  intro h
  refine ae ?_
  have h := h _ rfl
  refine ae ?_
  have h := h _ rfl
  have q9 := hq _ rfl
  exact q9 h
theorem du_X0_hanging {P Q : Int32 → Prop} {tr_fruits : Int32} {no_apron : Int32} {no_basket : Int32} {no_ground : Int32} (h : wp_X0_hanging P tr_fruits no_apron no_basket no_ground) (hq : P (F_X0_hanging tr_fruits no_apron no_basket no_ground) → Q (F_X0_hanging tr_fruits no_apron no_basket no_ground)) : wp_X0_hanging Q tr_fruits no_apron no_basket no_ground := dt_X0_hanging h (fun o eo => by rw [eo]; exact hq)
noncomputable def j_X3_lowerThan_89 {R : Type} (k15 : Int32 → Int32 → Int32 → Int32 → R) (tr_fruits : Int32) (tr_x : Nat → Int32) (tr_height : Nat → Int32) (x1 : Int32) (x2 : Int32) (x3 : Int32) (x4 : Int32) : R := k15 x1 x2 x3 (x4 + 1)
noncomputable def j_X3_lowerThan_66 {R : Type} (k15 : Int32 → Int32 → Int32 → Int32 → R) (tr_fruits : Int32) (tr_x : Nat → Int32) (tr_height : Nat → Int32) (x1 : Int32) (x2 : Int32) (x3 : Int32) (x4 : Int32) (k0 : Int32) : R := if k0 = 0 then (j_X3_lowerThan_89 k15 tr_fruits tr_x tr_height x1 x2 x3 x4) else (if ((x2 >>> (x4 &&& 31)) &&& 1) = 0 then (j_X3_lowerThan_89 k15 tr_fruits tr_x tr_height x1 x2 x3 x4) else (j_X3_lowerThan_89 k15 tr_fruits tr_x tr_height x1 x2 (x3 ||| (1 <<< (x4 &&& 31))) x4))
noncomputable def j_X3_lowerThan_65 {R : Type} (k15 : Int32 → Int32 → Int32 → Int32 → R) (tr_fruits : Int32) (tr_x : Nat → Int32) (tr_height : Nat → Int32) (x1 : Int32) (x2 : Int32) (x3 : Int32) (x4 : Int32) : R := j_X3_lowerThan_66 k15 tr_fruits tr_x tr_height x1 x2 x3 x4 0
noncomputable def bd_X3_lowerThan_15 (tr_fruits : Int32) (tr_x : Nat → Int32) (tr_height : Nat → Int32) (x1 : Int32) (x2 : Int32) (c : Int32) (s : Int32) : Int32 := if 1 < (if 0 ≤ ((tr_x c.toNatClampNeg) - (tr_x x1.toNatClampNeg)) then ((tr_x c.toNatClampNeg) - (tr_x x1.toNatClampNeg)) else 0 - ((tr_x c.toNatClampNeg) - (tr_x x1.toNatClampNeg))) then (j_X3_lowerThan_65 (fun q0 q1 q2 q3 => q2) tr_fruits tr_x tr_height x1 x2 s c) else (if (tr_height x1.toNatClampNeg) ≤ (tr_height c.toNatClampNeg) then (j_X3_lowerThan_65 (fun q0 q1 q2 q3 => q2) tr_fruits tr_x tr_height x1 x2 s c) else (j_X3_lowerThan_66 (fun q0 q1 q2 q3 => q2) tr_fruits tr_x tr_height x1 x2 s c 1))
noncomputable def ex_X3_lowerThan_15 {R : Type} (po : Int32 → R) (tr_fruits : Int32) (tr_x : Nat → Int32) (tr_height : Nat → Int32) (x1 : Int32) (x2 : Int32) (c : Int32) (s : Int32) : R := po s
set_option maxHeartbeats 200000 in
set_option maxRecDepth 10000 in
theorem dl_X3_lowerThan_15 {P Q : Int32 → Prop} {tr_fruits : Int32} {tr_x : Nat → Int32} {tr_height : Nat → Int32} {x1 : Int32} {x2 : Int32} {a : Int32} {i : Nat} (hi0 : i < 2147483648) (hE : ∀ (c : Int32) (s : Int32), c = nI (i + (Int32.toInt tr_fruits - ((i : Nat) : Int)).toNat) → s = itr (bd_X3_lowerThan_15 tr_fruits tr_x tr_height x1 x2) a i (Int32.toInt tr_fruits - ((i : Nat) : Int)).toNat → (P s) → (Q s)) : ∀ (n k : Nat) (c : Int32), c = nI (i + k) → k ≤ (Int32.toInt tr_fruits - ((i : Nat) : Int)).toNat → wb_X3_lowerThan_15 P tr_fruits tr_x tr_height n x1 x2 (itr (bd_X3_lowerThan_15 tr_fruits tr_x tr_height x1 x2) a i k) c → wb_X3_lowerThan_15 Q tr_fruits tr_x tr_height n x1 x2 (itr (bd_X3_lowerThan_15 tr_fruits tr_x tr_height x1 x2) a i k) c := by
  intro n
  induction n with
  | zero => intro k c hc hk h; exact False.elim h
  | succ n ih =>
    intro k c hc hk h
    have hr := tp_r tr_fruits
    have hi : Int32.toInt c = ((i + k : Nat) : Int) := by rw [hc]; exact nI_toInt (by omega)
    refine And.intro (fun t0 => ?_) (fun t0 => ?_)
    · have h := And.left h t0
      have t1 := (fa_le _ _).mp t0
      have hk2 : k = (Int32.toInt tr_fruits - ((i : Nat) : Int)).toNat := by omega
      subst hk2
      exact hE _ _ hc rfl h
    · have h := And.right h t0
      have t1 := mt (fa_le _ _).mpr t0
      have hs : ∀ o : Int32, o = itr (bd_X3_lowerThan_15 tr_fruits tr_x tr_height x1 x2) a i (k + 1) → wb_X3_lowerThan_15 P tr_fruits tr_x tr_height n x1 x2 o (c + 1) → wb_X3_lowerThan_15 Q tr_fruits tr_x tr_height n x1 x2 o (c + 1) := by
        intro o eo h9
        have q := ih (k + 1) (c + 1) (by rw [hc]; exact nI_1 _) (by omega)
        rw [← eo] at q
        exact q h9
      rw [itr_s, ← hc, bd_X3_lowerThan_15] at hs
      refine And.intro (And.left h) ?_
      have h := And.right h
      refine ae ?_
      have h := h _ rfl
      refine And.intro (And.left h) ?_
      have h := And.right h
      refine ae ?_
      have h := h _ rfl
      refine ae ?_
      have h := h _ rfl
      refine And.intro (fun c1 => ?_) (fun c1 => ?_)
      · have h := And.left h c1
        rw [if_pos c1] at hs
        rw [j_X3_lowerThan_65] at hs
        unfold ws_X3_lowerThan_65 at h ⊢
        rw [j_X3_lowerThan_66] at hs
        unfold ws_X3_lowerThan_66 at h ⊢
        refine And.intro (fun c2 => ?_) (fun c2 => ?_)
        · have h := And.left h c2
          rw [if_pos c2] at hs
          rw [j_X3_lowerThan_89] at hs
          unfold ws_X3_lowerThan_89 at h ⊢
          refine ae ?_
          have h := h _ rfl
          have q9 := hs _ rfl
          exact q9 h
        · have h := And.right h c2
          rw [if_neg c2] at hs
          refine ae ?_
          have h := h _ rfl
          refine And.intro (fun c3 => ?_) (fun c3 => ?_)
          · have h := And.left h c3
            rw [if_pos c3] at hs
            rw [j_X3_lowerThan_89] at hs
            unfold ws_X3_lowerThan_89 at h ⊢
            refine ae ?_
            have h := h _ rfl
            have q9 := hs _ rfl
            exact q9 h
          · have h := And.right h c3
            rw [if_neg c3] at hs
            refine ae ?_
            have h := h _ rfl
            rw [j_X3_lowerThan_89] at hs
            unfold ws_X3_lowerThan_89 at h ⊢
            refine ae ?_
            have h := h _ rfl
            have q9 := hs _ rfl
            exact q9 h
      · have h := And.right h c1
        rw [if_neg c1] at hs
        refine And.intro (And.left h) ?_
        have h := And.right h
        refine ae ?_
        have h := h _ rfl
        refine And.intro (And.left h) ?_
        have h := And.right h
        refine And.intro (fun c4 => ?_) (fun c4 => ?_)
        · have h := And.left h c4
          rw [if_pos c4] at hs
          rw [j_X3_lowerThan_65] at hs
          unfold ws_X3_lowerThan_65 at h ⊢
          rw [j_X3_lowerThan_66] at hs
          unfold ws_X3_lowerThan_66 at h ⊢
          refine And.intro (fun c5 => ?_) (fun c5 => ?_)
          · have h := And.left h c5
            rw [if_pos c5] at hs
            rw [j_X3_lowerThan_89] at hs
            unfold ws_X3_lowerThan_89 at h ⊢
            refine ae ?_
            have h := h _ rfl
            have q9 := hs _ rfl
            exact q9 h
          · have h := And.right h c5
            rw [if_neg c5] at hs
            refine ae ?_
            have h := h _ rfl
            refine And.intro (fun c6 => ?_) (fun c6 => ?_)
            · have h := And.left h c6
              rw [if_pos c6] at hs
              rw [j_X3_lowerThan_89] at hs
              unfold ws_X3_lowerThan_89 at h ⊢
              refine ae ?_
              have h := h _ rfl
              have q9 := hs _ rfl
              exact q9 h
            · have h := And.right h c6
              rw [if_neg c6] at hs
              refine ae ?_
              have h := h _ rfl
              rw [j_X3_lowerThan_89] at hs
              unfold ws_X3_lowerThan_89 at h ⊢
              refine ae ?_
              have h := h _ rfl
              have q9 := hs _ rfl
              exact q9 h
        · have h := And.right h c4
          rw [if_neg c4] at hs
          rw [j_X3_lowerThan_66] at hs
          unfold ws_X3_lowerThan_66 at h ⊢
          refine And.intro (fun c7 => ?_) (fun c7 => ?_)
          · have h := And.left h c7
            rw [if_pos c7] at hs
            rw [j_X3_lowerThan_89] at hs
            unfold ws_X3_lowerThan_89 at h ⊢
            refine ae ?_
            have h := h _ rfl
            have q9 := hs _ rfl
            exact q9 h
          · have h := And.right h c7
            rw [if_neg c7] at hs
            refine ae ?_
            have h := h _ rfl
            refine And.intro (fun c8 => ?_) (fun c8 => ?_)
            · have h := And.left h c8
              rw [if_pos c8] at hs
              rw [j_X3_lowerThan_89] at hs
              unfold ws_X3_lowerThan_89 at h ⊢
              refine ae ?_
              have h := h _ rfl
              have q9 := hs _ rfl
              exact q9 h
            · have h := And.right h c8
              rw [if_neg c8] at hs
              refine ae ?_
              have h := h _ rfl
              rw [j_X3_lowerThan_89] at hs
              unfold ws_X3_lowerThan_89 at h ⊢
              refine ae ?_
              have h := h _ rfl
              have q9 := hs _ rfl
              exact q9 h
noncomputable def F_X3_lowerThan (p0 : Int32) (p1 : Int32) (tr_fruits : Int32) (tr_x : Nat → Int32) (tr_height : Nat → Int32) : Int32 := if ((p1 >>> (p0 &&& 31)) &&& 1) = 0 then 0 else (ex_X3_lowerThan_15 (fun o0 => o0) tr_fruits tr_x tr_height p0 p1 (nI (0 + (Int32.toInt tr_fruits - ((0 : Nat) : Int)).toNat)) (itr (bd_X3_lowerThan_15 tr_fruits tr_x tr_height p0 p1) 0 0 (Int32.toInt tr_fruits - ((0 : Nat) : Int)).toNat))
set_option maxHeartbeats 200000 in
set_option maxRecDepth 10000 in
theorem dt_X3_lowerThan {P Q : Int32 → Prop} {p0 : Int32} {p1 : Int32} {tr_fruits : Int32} {tr_x : Nat → Int32} {tr_height : Nat → Int32} (h : wp_X3_lowerThan P p0 p1 tr_fruits tr_x tr_height) (hq : ∀ o : Int32, o = F_X3_lowerThan p0 p1 tr_fruits tr_x tr_height → P o → Q o) : wp_X3_lowerThan Q p0 p1 tr_fruits tr_x tr_height := by
  rw [F_X3_lowerThan] at hq
  refine ae ?_
  have h := h _ rfl
  refine And.intro (fun c1 => ?_) (fun c1 => ?_)
  · have h := And.left h c1
    rw [if_neg c1] at hq
    obtain ⟨n2, h⟩ := h
    refine ⟨n2, dl_X3_lowerThan_15 (a := 0) (i := 0) (by decide) ?_ n2 0 0 (by decide) (Nat.zero_le _) h⟩
    intro cc3 s4 ec5 es6 h
    rw [← ec5, ← es6, ex_X3_lowerThan_15] at hq
    have q9 := hq _ rfl
    exact q9 h
  · have h := And.right h c1
    rw [if_pos c1] at hq
    have q9 := hq _ rfl
    exact q9 h
theorem du_X3_lowerThan {P Q : Int32 → Prop} {p0 : Int32} {p1 : Int32} {tr_fruits : Int32} {tr_x : Nat → Int32} {tr_height : Nat → Int32} (h : wp_X3_lowerThan P p0 p1 tr_fruits tr_x tr_height) (hq : P (F_X3_lowerThan p0 p1 tr_fruits tr_x tr_height) → Q (F_X3_lowerThan p0 p1 tr_fruits tr_x tr_height)) : wp_X3_lowerThan Q p0 p1 tr_fruits tr_x tr_height := dt_X3_lowerThan h (fun o eo => by rw [eo]; exact hq)
noncomputable def F_X2_write (p1 : Int32) (no_apron : Int32) (no_basket : Int32) (no_ground : Int32) (no_bruised : Int32) (no_ladder : Int32) (no_helper : Int32) (no_today : Int32) (no_clock : Int32) (pa_cells : Nat → Int32) : (Nat → Int32) := if p1 < 0 then pa_cells else (if p1 ≤ (104 - 8) then (upd (upd (upd (upd (upd (upd (upd (upd pa_cells p1.toNatClampNeg no_apron) (p1 + 1).toNatClampNeg no_basket) (p1 + 2).toNatClampNeg no_ground) (p1 + 3).toNatClampNeg no_bruised) (p1 + 4).toNatClampNeg no_ladder) (p1 + 5).toNatClampNeg no_helper) (p1 + 6).toNatClampNeg no_today) (p1 + 7).toNatClampNeg no_clock) else pa_cells)
set_option maxHeartbeats 200000 in
set_option maxRecDepth 10000 in
theorem dt_X2_write {P Q : (Nat → Int32) → Prop} {p1 : Int32} {no_apron : Int32} {no_basket : Int32} {no_ground : Int32} {no_bruised : Int32} {no_ladder : Int32} {no_helper : Int32} {no_today : Int32} {no_clock : Int32} {pa_cells : Nat → Int32} (h : wp_X2_write P p1 no_apron no_basket no_ground no_bruised no_ladder no_helper no_today no_clock pa_cells) (hq : ∀ o : (Nat → Int32), o = F_X2_write p1 no_apron no_basket no_ground no_bruised no_ladder no_helper no_today no_clock pa_cells → P o → Q o) : wp_X2_write Q p1 no_apron no_basket no_ground no_bruised no_ladder no_helper no_today no_clock pa_cells := by
  rw [F_X2_write] at hq
  refine And.intro (fun c1 => ?_) (fun c1 => ?_)
  · have h := And.left h c1
    rw [if_pos c1] at hq
    have q9 := hq _ rfl
    exact q9 h
  · have h := And.right h c1
    rw [if_neg c1] at hq
    refine And.intro (fun c2 => ?_) (fun c2 => ?_)
    · have h := And.left h c2
      rw [if_pos c2] at hq
      refine And.intro (And.left h) ?_
      have h := And.right h
      refine ae ?_
      have h := h _ rfl
      refine And.intro (And.left h) ?_
      have h := And.right h
      refine ae ?_
      have h := h _ rfl
      refine And.intro (And.left h) ?_
      have h := And.right h
      refine ae ?_
      have h := h _ rfl
      refine And.intro (And.left h) ?_
      have h := And.right h
      refine ae ?_
      have h := h _ rfl
      refine And.intro (And.left h) ?_
      have h := And.right h
      refine ae ?_
      have h := h _ rfl
      refine And.intro (And.left h) ?_
      have h := And.right h
      refine ae ?_
      have h := h _ rfl
      refine And.intro (And.left h) ?_
      have h := And.right h
      refine ae ?_
      have h := h _ rfl
      refine And.intro (And.left h) ?_
      have h := And.right h
      have q9 := hq _ rfl
      exact q9 h
    · have h := And.right h c2
      rw [if_neg c2] at hq
      have q9 := hq _ rfl
      exact q9 h
theorem du_X2_write {P Q : (Nat → Int32) → Prop} {p1 : Int32} {no_apron : Int32} {no_basket : Int32} {no_ground : Int32} {no_bruised : Int32} {no_ladder : Int32} {no_helper : Int32} {no_today : Int32} {no_clock : Int32} {pa_cells : Nat → Int32} (h : wp_X2_write P p1 no_apron no_basket no_ground no_bruised no_ladder no_helper no_today no_clock pa_cells) (hq : P (F_X2_write p1 no_apron no_basket no_ground no_bruised no_ladder no_helper no_today no_clock pa_cells) → Q (F_X2_write p1 no_apron no_basket no_ground no_bruised no_ladder no_helper no_today no_clock pa_cells)) : wp_X2_write Q p1 no_apron no_basket no_ground no_bruised no_ladder no_helper no_today no_clock pa_cells := dt_X2_write h (fun o eo => by rw [eo]; exact hq)
noncomputable def F_X4_note (no_apron : Int32) (no_basket : Int32) (no_ground : Int32) (no_bruised : Int32) (no_ladder : Int32) (no_helper : Int32) (no_today : Int32) (no_clock : Int32) (pa_free : Int32) (pa_cells : Nat → Int32) : (Nat → Int32) := (F_X2_write (pa_free * 8) no_apron no_basket no_ground no_bruised no_ladder no_helper no_today no_clock pa_cells)
set_option maxHeartbeats 200000 in
set_option maxRecDepth 10000 in
theorem dt_X4_note {P Q : (Nat → Int32) → Prop} {no_apron : Int32} {no_basket : Int32} {no_ground : Int32} {no_bruised : Int32} {no_ladder : Int32} {no_helper : Int32} {no_today : Int32} {no_clock : Int32} {pa_free : Int32} {pa_cells : Nat → Int32} (h : wp_X4_note P no_apron no_basket no_ground no_bruised no_ladder no_helper no_today no_clock pa_free pa_cells) (hq : ∀ o : (Nat → Int32), o = F_X4_note no_apron no_basket no_ground no_bruised no_ladder no_helper no_today no_clock pa_free pa_cells → P o → Q o) : wp_X4_note Q no_apron no_basket no_ground no_bruised no_ladder no_helper no_today no_clock pa_free pa_cells := by
  rw [F_X4_note] at hq
  refine ae ?_
  have h := h _ rfl
  refine du_X2_write h ?_
  intro h
  have q9 := hq _ rfl
  exact q9 h
theorem du_X4_note {P Q : (Nat → Int32) → Prop} {no_apron : Int32} {no_basket : Int32} {no_ground : Int32} {no_bruised : Int32} {no_ladder : Int32} {no_helper : Int32} {no_today : Int32} {no_clock : Int32} {pa_free : Int32} {pa_cells : Nat → Int32} (h : wp_X4_note P no_apron no_basket no_ground no_bruised no_ladder no_helper no_today no_clock pa_free pa_cells) (hq : P (F_X4_note no_apron no_basket no_ground no_bruised no_ladder no_helper no_today no_clock pa_free pa_cells) → Q (F_X4_note no_apron no_basket no_ground no_bruised no_ladder no_helper no_today no_clock pa_free pa_cells)) : wp_X4_note Q no_apron no_basket no_ground no_bruised no_ladder no_helper no_today no_clock pa_free pa_cells := dt_X4_note h (fun o eo => by rw [eo]; exact hq)
noncomputable def F_X3_moveSeconds (p0 : Int32) (p1 : Int32) (tr_foot : Nat → Int32) (tr_settings : Nat → Int32) : Int32 := if p0 = (-1) then 9 else (9 + ((tr_settings (3 : Int32).toNatClampNeg) * (if 0 ≤ ((tr_foot p0.toNatClampNeg) - (tr_foot p1.toNatClampNeg)) then ((tr_foot p0.toNatClampNeg) - (tr_foot p1.toNatClampNeg)) else 0 - ((tr_foot p0.toNatClampNeg) - (tr_foot p1.toNatClampNeg)))))
set_option maxHeartbeats 200000 in
set_option maxRecDepth 10000 in
theorem dt_X3_moveSeconds {P Q : Int32 → Prop} {p0 : Int32} {p1 : Int32} {tr_foot : Nat → Int32} {tr_settings : Nat → Int32} (h : wp_X3_moveSeconds P p0 p1 tr_foot tr_settings) (hq : ∀ o : Int32, o = F_X3_moveSeconds p0 p1 tr_foot tr_settings → P o → Q o) : wp_X3_moveSeconds Q p0 p1 tr_foot tr_settings := by
  rw [F_X3_moveSeconds] at hq
  refine And.intro (fun c1 => ?_) (fun c1 => ?_)
  · have h := And.left h c1
    rw [if_neg c1] at hq
    refine ae ?_
    have h := h _ rfl
    refine And.intro (And.left h) ?_
    have h := And.right h
    refine ae ?_
    have h := h _ rfl
    refine And.intro (And.left h) ?_
    have h := And.right h
    refine ae ?_
    have h := h _ rfl
    refine ae ?_
    have h := h _ rfl
    have q9 := hq _ rfl
    exact q9 h
  · have h := And.right h c1
    rw [if_pos c1] at hq
    have q9 := hq _ rfl
    exact q9 h
theorem du_X3_moveSeconds {P Q : Int32 → Prop} {p0 : Int32} {p1 : Int32} {tr_foot : Nat → Int32} {tr_settings : Nat → Int32} (h : wp_X3_moveSeconds P p0 p1 tr_foot tr_settings) (hq : P (F_X3_moveSeconds p0 p1 tr_foot tr_settings) → Q (F_X3_moveSeconds p0 p1 tr_foot tr_settings)) : wp_X3_moveSeconds Q p0 p1 tr_foot tr_settings := dt_X3_moveSeconds h (fun o eo => by rw [eo]; exact hq)
noncomputable def F_X2_emptyApron (no_apron : Int32) (no_basket : Int32) : Int32 × Int32 := (0, (no_basket ||| no_apron))
set_option maxHeartbeats 200000 in
set_option maxRecDepth 10000 in
theorem dt_X2_emptyApron {P Q : Int32 → Int32 → Prop} {no_apron : Int32} {no_basket : Int32} (h : wp_X2_emptyApron P no_apron no_basket) (hq : ∀ o : Int32 × Int32, o = F_X2_emptyApron no_apron no_basket → P o.1 o.2 → Q o.1 o.2) : wp_X2_emptyApron Q no_apron no_basket := by
  rw [F_X2_emptyApron] at hq
  refine ae ?_
  have h := h _ rfl
  have q9 := hq _ rfl
  dsimp only at q9
  exact q9 h
theorem du_X2_emptyApron {P Q : Int32 → Int32 → Prop} {no_apron : Int32} {no_basket : Int32} (h : wp_X2_emptyApron P no_apron no_basket) (hq : P (F_X2_emptyApron no_apron no_basket).1 (F_X2_emptyApron no_apron no_basket).2 → Q (F_X2_emptyApron no_apron no_basket).1 (F_X2_emptyApron no_apron no_basket).2) : wp_X2_emptyApron Q no_apron no_basket := dt_X2_emptyApron h (fun o eo => by rw [eo]; exact hq)
noncomputable def F_X2_spend (p0 : Int32) (no_clock : Int32) : Int32 := (if (no_clock + p0) < 9999 then (no_clock + p0) else 9999)
set_option maxHeartbeats 200000 in
set_option maxRecDepth 10000 in
theorem dt_X2_spend {P Q : Int32 → Prop} {p0 : Int32} {no_clock : Int32} (h : wp_X2_spend P p0 no_clock) (hq : ∀ o : Int32, o = F_X2_spend p0 no_clock → P o → Q o) : wp_X2_spend Q p0 no_clock := by
  rw [F_X2_spend] at hq
  refine ae ?_
  have h := h _ rfl
  refine ae ?_
  have h := h _ rfl
  have q9 := hq _ rfl
  exact q9 h
theorem du_X2_spend {P Q : Int32 → Prop} {p0 : Int32} {no_clock : Int32} (h : wp_X2_spend P p0 no_clock) (hq : P (F_X2_spend p0 no_clock) → Q (F_X2_spend p0 no_clock)) : wp_X2_spend Q p0 no_clock := dt_X2_spend h (fun o eo => by rw [eo]; exact hq)
noncomputable def j_X0_setLadder_81 {R : Type} (po : Int32 → Int32 → Int32 → Int32 → Int32 → R) (tr_standings : Int32) (tr_foot : Nat → Int32) (tr_fork : Nat → Int32) (tr_settings : Nat → Int32) (x1 : Int32) (x2 : Int32) (no_apron : Int32) (no_basket : Int32) (no_ladder : Int32) (no_clock : Int32) : R := po x2 ((F_X2_emptyApron no_apron no_basket).1) ((F_X2_emptyApron no_apron no_basket).2) x1 (F_X2_spend x2 no_clock)
noncomputable def F_X0_setLadder (p0 : Int32) (tr_standings : Int32) (tr_foot : Nat → Int32) (tr_fork : Nat → Int32) (tr_settings : Nat → Int32) (no_apron : Int32) (no_basket : Int32) (no_ladder : Int32) (no_clock : Int32) : Int32 × Int32 × Int32 × Int32 × Int32 := if (F_X3_hasStanding p0 tr_standings) = 0 then ((-1), no_apron, no_basket, no_ladder, no_clock) else (if p0 = no_ladder then ((-2), no_apron, no_basket, no_ladder, no_clock) else (if no_apron = 0 then (j_X0_setLadder_81 (fun o0 o1 o2 o3 o4 => (o0, o1, o2, o3, o4)) tr_standings tr_foot tr_fork tr_settings p0 (F_X3_moveSeconds no_ladder p0 tr_foot tr_settings) no_apron no_basket no_ladder no_clock) else (if no_ladder = (-1) then (j_X0_setLadder_81 (fun o0 o1 o2 o3 o4 => (o0, o1, o2, o3, o4)) tr_standings tr_foot tr_fork tr_settings p0 (F_X3_moveSeconds no_ladder p0 tr_foot tr_settings) no_apron no_basket no_ladder no_clock) else (j_X0_setLadder_81 (fun o0 o1 o2 o3 o4 => (o0, o1, o2, o3, o4)) tr_standings tr_foot tr_fork tr_settings p0 ((F_X3_moveSeconds no_ladder p0 tr_foot tr_settings) + (F_X3_downSeconds no_ladder tr_fork)) no_apron no_basket no_ladder no_clock))))
set_option maxHeartbeats 200000 in
set_option maxRecDepth 10000 in
theorem dt_X0_setLadder {P Q : Int32 → Int32 → Int32 → Int32 → Int32 → Prop} {p0 : Int32} {tr_standings : Int32} {tr_foot : Nat → Int32} {tr_fork : Nat → Int32} {tr_settings : Nat → Int32} {no_apron : Int32} {no_basket : Int32} {no_ladder : Int32} {no_clock : Int32} (h : wp_X0_setLadder P p0 tr_standings tr_foot tr_fork tr_settings no_apron no_basket no_ladder no_clock) (hq : ∀ o : Int32 × Int32 × Int32 × Int32 × Int32, o = F_X0_setLadder p0 tr_standings tr_foot tr_fork tr_settings no_apron no_basket no_ladder no_clock → P o.1 o.2.1 o.2.2.1 o.2.2.2.1 o.2.2.2.2 → Q o.1 o.2.1 o.2.2.1 o.2.2.2.1 o.2.2.2.2) : wp_X0_setLadder Q p0 tr_standings tr_foot tr_fork tr_settings no_apron no_basket no_ladder no_clock := by
  rw [F_X0_setLadder] at hq
  refine du_X3_hasStanding h ?_
  intro h
  refine And.intro (fun c1 => ?_) (fun c1 => ?_)
  · have h := And.left h c1
    rw [if_neg c1] at hq
    refine And.intro (fun c2 => ?_) (fun c2 => ?_)
    · have h := And.left h c2
      rw [if_neg c2] at hq
      refine du_X3_moveSeconds h ?_
      intro h
      refine And.intro (fun c3 => ?_) (fun c3 => ?_)
      · have h := And.left h c3
        rw [if_pos c3] at hq
        rw [j_X0_setLadder_81] at hq
        unfold ws_X0_setLadder_81 at h ⊢
        refine du_X2_emptyApron h ?_
        intro h
        refine du_X2_spend h ?_
        intro h
        have q9 := hq _ rfl
        dsimp only at q9
        exact q9 h
      · have h := And.right h c3
        rw [if_neg c3] at hq
        refine And.intro (fun c4 => ?_) (fun c4 => ?_)
        · have h := And.left h c4
          rw [if_pos c4] at hq
          rw [j_X0_setLadder_81] at hq
          unfold ws_X0_setLadder_81 at h ⊢
          refine du_X2_emptyApron h ?_
          intro h
          refine du_X2_spend h ?_
          intro h
          have q9 := hq _ rfl
          dsimp only at q9
          exact q9 h
        · have h := And.right h c4
          rw [if_neg c4] at hq
          refine du_X3_downSeconds h ?_
          intro h
          refine ae ?_
          have h := h _ rfl
          rw [j_X0_setLadder_81] at hq
          unfold ws_X0_setLadder_81 at h ⊢
          refine du_X2_emptyApron h ?_
          intro h
          refine du_X2_spend h ?_
          intro h
          have q9 := hq _ rfl
          dsimp only at q9
          exact q9 h
    · have h := And.right h c2
      rw [if_pos c2] at hq
      have q9 := hq _ rfl
      dsimp only at q9
      exact q9 h
  · have h := And.right h c1
    rw [if_pos c1] at hq
    have q9 := hq _ rfl
    dsimp only at q9
    exact q9 h
theorem du_X0_setLadder {P Q : Int32 → Int32 → Int32 → Int32 → Int32 → Prop} {p0 : Int32} {tr_standings : Int32} {tr_foot : Nat → Int32} {tr_fork : Nat → Int32} {tr_settings : Nat → Int32} {no_apron : Int32} {no_basket : Int32} {no_ladder : Int32} {no_clock : Int32} (h : wp_X0_setLadder P p0 tr_standings tr_foot tr_fork tr_settings no_apron no_basket no_ladder no_clock) (hq : P (F_X0_setLadder p0 tr_standings tr_foot tr_fork tr_settings no_apron no_basket no_ladder no_clock).1 (F_X0_setLadder p0 tr_standings tr_foot tr_fork tr_settings no_apron no_basket no_ladder no_clock).2.1 (F_X0_setLadder p0 tr_standings tr_foot tr_fork tr_settings no_apron no_basket no_ladder no_clock).2.2.1 (F_X0_setLadder p0 tr_standings tr_foot tr_fork tr_settings no_apron no_basket no_ladder no_clock).2.2.2.1 (F_X0_setLadder p0 tr_standings tr_foot tr_fork tr_settings no_apron no_basket no_ladder no_clock).2.2.2.2 → Q (F_X0_setLadder p0 tr_standings tr_foot tr_fork tr_settings no_apron no_basket no_ladder no_clock).1 (F_X0_setLadder p0 tr_standings tr_foot tr_fork tr_settings no_apron no_basket no_ladder no_clock).2.1 (F_X0_setLadder p0 tr_standings tr_foot tr_fork tr_settings no_apron no_basket no_ladder no_clock).2.2.1 (F_X0_setLadder p0 tr_standings tr_foot tr_fork tr_settings no_apron no_basket no_ladder no_clock).2.2.2.1 (F_X0_setLadder p0 tr_standings tr_foot tr_fork tr_settings no_apron no_basket no_ladder no_clock).2.2.2.2) : wp_X0_setLadder Q p0 tr_standings tr_foot tr_fork tr_settings no_apron no_basket no_ladder no_clock := dt_X0_setLadder h (fun o eo => by rw [eo]; exact hq)
noncomputable def F_X4_hold (pa_undoable : Int32) (pa_free : Int32) : Int32 × Int32 := ((if (pa_undoable + 1) < 12 then (pa_undoable + 1) else 12), ((pa_free + 1) - (pa_free + 1) / 13 * 13))
set_option maxHeartbeats 200000 in
set_option maxRecDepth 10000 in
theorem dt_X4_hold {P Q : Int32 → Int32 → Prop} {pa_undoable : Int32} {pa_free : Int32} (h : wp_X4_hold P pa_undoable pa_free) (hq : ∀ o : Int32 × Int32, o = F_X4_hold pa_undoable pa_free → P o.1 o.2 → Q o.1 o.2) : wp_X4_hold Q pa_undoable pa_free := by
  rw [F_X4_hold] at hq
  refine ae ?_
  have h := h _ rfl
  refine ae ?_
  have h := h _ rfl
  refine ae ?_
  have h := h _ rfl
  refine ae ?_
  have h := h _ rfl
  have q9 := hq _ rfl
  dsimp only at q9
  exact q9 h
theorem du_X4_hold {P Q : Int32 → Int32 → Prop} {pa_undoable : Int32} {pa_free : Int32} (h : wp_X4_hold P pa_undoable pa_free) (hq : P (F_X4_hold pa_undoable pa_free).1 (F_X4_hold pa_undoable pa_free).2 → Q (F_X4_hold pa_undoable pa_free).1 (F_X4_hold pa_undoable pa_free).2) : wp_X4_hold Q pa_undoable pa_free := dt_X4_hold h (fun o eo => by rw [eo]; exact hq)
noncomputable def F_X9_holdIfDone (p0 : Int32) (pa_undoable : Int32) (pa_free : Int32) : Int32 × Int32 × Int32 := if p0 < 0 then (p0, pa_undoable, pa_free) else (p0, (F_X4_hold pa_undoable pa_free).1, (F_X4_hold pa_undoable pa_free).2)
set_option maxHeartbeats 200000 in
set_option maxRecDepth 10000 in
theorem dt_X9_holdIfDone {P Q : Int32 → Int32 → Int32 → Prop} {p0 : Int32} {pa_undoable : Int32} {pa_free : Int32} (h : wp_X9_holdIfDone P p0 pa_undoable pa_free) (hq : ∀ o : Int32 × Int32 × Int32, o = F_X9_holdIfDone p0 pa_undoable pa_free → P o.1 o.2.1 o.2.2 → Q o.1 o.2.1 o.2.2) : wp_X9_holdIfDone Q p0 pa_undoable pa_free := by
  rw [F_X9_holdIfDone] at hq
  refine And.intro (fun c1 => ?_) (fun c1 => ?_)
  · have h := And.left h c1
    rw [if_pos c1] at hq
    have q9 := hq _ rfl
    dsimp only at q9
    exact q9 h
  · have h := And.right h c1
    rw [if_neg c1] at hq
    refine du_X4_hold h ?_
    intro h
    have q9 := hq _ rfl
    dsimp only at q9
    exact q9 h
theorem du_X9_holdIfDone {P Q : Int32 → Int32 → Int32 → Prop} {p0 : Int32} {pa_undoable : Int32} {pa_free : Int32} (h : wp_X9_holdIfDone P p0 pa_undoable pa_free) (hq : P (F_X9_holdIfDone p0 pa_undoable pa_free).1 (F_X9_holdIfDone p0 pa_undoable pa_free).2.1 (F_X9_holdIfDone p0 pa_undoable pa_free).2.2 → Q (F_X9_holdIfDone p0 pa_undoable pa_free).1 (F_X9_holdIfDone p0 pa_undoable pa_free).2.1 (F_X9_holdIfDone p0 pa_undoable pa_free).2.2) : wp_X9_holdIfDone Q p0 pa_undoable pa_free := dt_X9_holdIfDone h (fun o eo => by rw [eo]; exact hq)
theorem dw_X9_holdIfDone {Q : Int32 → Int32 → Int32 → Prop} {p0 : Int32} {pa_undoable : Int32} {pa_free : Int32} (h : wp_X9_holdIfDone (fun o0 o1 o2 => (o0, o1, o2) = F_X9_holdIfDone p0 pa_undoable pa_free → Q o0 o1 o2) p0 pa_undoable pa_free) : wp_X9_holdIfDone Q p0 pa_undoable pa_free := dt_X9_holdIfDone h (fun o eo hp => hp eo)
noncomputable def F_X9_move (p0 : Int32) (tr_standings : Int32) (tr_foot : Nat → Int32) (tr_fork : Nat → Int32) (tr_settings : Nat → Int32) (no_apron : Int32) (no_basket : Int32) (no_ground : Int32) (no_bruised : Int32) (no_ladder : Int32) (no_helper : Int32) (no_today : Int32) (no_clock : Int32) (pa_undoable : Int32) (pa_free : Int32) (pa_cells : Nat → Int32) : Int32 × Int32 × Int32 × Int32 × Int32 × Int32 × Int32 × (Nat → Int32) := ((F_X9_holdIfDone (F_X0_setLadder p0 tr_standings tr_foot tr_fork tr_settings no_apron no_basket no_ladder no_clock).1 pa_undoable pa_free).1, (F_X0_setLadder p0 tr_standings tr_foot tr_fork tr_settings no_apron no_basket no_ladder no_clock).2.1, (F_X0_setLadder p0 tr_standings tr_foot tr_fork tr_settings no_apron no_basket no_ladder no_clock).2.2.1, (F_X0_setLadder p0 tr_standings tr_foot tr_fork tr_settings no_apron no_basket no_ladder no_clock).2.2.2.1, (F_X0_setLadder p0 tr_standings tr_foot tr_fork tr_settings no_apron no_basket no_ladder no_clock).2.2.2.2, (F_X9_holdIfDone (F_X0_setLadder p0 tr_standings tr_foot tr_fork tr_settings no_apron no_basket no_ladder no_clock).1 pa_undoable pa_free).2.1, (F_X9_holdIfDone (F_X0_setLadder p0 tr_standings tr_foot tr_fork tr_settings no_apron no_basket no_ladder no_clock).1 pa_undoable pa_free).2.2, (F_X4_note no_apron no_basket no_ground no_bruised no_ladder no_helper no_today no_clock pa_free pa_cells))
set_option maxHeartbeats 200000 in
set_option maxRecDepth 10000 in
theorem dt_X9_move {P Q : Int32 → Int32 → Int32 → Int32 → Int32 → Int32 → Int32 → (Nat → Int32) → Prop} {p0 : Int32} {tr_standings : Int32} {tr_foot : Nat → Int32} {tr_fork : Nat → Int32} {tr_settings : Nat → Int32} {no_apron : Int32} {no_basket : Int32} {no_ground : Int32} {no_bruised : Int32} {no_ladder : Int32} {no_helper : Int32} {no_today : Int32} {no_clock : Int32} {pa_undoable : Int32} {pa_free : Int32} {pa_cells : Nat → Int32} (h : wp_X9_move P p0 tr_standings tr_foot tr_fork tr_settings no_apron no_basket no_ground no_bruised no_ladder no_helper no_today no_clock pa_undoable pa_free pa_cells) (hq : ∀ o : Int32 × Int32 × Int32 × Int32 × Int32 × Int32 × Int32 × (Nat → Int32), o = F_X9_move p0 tr_standings tr_foot tr_fork tr_settings no_apron no_basket no_ground no_bruised no_ladder no_helper no_today no_clock pa_undoable pa_free pa_cells → P o.1 o.2.1 o.2.2.1 o.2.2.2.1 o.2.2.2.2.1 o.2.2.2.2.2.1 o.2.2.2.2.2.2.1 o.2.2.2.2.2.2.2 → Q o.1 o.2.1 o.2.2.1 o.2.2.2.1 o.2.2.2.2.1 o.2.2.2.2.2.1 o.2.2.2.2.2.2.1 o.2.2.2.2.2.2.2) : wp_X9_move Q p0 tr_standings tr_foot tr_fork tr_settings no_apron no_basket no_ground no_bruised no_ladder no_helper no_today no_clock pa_undoable pa_free pa_cells := by
  rw [F_X9_move] at hq
  refine du_X4_note h ?_
  intro h
  refine du_X0_setLadder h ?_
  intro h
  refine du_X9_holdIfDone h ?_
  intro h
  have q9 := hq _ rfl
  dsimp only at q9
  exact q9 h
theorem du_X9_move {P Q : Int32 → Int32 → Int32 → Int32 → Int32 → Int32 → Int32 → (Nat → Int32) → Prop} {p0 : Int32} {tr_standings : Int32} {tr_foot : Nat → Int32} {tr_fork : Nat → Int32} {tr_settings : Nat → Int32} {no_apron : Int32} {no_basket : Int32} {no_ground : Int32} {no_bruised : Int32} {no_ladder : Int32} {no_helper : Int32} {no_today : Int32} {no_clock : Int32} {pa_undoable : Int32} {pa_free : Int32} {pa_cells : Nat → Int32} (h : wp_X9_move P p0 tr_standings tr_foot tr_fork tr_settings no_apron no_basket no_ground no_bruised no_ladder no_helper no_today no_clock pa_undoable pa_free pa_cells) (hq : P (F_X9_move p0 tr_standings tr_foot tr_fork tr_settings no_apron no_basket no_ground no_bruised no_ladder no_helper no_today no_clock pa_undoable pa_free pa_cells).1 (F_X9_move p0 tr_standings tr_foot tr_fork tr_settings no_apron no_basket no_ground no_bruised no_ladder no_helper no_today no_clock pa_undoable pa_free pa_cells).2.1 (F_X9_move p0 tr_standings tr_foot tr_fork tr_settings no_apron no_basket no_ground no_bruised no_ladder no_helper no_today no_clock pa_undoable pa_free pa_cells).2.2.1 (F_X9_move p0 tr_standings tr_foot tr_fork tr_settings no_apron no_basket no_ground no_bruised no_ladder no_helper no_today no_clock pa_undoable pa_free pa_cells).2.2.2.1 (F_X9_move p0 tr_standings tr_foot tr_fork tr_settings no_apron no_basket no_ground no_bruised no_ladder no_helper no_today no_clock pa_undoable pa_free pa_cells).2.2.2.2.1 (F_X9_move p0 tr_standings tr_foot tr_fork tr_settings no_apron no_basket no_ground no_bruised no_ladder no_helper no_today no_clock pa_undoable pa_free pa_cells).2.2.2.2.2.1 (F_X9_move p0 tr_standings tr_foot tr_fork tr_settings no_apron no_basket no_ground no_bruised no_ladder no_helper no_today no_clock pa_undoable pa_free pa_cells).2.2.2.2.2.2.1 (F_X9_move p0 tr_standings tr_foot tr_fork tr_settings no_apron no_basket no_ground no_bruised no_ladder no_helper no_today no_clock pa_undoable pa_free pa_cells).2.2.2.2.2.2.2 → Q (F_X9_move p0 tr_standings tr_foot tr_fork tr_settings no_apron no_basket no_ground no_bruised no_ladder no_helper no_today no_clock pa_undoable pa_free pa_cells).1 (F_X9_move p0 tr_standings tr_foot tr_fork tr_settings no_apron no_basket no_ground no_bruised no_ladder no_helper no_today no_clock pa_undoable pa_free pa_cells).2.1 (F_X9_move p0 tr_standings tr_foot tr_fork tr_settings no_apron no_basket no_ground no_bruised no_ladder no_helper no_today no_clock pa_undoable pa_free pa_cells).2.2.1 (F_X9_move p0 tr_standings tr_foot tr_fork tr_settings no_apron no_basket no_ground no_bruised no_ladder no_helper no_today no_clock pa_undoable pa_free pa_cells).2.2.2.1 (F_X9_move p0 tr_standings tr_foot tr_fork tr_settings no_apron no_basket no_ground no_bruised no_ladder no_helper no_today no_clock pa_undoable pa_free pa_cells).2.2.2.2.1 (F_X9_move p0 tr_standings tr_foot tr_fork tr_settings no_apron no_basket no_ground no_bruised no_ladder no_helper no_today no_clock pa_undoable pa_free pa_cells).2.2.2.2.2.1 (F_X9_move p0 tr_standings tr_foot tr_fork tr_settings no_apron no_basket no_ground no_bruised no_ladder no_helper no_today no_clock pa_undoable pa_free pa_cells).2.2.2.2.2.2.1 (F_X9_move p0 tr_standings tr_foot tr_fork tr_settings no_apron no_basket no_ground no_bruised no_ladder no_helper no_today no_clock pa_undoable pa_free pa_cells).2.2.2.2.2.2.2) : wp_X9_move Q p0 tr_standings tr_foot tr_fork tr_settings no_apron no_basket no_ground no_bruised no_ladder no_helper no_today no_clock pa_undoable pa_free pa_cells := dt_X9_move h (fun o eo => by rw [eo]; exact hq)
theorem dw_X9_move {Q : Int32 → Int32 → Int32 → Int32 → Int32 → Int32 → Int32 → (Nat → Int32) → Prop} {p0 : Int32} {tr_standings : Int32} {tr_foot : Nat → Int32} {tr_fork : Nat → Int32} {tr_settings : Nat → Int32} {no_apron : Int32} {no_basket : Int32} {no_ground : Int32} {no_bruised : Int32} {no_ladder : Int32} {no_helper : Int32} {no_today : Int32} {no_clock : Int32} {pa_undoable : Int32} {pa_free : Int32} {pa_cells : Nat → Int32} (h : wp_X9_move (fun o0 o1 o2 o3 o4 o5 o6 o7 => (o0, o1, o2, o3, o4, o5, o6, o7) = F_X9_move p0 tr_standings tr_foot tr_fork tr_settings no_apron no_basket no_ground no_bruised no_ladder no_helper no_today no_clock pa_undoable pa_free pa_cells → Q o0 o1 o2 o3 o4 o5 o6 o7) p0 tr_standings tr_foot tr_fork tr_settings no_apron no_basket no_ground no_bruised no_ladder no_helper no_today no_clock pa_undoable pa_free pa_cells) : wp_X9_move Q p0 tr_standings tr_foot tr_fork tr_settings no_apron no_basket no_ground no_bruised no_ladder no_helper no_today no_clock pa_undoable pa_free pa_cells := dt_X9_move h (fun o eo hp => hp eo)
noncomputable def j_X9_isYesOrNo_9 {R : Type} (po : Int32 → R) : R := po 1
noncomputable def F_X9_isYesOrNo (p0 : Int32) : Int32 := if p0 = 0 then (j_X9_isYesOrNo_9 (fun o0 => o0)) else (if p0 = 1 then (j_X9_isYesOrNo_9 (fun o0 => o0)) else 0)
set_option maxHeartbeats 200000 in
set_option maxRecDepth 10000 in
theorem dt_X9_isYesOrNo {P Q : Int32 → Prop} {p0 : Int32} (h : wp_X9_isYesOrNo P p0) (hq : ∀ o : Int32, o = F_X9_isYesOrNo p0 → P o → Q o) : wp_X9_isYesOrNo Q p0 := by
  rw [F_X9_isYesOrNo] at hq
  refine And.intro (fun c1 => ?_) (fun c1 => ?_)
  · have h := And.left h c1
    rw [if_pos c1] at hq
    rw [j_X9_isYesOrNo_9] at hq
    unfold ws_X9_isYesOrNo_9 at h ⊢
    have q9 := hq _ rfl
    exact q9 h
  · have h := And.right h c1
    rw [if_neg c1] at hq
    refine And.intro (fun c2 => ?_) (fun c2 => ?_)
    · have h := And.left h c2
      rw [if_neg c2] at hq
      have q9 := hq _ rfl
      exact q9 h
    · have h := And.right h c2
      rw [if_pos c2] at hq
      rw [j_X9_isYesOrNo_9] at hq
      unfold ws_X9_isYesOrNo_9 at h ⊢
      have q9 := hq _ rfl
      exact q9 h
theorem du_X9_isYesOrNo {P Q : Int32 → Prop} {p0 : Int32} (h : wp_X9_isYesOrNo P p0) (hq : P (F_X9_isYesOrNo p0) → Q (F_X9_isYesOrNo p0)) : wp_X9_isYesOrNo Q p0 := dt_X9_isYesOrNo h (fun o eo => by rw [eo]; exact hq)
theorem dw_X9_isYesOrNo {Q : Int32 → Prop} {p0 : Int32} (h : wp_X9_isYesOrNo (fun o0 => o0 = F_X9_isYesOrNo p0 → Q o0) p0) : wp_X9_isYesOrNo Q p0 := dt_X9_isYesOrNo h (fun o eo hp => hp eo)
noncomputable def F_X0_setHelper (p0 : Int32) (no_helper : Int32) : Int32 × Int32 := if (F_X9_isYesOrNo p0) = 0 then ((-1), no_helper) else (no_helper, p0)
set_option maxHeartbeats 200000 in
set_option maxRecDepth 10000 in
theorem dt_X0_setHelper {P Q : Int32 → Int32 → Prop} {p0 : Int32} {no_helper : Int32} (h : wp_X0_setHelper P p0 no_helper) (hq : ∀ o : Int32 × Int32, o = F_X0_setHelper p0 no_helper → P o.1 o.2 → Q o.1 o.2) : wp_X0_setHelper Q p0 no_helper := by
  rw [F_X0_setHelper] at hq
  refine du_X9_isYesOrNo h ?_
  intro h
  refine And.intro (fun c1 => ?_) (fun c1 => ?_)
  · have h := And.left h c1
    rw [if_neg c1] at hq
    have q9 := hq _ rfl
    dsimp only at q9
    exact q9 h
  · have h := And.right h c1
    rw [if_pos c1] at hq
    have q9 := hq _ rfl
    dsimp only at q9
    exact q9 h
theorem du_X0_setHelper {P Q : Int32 → Int32 → Prop} {p0 : Int32} {no_helper : Int32} (h : wp_X0_setHelper P p0 no_helper) (hq : P (F_X0_setHelper p0 no_helper).1 (F_X0_setHelper p0 no_helper).2 → Q (F_X0_setHelper p0 no_helper).1 (F_X0_setHelper p0 no_helper).2) : wp_X0_setHelper Q p0 no_helper := dt_X0_setHelper h (fun o eo => by rw [eo]; exact hq)
noncomputable def F_X9_foot (p0 : Int32) (no_apron : Int32) (no_basket : Int32) (no_ground : Int32) (no_bruised : Int32) (no_ladder : Int32) (no_helper : Int32) (no_today : Int32) (no_clock : Int32) (pa_undoable : Int32) (pa_free : Int32) (pa_cells : Nat → Int32) : Int32 × Int32 × Int32 × Int32 × (Nat → Int32) := ((F_X9_holdIfDone (F_X0_setHelper p0 no_helper).1 pa_undoable pa_free).1, (F_X0_setHelper p0 no_helper).2, (F_X9_holdIfDone (F_X0_setHelper p0 no_helper).1 pa_undoable pa_free).2.1, (F_X9_holdIfDone (F_X0_setHelper p0 no_helper).1 pa_undoable pa_free).2.2, (F_X4_note no_apron no_basket no_ground no_bruised no_ladder no_helper no_today no_clock pa_free pa_cells))
set_option maxHeartbeats 200000 in
set_option maxRecDepth 10000 in
theorem dt_X9_foot {P Q : Int32 → Int32 → Int32 → Int32 → (Nat → Int32) → Prop} {p0 : Int32} {no_apron : Int32} {no_basket : Int32} {no_ground : Int32} {no_bruised : Int32} {no_ladder : Int32} {no_helper : Int32} {no_today : Int32} {no_clock : Int32} {pa_undoable : Int32} {pa_free : Int32} {pa_cells : Nat → Int32} (h : wp_X9_foot P p0 no_apron no_basket no_ground no_bruised no_ladder no_helper no_today no_clock pa_undoable pa_free pa_cells) (hq : ∀ o : Int32 × Int32 × Int32 × Int32 × (Nat → Int32), o = F_X9_foot p0 no_apron no_basket no_ground no_bruised no_ladder no_helper no_today no_clock pa_undoable pa_free pa_cells → P o.1 o.2.1 o.2.2.1 o.2.2.2.1 o.2.2.2.2 → Q o.1 o.2.1 o.2.2.1 o.2.2.2.1 o.2.2.2.2) : wp_X9_foot Q p0 no_apron no_basket no_ground no_bruised no_ladder no_helper no_today no_clock pa_undoable pa_free pa_cells := by
  rw [F_X9_foot] at hq
  refine du_X4_note h ?_
  intro h
  refine du_X0_setHelper h ?_
  intro h
  refine du_X9_holdIfDone h ?_
  intro h
  have q9 := hq _ rfl
  dsimp only at q9
  exact q9 h
theorem du_X9_foot {P Q : Int32 → Int32 → Int32 → Int32 → (Nat → Int32) → Prop} {p0 : Int32} {no_apron : Int32} {no_basket : Int32} {no_ground : Int32} {no_bruised : Int32} {no_ladder : Int32} {no_helper : Int32} {no_today : Int32} {no_clock : Int32} {pa_undoable : Int32} {pa_free : Int32} {pa_cells : Nat → Int32} (h : wp_X9_foot P p0 no_apron no_basket no_ground no_bruised no_ladder no_helper no_today no_clock pa_undoable pa_free pa_cells) (hq : P (F_X9_foot p0 no_apron no_basket no_ground no_bruised no_ladder no_helper no_today no_clock pa_undoable pa_free pa_cells).1 (F_X9_foot p0 no_apron no_basket no_ground no_bruised no_ladder no_helper no_today no_clock pa_undoable pa_free pa_cells).2.1 (F_X9_foot p0 no_apron no_basket no_ground no_bruised no_ladder no_helper no_today no_clock pa_undoable pa_free pa_cells).2.2.1 (F_X9_foot p0 no_apron no_basket no_ground no_bruised no_ladder no_helper no_today no_clock pa_undoable pa_free pa_cells).2.2.2.1 (F_X9_foot p0 no_apron no_basket no_ground no_bruised no_ladder no_helper no_today no_clock pa_undoable pa_free pa_cells).2.2.2.2 → Q (F_X9_foot p0 no_apron no_basket no_ground no_bruised no_ladder no_helper no_today no_clock pa_undoable pa_free pa_cells).1 (F_X9_foot p0 no_apron no_basket no_ground no_bruised no_ladder no_helper no_today no_clock pa_undoable pa_free pa_cells).2.1 (F_X9_foot p0 no_apron no_basket no_ground no_bruised no_ladder no_helper no_today no_clock pa_undoable pa_free pa_cells).2.2.1 (F_X9_foot p0 no_apron no_basket no_ground no_bruised no_ladder no_helper no_today no_clock pa_undoable pa_free pa_cells).2.2.2.1 (F_X9_foot p0 no_apron no_basket no_ground no_bruised no_ladder no_helper no_today no_clock pa_undoable pa_free pa_cells).2.2.2.2) : wp_X9_foot Q p0 no_apron no_basket no_ground no_bruised no_ladder no_helper no_today no_clock pa_undoable pa_free pa_cells := dt_X9_foot h (fun o eo => by rw [eo]; exact hq)
theorem dw_X9_foot {Q : Int32 → Int32 → Int32 → Int32 → (Nat → Int32) → Prop} {p0 : Int32} {no_apron : Int32} {no_basket : Int32} {no_ground : Int32} {no_bruised : Int32} {no_ladder : Int32} {no_helper : Int32} {no_today : Int32} {no_clock : Int32} {pa_undoable : Int32} {pa_free : Int32} {pa_cells : Nat → Int32} (h : wp_X9_foot (fun o0 o1 o2 o3 o4 => (o0, o1, o2, o3, o4) = F_X9_foot p0 no_apron no_basket no_ground no_bruised no_ladder no_helper no_today no_clock pa_undoable pa_free pa_cells → Q o0 o1 o2 o3 o4) p0 no_apron no_basket no_ground no_bruised no_ladder no_helper no_today no_clock pa_undoable pa_free pa_cells) : wp_X9_foot Q p0 no_apron no_basket no_ground no_bruised no_ladder no_helper no_today no_clock pa_undoable pa_free pa_cells := dt_X9_foot h (fun o eo hp => hp eo)
noncomputable def F_J6_bitCount_0f7a4 (p0 : Int32) : Int32 := ((((((((p0 - (((p0.toUInt32 >>> ((1 : Int32).toUInt32 &&& Int32.toUInt32 31)).toInt32) &&& 1431655765)) &&& 858993459) + ((((p0 - (((p0.toUInt32 >>> ((1 : Int32).toUInt32 &&& Int32.toUInt32 31)).toInt32) &&& 1431655765)).toUInt32 >>> ((2 : Int32).toUInt32 &&& Int32.toUInt32 31)).toInt32) &&& 858993459)) + (((((p0 - (((p0.toUInt32 >>> ((1 : Int32).toUInt32 &&& Int32.toUInt32 31)).toInt32) &&& 1431655765)) &&& 858993459) + ((((p0 - (((p0.toUInt32 >>> ((1 : Int32).toUInt32 &&& Int32.toUInt32 31)).toInt32) &&& 1431655765)).toUInt32 >>> ((2 : Int32).toUInt32 &&& Int32.toUInt32 31)).toInt32) &&& 858993459)).toUInt32 >>> ((4 : Int32).toUInt32 &&& Int32.toUInt32 31)).toInt32)) &&& 252645135) + (((((((p0 - (((p0.toUInt32 >>> ((1 : Int32).toUInt32 &&& Int32.toUInt32 31)).toInt32) &&& 1431655765)) &&& 858993459) + ((((p0 - (((p0.toUInt32 >>> ((1 : Int32).toUInt32 &&& Int32.toUInt32 31)).toInt32) &&& 1431655765)).toUInt32 >>> ((2 : Int32).toUInt32 &&& Int32.toUInt32 31)).toInt32) &&& 858993459)) + (((((p0 - (((p0.toUInt32 >>> ((1 : Int32).toUInt32 &&& Int32.toUInt32 31)).toInt32) &&& 1431655765)) &&& 858993459) + ((((p0 - (((p0.toUInt32 >>> ((1 : Int32).toUInt32 &&& Int32.toUInt32 31)).toInt32) &&& 1431655765)).toUInt32 >>> ((2 : Int32).toUInt32 &&& Int32.toUInt32 31)).toInt32) &&& 858993459)).toUInt32 >>> ((4 : Int32).toUInt32 &&& Int32.toUInt32 31)).toInt32)) &&& 252645135).toUInt32 >>> ((8 : Int32).toUInt32 &&& Int32.toUInt32 31)).toInt32)) + ((((((((p0 - (((p0.toUInt32 >>> ((1 : Int32).toUInt32 &&& Int32.toUInt32 31)).toInt32) &&& 1431655765)) &&& 858993459) + ((((p0 - (((p0.toUInt32 >>> ((1 : Int32).toUInt32 &&& Int32.toUInt32 31)).toInt32) &&& 1431655765)).toUInt32 >>> ((2 : Int32).toUInt32 &&& Int32.toUInt32 31)).toInt32) &&& 858993459)) + (((((p0 - (((p0.toUInt32 >>> ((1 : Int32).toUInt32 &&& Int32.toUInt32 31)).toInt32) &&& 1431655765)) &&& 858993459) + ((((p0 - (((p0.toUInt32 >>> ((1 : Int32).toUInt32 &&& Int32.toUInt32 31)).toInt32) &&& 1431655765)).toUInt32 >>> ((2 : Int32).toUInt32 &&& Int32.toUInt32 31)).toInt32) &&& 858993459)).toUInt32 >>> ((4 : Int32).toUInt32 &&& Int32.toUInt32 31)).toInt32)) &&& 252645135) + (((((((p0 - (((p0.toUInt32 >>> ((1 : Int32).toUInt32 &&& Int32.toUInt32 31)).toInt32) &&& 1431655765)) &&& 858993459) + ((((p0 - (((p0.toUInt32 >>> ((1 : Int32).toUInt32 &&& Int32.toUInt32 31)).toInt32) &&& 1431655765)).toUInt32 >>> ((2 : Int32).toUInt32 &&& Int32.toUInt32 31)).toInt32) &&& 858993459)) + (((((p0 - (((p0.toUInt32 >>> ((1 : Int32).toUInt32 &&& Int32.toUInt32 31)).toInt32) &&& 1431655765)) &&& 858993459) + ((((p0 - (((p0.toUInt32 >>> ((1 : Int32).toUInt32 &&& Int32.toUInt32 31)).toInt32) &&& 1431655765)).toUInt32 >>> ((2 : Int32).toUInt32 &&& Int32.toUInt32 31)).toInt32) &&& 858993459)).toUInt32 >>> ((4 : Int32).toUInt32 &&& Int32.toUInt32 31)).toInt32)) &&& 252645135).toUInt32 >>> ((8 : Int32).toUInt32 &&& Int32.toUInt32 31)).toInt32)).toUInt32 >>> ((16 : Int32).toUInt32 &&& Int32.toUInt32 31)).toInt32)) &&& 63)
set_option maxHeartbeats 200000 in
set_option maxRecDepth 10000 in
theorem dt_J6_bitCount_0f7a4 {P Q : Int32 → Prop} {p0 : Int32} (h : wp_J6_bitCount_0f7a4 P p0) (hq : ∀ o : Int32, o = F_J6_bitCount_0f7a4 p0 → P o → Q o) : wp_J6_bitCount_0f7a4 Q p0 := by
  rw [F_J6_bitCount_0f7a4] at hq
  refine ae ?_
  have h := h _ rfl
  refine ae ?_
  have h := h _ rfl
  refine ae ?_
  have h := h _ rfl
  refine ae ?_
  have h := h _ rfl
  refine ae ?_
  have h := h _ rfl
  refine ae ?_
  have h := h _ rfl
  refine ae ?_
  have h := h _ rfl
  refine ae ?_
  have h := h _ rfl
  refine ae ?_
  have h := h _ rfl
  have q9 := hq _ rfl
  exact q9 h
theorem du_J6_bitCount_0f7a4 {P Q : Int32 → Prop} {p0 : Int32} (h : wp_J6_bitCount_0f7a4 P p0) (hq : P (F_J6_bitCount_0f7a4 p0) → Q (F_J6_bitCount_0f7a4 p0)) : wp_J6_bitCount_0f7a4 Q p0 := dt_J6_bitCount_0f7a4 h (fun o eo => by rw [eo]; exact hq)
theorem bc_r (x : Int32) : 0 ≤ Int32.toInt (F_J6_bitCount_0f7a4 x) ∧ Int32.toInt (F_J6_bitCount_0f7a4 x) ≤ 63 := by
  have l : Int32.toInt (63 : Int32) = 63 := by decide
  rw [F_J6_bitCount_0f7a4]
  have h := fun y => ti_andr y 63 (by decide)
  rw [l] at h
  exact h _
theorem bc63 (x : Int32) : (((Int32.toInt (F_J6_bitCount_0f7a4 x)).toNat : Nat) : Int) < ((64 : Nat) : Int) := by
  have h := bc_r x
  omega
noncomputable def j_X3_worthOf_54 {R : Type} (k5 : Int32 → Int32 → Int32 → Int32 → R) (tr_fruits : Int32) (tr_worth : Nat → Int32) (x1 : Int32) (x2 : Int32) (x3 : Int32) (x4 : Int32) : R := k5 x1 x2 x3 (x4 + 1)
noncomputable def j_X3_worthOf_52 {R : Type} (k5 : Int32 → Int32 → Int32 → Int32 → R) (tr_fruits : Int32) (tr_worth : Nat → Int32) (x1 : Int32) (x2 : Int32) (x4 : Int32) (k0 : Int32) (k1 : Int32) : R := j_X3_worthOf_54 k5 tr_fruits tr_worth x1 x2 (k0 + k1) x4
noncomputable def bd_X3_worthOf_5 (tr_fruits : Int32) (tr_worth : Nat → Int32) (x1 : Int32) (x2 : Int32) (c : Int32) (s : Int32) : Int32 := if ((x1 >>> (c &&& 31)) &&& 1) = 0 then (j_X3_worthOf_54 (fun q0 q1 q2 q3 => q2) tr_fruits tr_worth x1 x2 s c) else (if ((x2 >>> (c &&& 31)) &&& 1) = 0 then (j_X3_worthOf_52 (fun q0 q1 q2 q3 => q2) tr_fruits tr_worth x1 x2 c s (tr_worth c.toNatClampNeg)) else (j_X3_worthOf_52 (fun q0 q1 q2 q3 => q2) tr_fruits tr_worth x1 x2 c s ((tr_worth c.toNatClampNeg) / 2)))
noncomputable def ex_X3_worthOf_5 {R : Type} (po : Int32 → R) (tr_fruits : Int32) (tr_worth : Nat → Int32) (x1 : Int32) (x2 : Int32) (c : Int32) (s : Int32) : R := po s
set_option maxHeartbeats 200000 in
set_option maxRecDepth 10000 in
theorem dl_X3_worthOf_5 {P Q : Int32 → Prop} {tr_fruits : Int32} {tr_worth : Nat → Int32} {x1 : Int32} {x2 : Int32} {a : Int32} {i : Nat} (hi0 : i < 2147483648) (hE : ∀ (c : Int32) (s : Int32), c = nI (i + (Int32.toInt tr_fruits - ((i : Nat) : Int)).toNat) → s = itr (bd_X3_worthOf_5 tr_fruits tr_worth x1 x2) a i (Int32.toInt tr_fruits - ((i : Nat) : Int)).toNat → (P s) → (Q s)) : ∀ (n k : Nat) (c : Int32), c = nI (i + k) → k ≤ (Int32.toInt tr_fruits - ((i : Nat) : Int)).toNat → wb_X3_worthOf_5 P tr_fruits tr_worth n x1 x2 (itr (bd_X3_worthOf_5 tr_fruits tr_worth x1 x2) a i k) c → wb_X3_worthOf_5 Q tr_fruits tr_worth n x1 x2 (itr (bd_X3_worthOf_5 tr_fruits tr_worth x1 x2) a i k) c := by
  intro n
  induction n with
  | zero => intro k c hc hk h; exact False.elim h
  | succ n ih =>
    intro k c hc hk h
    have hr := tp_r tr_fruits
    have hi : Int32.toInt c = ((i + k : Nat) : Int) := by rw [hc]; exact nI_toInt (by omega)
    refine And.intro (fun t0 => ?_) (fun t0 => ?_)
    · have h := And.left h t0
      have t1 := (fa_le _ _).mp t0
      have hk2 : k = (Int32.toInt tr_fruits - ((i : Nat) : Int)).toNat := by omega
      subst hk2
      exact hE _ _ hc rfl h
    · have h := And.right h t0
      have t1 := mt (fa_le _ _).mpr t0
      have hs : ∀ o : Int32, o = itr (bd_X3_worthOf_5 tr_fruits tr_worth x1 x2) a i (k + 1) → wb_X3_worthOf_5 P tr_fruits tr_worth n x1 x2 o (c + 1) → wb_X3_worthOf_5 Q tr_fruits tr_worth n x1 x2 o (c + 1) := by
        intro o eo h9
        have q := ih (k + 1) (c + 1) (by rw [hc]; exact nI_1 _) (by omega)
        rw [← eo] at q
        exact q h9
      rw [itr_s, ← hc, bd_X3_worthOf_5] at hs
      refine ae ?_
      have h := h _ rfl
      refine And.intro (fun c1 => ?_) (fun c1 => ?_)
      · have h := And.left h c1
        rw [if_pos c1] at hs
        rw [j_X3_worthOf_54] at hs
        unfold ws_X3_worthOf_54 at h ⊢
        refine ae ?_
        have h := h _ rfl
        have q9 := hs _ rfl
        exact q9 h
      · have h := And.right h c1
        rw [if_neg c1] at hs
        refine ae ?_
        have h := h _ rfl
        refine And.intro (fun c2 => ?_) (fun c2 => ?_)
        · have h := And.left h c2
          rw [if_pos c2] at hs
          refine And.intro (And.left h) ?_
          have h := And.right h
          refine ae ?_
          have h := h _ rfl
          rw [j_X3_worthOf_52] at hs
          unfold ws_X3_worthOf_52 at h ⊢
          refine ae ?_
          have h := h _ rfl
          rw [j_X3_worthOf_54] at hs
          unfold ws_X3_worthOf_54 at h ⊢
          refine ae ?_
          have h := h _ rfl
          have q9 := hs _ rfl
          exact q9 h
        · have h := And.right h c2
          rw [if_neg c2] at hs
          refine And.intro (And.left h) ?_
          have h := And.right h
          refine ae ?_
          have h := h _ rfl
          refine ae ?_
          have h := h _ rfl
          rw [j_X3_worthOf_52] at hs
          unfold ws_X3_worthOf_52 at h ⊢
          refine ae ?_
          have h := h _ rfl
          rw [j_X3_worthOf_54] at hs
          unfold ws_X3_worthOf_54 at h ⊢
          refine ae ?_
          have h := h _ rfl
          have q9 := hs _ rfl
          exact q9 h
noncomputable def F_X3_worthOf (p0 : Int32) (p1 : Int32) (tr_fruits : Int32) (tr_worth : Nat → Int32) : Int32 := ex_X3_worthOf_5 (fun o0 => o0) tr_fruits tr_worth p0 p1 (nI (0 + (Int32.toInt tr_fruits - ((0 : Nat) : Int)).toNat)) (itr (bd_X3_worthOf_5 tr_fruits tr_worth p0 p1) 0 0 (Int32.toInt tr_fruits - ((0 : Nat) : Int)).toNat)
set_option maxHeartbeats 200000 in
set_option maxRecDepth 10000 in
theorem dt_X3_worthOf {P Q : Int32 → Prop} {p0 : Int32} {p1 : Int32} {tr_fruits : Int32} {tr_worth : Nat → Int32} (h : wp_X3_worthOf P p0 p1 tr_fruits tr_worth) (hq : ∀ o : Int32, o = F_X3_worthOf p0 p1 tr_fruits tr_worth → P o → Q o) : wp_X3_worthOf Q p0 p1 tr_fruits tr_worth := by
  rw [F_X3_worthOf] at hq
  obtain ⟨n1, h⟩ := h
  refine ⟨n1, dl_X3_worthOf_5 (a := 0) (i := 0) (by decide) ?_ n1 0 0 (by decide) (Nat.zero_le _) h⟩
  intro cc2 s3 ec4 es5 h
  rw [← ec4, ← es5, ex_X3_worthOf_5] at hq
  have q9 := hq _ rfl
  exact q9 h
theorem du_X3_worthOf {P Q : Int32 → Prop} {p0 : Int32} {p1 : Int32} {tr_fruits : Int32} {tr_worth : Nat → Int32} (h : wp_X3_worthOf P p0 p1 tr_fruits tr_worth) (hq : P (F_X3_worthOf p0 p1 tr_fruits tr_worth) → Q (F_X3_worthOf p0 p1 tr_fruits tr_worth)) : wp_X3_worthOf Q p0 p1 tr_fruits tr_worth := dt_X3_worthOf h (fun o eo => by rw [eo]; exact hq)
noncomputable def F_X0_worthOf (p0 : Int32) (tr_fruits : Int32) (tr_worth : Nat → Int32) (no_bruised : Int32) : Int32 := (F_X3_worthOf p0 no_bruised tr_fruits tr_worth)
set_option maxHeartbeats 200000 in
set_option maxRecDepth 10000 in
theorem dt_X0_worthOf {P Q : Int32 → Prop} {p0 : Int32} {tr_fruits : Int32} {tr_worth : Nat → Int32} {no_bruised : Int32} (h : wp_X0_worthOf P p0 tr_fruits tr_worth no_bruised) (hq : ∀ o : Int32, o = F_X0_worthOf p0 tr_fruits tr_worth no_bruised → P o → Q o) : wp_X0_worthOf Q p0 tr_fruits tr_worth no_bruised := by
  rw [F_X0_worthOf] at hq
  refine du_X3_worthOf h ?_
  intro h
  have q9 := hq _ rfl
  exact q9 h
theorem du_X0_worthOf {P Q : Int32 → Prop} {p0 : Int32} {tr_fruits : Int32} {tr_worth : Nat → Int32} {no_bruised : Int32} (h : wp_X0_worthOf P p0 tr_fruits tr_worth no_bruised) (hq : P (F_X0_worthOf p0 tr_fruits tr_worth no_bruised) → Q (F_X0_worthOf p0 tr_fruits tr_worth no_bruised)) : wp_X0_worthOf Q p0 tr_fruits tr_worth no_bruised := dt_X0_worthOf h (fun o eo => by rw [eo]; exact hq)
noncomputable def F_X7_join (p0 : Int32) (p1 : Int32) (p2 : Int32) : Int32 := if p0 = 42 then (p1 * p2) else (if p0 = 43 then (p1 + p2) else (if p0 = 45 then (p1 - p2) else (if p0 = 60 then (if p2 ≤ p1 then 0 else 1) else (if p0 = 61 then (if p1 = p2 then 1 else 0) else (if p0 = 62 then (if p1 ≤ p2 then 0 else 1) else (if p2 = 0 then 0 else (p1 / p2)))))))
set_option maxHeartbeats 200000 in
set_option maxRecDepth 10000 in
theorem dt_X7_join {P Q : Int32 → Prop} {p0 : Int32} {p1 : Int32} {p2 : Int32} (h : wp_X7_join P p0 p1 p2) (hq : ∀ o : Int32, o = F_X7_join p0 p1 p2 → P o → Q o) : wp_X7_join Q p0 p1 p2 := by
  rw [F_X7_join] at hq
  refine (And.intro (fun c1 => ?_) (And.intro (fun c2 => ?_) (And.intro (fun c3 => ?_) (And.intro (fun c4 => ?_) (And.intro (fun c5 => ?_) (And.intro (fun c6 => ?_) (fun c1 c2 c3 c4 c5 c6 => ?_)))))))
  · have h := And.left h c1
    rw [if_pos c1] at hq
    have q9 := hq _ rfl
    exact q9 h
  · have h := And.left (And.right h) c2
    rw [if_neg (fun e9 => absurd (e9.symm.trans c2) (by decide)), if_pos c2] at hq
    have q9 := hq _ rfl
    exact q9 h
  · have h := And.left (And.right (And.right h)) c3
    rw [if_neg (fun e9 => absurd (e9.symm.trans c3) (by decide)), if_neg (fun e9 => absurd (e9.symm.trans c3) (by decide)), if_pos c3] at hq
    have q9 := hq _ rfl
    exact q9 h
  · have h := And.left (And.right (And.right (And.right h))) c4
    rw [if_neg (fun e9 => absurd (e9.symm.trans c4) (by decide)), if_neg (fun e9 => absurd (e9.symm.trans c4) (by decide)), if_neg (fun e9 => absurd (e9.symm.trans c4) (by decide)), if_pos c4] at hq
    refine And.intro (fun c7 => ?_) (fun c7 => ?_)
    · have h := And.left h c7
      rw [if_pos c7] at hq
      have q9 := hq _ rfl
      exact q9 h
    · have h := And.right h c7
      rw [if_neg c7] at hq
      have q9 := hq _ rfl
      exact q9 h
  · have h := And.left (And.right (And.right (And.right (And.right h)))) c5
    rw [if_neg (fun e9 => absurd (e9.symm.trans c5) (by decide)), if_neg (fun e9 => absurd (e9.symm.trans c5) (by decide)), if_neg (fun e9 => absurd (e9.symm.trans c5) (by decide)), if_neg (fun e9 => absurd (e9.symm.trans c5) (by decide)), if_pos c5] at hq
    refine And.intro (fun c8 => ?_) (fun c8 => ?_)
    · have h := And.left h c8
      rw [if_neg c8] at hq
      have q9 := hq _ rfl
      exact q9 h
    · have h := And.right h c8
      rw [if_pos c8] at hq
      have q9 := hq _ rfl
      exact q9 h
  · have h := And.left (And.right (And.right (And.right (And.right (And.right h))))) c6
    rw [if_neg (fun e9 => absurd (e9.symm.trans c6) (by decide)), if_neg (fun e9 => absurd (e9.symm.trans c6) (by decide)), if_neg (fun e9 => absurd (e9.symm.trans c6) (by decide)), if_neg (fun e9 => absurd (e9.symm.trans c6) (by decide)), if_neg (fun e9 => absurd (e9.symm.trans c6) (by decide)), if_pos c6] at hq
    refine And.intro (fun c9 => ?_) (fun c9 => ?_)
    · have h := And.left h c9
      rw [if_pos c9] at hq
      have q9 := hq _ rfl
      exact q9 h
    · have h := And.right h c9
      rw [if_neg c9] at hq
      have q9 := hq _ rfl
      exact q9 h
  · have h := And.right (And.right (And.right (And.right (And.right (And.right h))))) c1 c2 c3 c4 c5 c6
    rw [if_neg c1, if_neg c2, if_neg c3, if_neg c4, if_neg c5, if_neg c6] at hq
    refine And.intro (fun c10 => ?_) (fun c10 => ?_)
    · have h := And.left h c10
      rw [if_neg c10] at hq
      refine And.intro (And.left h) ?_
      have h := And.right h
      have q9 := hq _ rfl
      exact q9 h
    · have h := And.right h c10
      rw [if_pos c10] at hq
      have q9 := hq _ rfl
      exact q9 h
theorem du_X7_join {P Q : Int32 → Prop} {p0 : Int32} {p1 : Int32} {p2 : Int32} (h : wp_X7_join P p0 p1 p2) (hq : P (F_X7_join p0 p1 p2) → Q (F_X7_join p0 p1 p2)) : wp_X7_join Q p0 p1 p2 := dt_X7_join h (fun o eo => by rw [eo]; exact hq)
noncomputable def F_X7_meant (p0 : Int32) (ru_given : Nat → Int32) : Int32 := if (p0 - 1000) < 0 then p0 else (if 7 ≤ (p0 - 1000) then p0 else (ru_given (p0 - 1000).toNatClampNeg))
set_option maxHeartbeats 200000 in
set_option maxRecDepth 10000 in
theorem dt_X7_meant {P Q : Int32 → Prop} {p0 : Int32} {ru_given : Nat → Int32} (h : wp_X7_meant P p0 ru_given) (hq : ∀ o : Int32, o = F_X7_meant p0 ru_given → P o → Q o) : wp_X7_meant Q p0 ru_given := by
  rw [F_X7_meant] at hq
  refine ae ?_
  have h := h _ rfl
  refine And.intro (fun c1 => ?_) (fun c1 => ?_)
  · have h := And.left h c1
    rw [if_pos c1] at hq
    have q9 := hq _ rfl
    exact q9 h
  · have h := And.right h c1
    rw [if_neg c1] at hq
    refine And.intro (fun c2 => ?_) (fun c2 => ?_)
    · have h := And.left h c2
      rw [if_pos c2] at hq
      have q9 := hq _ rfl
      exact q9 h
    · have h := And.right h c2
      rw [if_neg c2] at hq
      refine And.intro (And.left h) ?_
      have h := And.right h
      refine ae ?_
      have h := h _ rfl
      have q9 := hq _ rfl
      exact q9 h
theorem du_X7_meant {P Q : Int32 → Prop} {p0 : Int32} {ru_given : Nat → Int32} (h : wp_X7_meant P p0 ru_given) (hq : P (F_X7_meant p0 ru_given) → Q (F_X7_meant p0 ru_given)) : wp_X7_meant Q p0 ru_given := dt_X7_meant h (fun o eo => by rw [eo]; exact hq)
noncomputable def j_X7_reckon_136 {R : Type} (po : Int32 → (Nat → Int32) → R) (ru_length : Int32) (ru_given : Nat → Int32) (ru_program : Nat → Int32) (x1 : Int32) (ru_stack : Nat → Int32) : R := if x1 ≤ 0 then (po 0 ru_stack) else (po (ru_stack (x1 - 1).toNatClampNeg) ru_stack)
noncomputable def j_X7_reckon_130 {R : Type} (k4 : Int32 → Int32 → (Nat → Int32) → R) (ru_length : Int32) (ru_given : Nat → Int32) (ru_program : Nat → Int32) (x1 : Int32) (x2 : Int32) (ru_stack : Nat → Int32) : R := k4 x1 (x2 + 1) ru_stack
noncomputable def fs_X7_reckon_4 {R : Type} (po : Int32 → (Nat → Int32) → R) (ru_length : Int32) (ru_given : Nat → Int32) (ru_program : Nat → Int32) (nx : Int32 → Int32 → (Nat → Int32) → R) (x1 : Int32) (x2 : Int32) (ru_stack : Nat → Int32) : R := if ru_length ≤ x2 then (j_X7_reckon_136 po ru_length ru_given ru_program x1 ru_stack) else (if 40 ≤ x2 then (j_X7_reckon_136 po ru_length ru_given ru_program x1 ru_stack) else (if 2000 ≤ (ru_program x2.toNatClampNeg) then (if (ru_program x2.toNatClampNeg) = 2256 then (if x1 ≤ 0 then (j_X7_reckon_130 nx ru_length ru_given ru_program x1 x2 ru_stack) else (j_X7_reckon_130 nx ru_length ru_given ru_program x1 x2 (upd ru_stack (x1 - 1).toNatClampNeg (-(ru_stack (x1 - 1).toNatClampNeg))))) else (if x1 ≤ 1 then (j_X7_reckon_130 nx ru_length ru_given ru_program x1 x2 ru_stack) else (j_X7_reckon_130 nx ru_length ru_given ru_program (x1 + (-1)) x2 (upd ru_stack ((x1 + (-1)) - 1).toNatClampNeg (F_X7_join ((ru_program x2.toNatClampNeg) - 2000) (ru_stack ((x1 + (-1)) - 1).toNatClampNeg) (ru_stack (x1 + (-1)).toNatClampNeg)))))) else (if 40 ≤ x1 then (j_X7_reckon_130 nx ru_length ru_given ru_program x1 x2 ru_stack) else (j_X7_reckon_130 nx ru_length ru_given ru_program (x1 + 1) x2 (upd ru_stack x1.toNatClampNeg (F_X7_meant (ru_program x2.toNatClampNeg) ru_given))))))
set_option maxHeartbeats 200000 in
set_option maxRecDepth 10000 in
theorem dl_X7_reckon_4 {P Q : Int32 → (Nat → Int32) → Prop} {ru_length : Int32} {ru_given : Nat → Int32} {ru_program : Nat → Int32} {R : Type} {po : Int32 → (Nat → Int32) → R} {d : Int32 → Int32 → (Nat → Int32) → R} : ∀ (n m : Nat) (x1 : Int32) (x2 : Int32) (ru_stack : Nat → Int32), 0 ≤ Int32.toInt x2 ∧ Int32.toInt x2 ≤ 40 → 40 - Int32.toInt x2 < (m : Int) → wb_X7_reckon_4 P ru_length ru_given ru_program n x1 x2 ru_stack → (∀ (b0 : Int32) (b1 : Nat → Int32), po b0 b1 = flp (fs_X7_reckon_4 po ru_length ru_given ru_program) d m x1 x2 ru_stack → P b0 b1 → Q b0 b1) → wb_X7_reckon_4 Q ru_length ru_given ru_program n x1 x2 ru_stack := by
  have l1 : Int32.toInt (1 : Int32) = 1 := by decide
  have l40 : Int32.toInt (40 : Int32) = 40 := by decide
  intro n
  induction n with
  | zero => intro m x1 x2 ru_stack hv hm h hq; exact False.elim h
  | succ n ih =>
    intro m x1 x2 ru_stack hv hm h hq
    cases m with
    | zero => exfalso; omega
    | succ m =>
      rw [flp_s, fs_X7_reckon_4] at hq
      have h : ws_X7_reckon_4 P (wb_X7_reckon_4 P ru_length ru_given ru_program n) ru_length ru_given ru_program x1 x2 ru_stack := h
      show ws_X7_reckon_4 Q (wb_X7_reckon_4 Q ru_length ru_given ru_program n) ru_length ru_given ru_program x1 x2 ru_stack
      unfold ws_X7_reckon_4 at h ⊢
      refine And.intro (fun c1 => ?_) (fun c1 => ?_)
      · have h := And.left h c1
        rw [if_pos c1] at hq
        have dc1 := (fa_le _ _).mp c1
        rw [j_X7_reckon_136] at hq
        unfold ws_X7_reckon_136 at h ⊢
        refine And.intro (fun c2 => ?_) (fun c2 => ?_)
        · have h := And.left h c2
          rw [if_pos c2] at hq
          have dc2 := (fa_le _ _).mp c2
          exact hq _ _ rfl h
        · have h := And.right h c2
          rw [if_neg c2] at hq
          have dc2 := mt (fa_le _ _).mpr c2
          refine ae ?_
          have h := h _ rfl
          refine And.intro (And.left h) ?_
          have h := And.right h
          refine ae ?_
          have h := h _ rfl
          exact hq _ _ rfl h
      · have h := And.right h c1
        rw [if_neg c1] at hq
        have dc1 := mt (fa_le _ _).mpr c1
        refine And.intro (fun c3 => ?_) (fun c3 => ?_)
        · have h := And.left h c3
          rw [if_pos c3] at hq
          have dc3 := (fa_le _ _).mp c3
          rw [j_X7_reckon_136] at hq
          unfold ws_X7_reckon_136 at h ⊢
          refine And.intro (fun c4 => ?_) (fun c4 => ?_)
          · have h := And.left h c4
            rw [if_pos c4] at hq
            have dc4 := (fa_le _ _).mp c4
            exact hq _ _ rfl h
          · have h := And.right h c4
            rw [if_neg c4] at hq
            have dc4 := mt (fa_le _ _).mpr c4
            refine ae ?_
            have h := h _ rfl
            refine And.intro (And.left h) ?_
            have h := And.right h
            refine ae ?_
            have h := h _ rfl
            exact hq _ _ rfl h
        · have h := And.right h c3
          rw [if_neg c3] at hq
          have dc3 := mt (fa_le _ _).mpr c3
          refine And.intro (And.left h) ?_
          have h := And.right h
          refine ae ?_
          have h := h _ rfl
          refine And.intro (fun c5 => ?_) (fun c5 => ?_)
          · have h := And.left h c5
            rw [if_pos c5] at hq
            have dc5 := (fa_le _ _).mp c5
            refine And.intro (fun c6 => ?_) (fun c6 => ?_)
            · have h := And.left h c6
              rw [if_neg c6] at hq
              have dc6 := mt (fa_eq _ _).mpr c6
              refine And.intro (fun c7 => ?_) (fun c7 => ?_)
              · have h := And.left h c7
                rw [if_pos c7] at hq
                have dc7 := (fa_le _ _).mp c7
                rw [j_X7_reckon_130] at hq
                unfold ws_X7_reckon_130 at h ⊢
                refine ae ?_
                have h := h _ rfl
                have f9 := ta_add x2 1 (by omega)
                exact ih m _ _ _ (by omega) (by omega) h hq
              · have h := And.right h c7
                rw [if_neg c7] at hq
                have dc7 := mt (fa_le _ _).mpr c7
                refine ae ?_
                have h := h _ rfl
                refine ae ?_
                have h := h _ rfl
                refine ae ?_
                have h := h _ rfl
                refine ae ?_
                have h := h _ rfl
                refine And.intro (And.left h) ?_
                have h := And.right h
                refine ae ?_
                have h := h _ rfl
                refine And.intro (And.left h) ?_
                have h := And.right h
                refine ae ?_
                have h := h _ rfl
                refine du_X7_join h ?_
                intro h
                refine And.intro (And.left h) ?_
                have h := And.right h
                rw [j_X7_reckon_130] at hq
                unfold ws_X7_reckon_130 at h ⊢
                refine ae ?_
                have h := h _ rfl
                have f9 := ta_add x2 1 (by omega)
                exact ih m _ _ _ (by omega) (by omega) h hq
            · have h := And.right h c6
              rw [if_pos c6] at hq
              have dc6 := (fa_eq _ _).mp c6
              refine And.intro (fun c8 => ?_) (fun c8 => ?_)
              · have h := And.left h c8
                rw [if_pos c8] at hq
                have dc8 := (fa_le _ _).mp c8
                rw [j_X7_reckon_130] at hq
                unfold ws_X7_reckon_130 at h ⊢
                refine ae ?_
                have h := h _ rfl
                have f9 := ta_add x2 1 (by omega)
                exact ih m _ _ _ (by omega) (by omega) h hq
              · have h := And.right h c8
                rw [if_neg c8] at hq
                have dc8 := mt (fa_le _ _).mpr c8
                refine ae ?_
                have h := h _ rfl
                refine ae ?_
                have h := h _ rfl
                refine And.intro (And.left h) ?_
                have h := And.right h
                refine ae ?_
                have h := h _ rfl
                refine And.intro (And.left h) ?_
                have h := And.right h
                rw [j_X7_reckon_130] at hq
                unfold ws_X7_reckon_130 at h ⊢
                refine ae ?_
                have h := h _ rfl
                have f9 := ta_add x2 1 (by omega)
                exact ih m _ _ _ (by omega) (by omega) h hq
          · have h := And.right h c5
            rw [if_neg c5] at hq
            have dc5 := mt (fa_le _ _).mpr c5
            refine And.intro (fun c9 => ?_) (fun c9 => ?_)
            · have h := And.left h c9
              rw [if_pos c9] at hq
              have dc9 := (fa_le _ _).mp c9
              rw [j_X7_reckon_130] at hq
              unfold ws_X7_reckon_130 at h ⊢
              refine ae ?_
              have h := h _ rfl
              have f9 := ta_add x2 1 (by omega)
              exact ih m _ _ _ (by omega) (by omega) h hq
            · have h := And.right h c9
              rw [if_neg c9] at hq
              have dc9 := mt (fa_le _ _).mpr c9
              refine du_X7_meant h ?_
              intro h
              refine And.intro (And.left h) ?_
              have h := And.right h
              refine ae ?_
              have h := h _ rfl
              rw [j_X7_reckon_130] at hq
              unfold ws_X7_reckon_130 at h ⊢
              refine ae ?_
              have h := h _ rfl
              have f9 := ta_add x2 1 (by omega)
              exact ih m _ _ _ (by omega) (by omega) h hq
noncomputable def F_X7_reckon (ru_length : Int32) (ru_given : Nat → Int32) (ru_stack : Nat → Int32) (ru_program : Nat → Int32) : Int32 × (Nat → Int32) := flp (fs_X7_reckon_4 (fun o0 o1 => (o0, o1)) ru_length ru_given ru_program) (fun _ _ _ => (0, (fun _ => 0))) 41 0 0 ru_stack
set_option maxHeartbeats 200000 in
set_option maxRecDepth 10000 in
theorem dt_X7_reckon {P Q : Int32 → (Nat → Int32) → Prop} {ru_length : Int32} {ru_given : Nat → Int32} {ru_stack : Nat → Int32} {ru_program : Nat → Int32} (h : wp_X7_reckon P ru_length ru_given ru_stack ru_program) (hq : ∀ o : Int32 × (Nat → Int32), o = F_X7_reckon ru_length ru_given ru_stack ru_program → P o.1 o.2 → Q o.1 o.2) : wp_X7_reckon Q ru_length ru_given ru_stack ru_program := by
  rw [F_X7_reckon] at hq
  obtain ⟨n1, h⟩ := h
  exact ⟨n1, dl_X7_reckon_4 n1 41 _ _ _ (by decide) (by decide) h (fun b0 b1 e9 h9 => hq (b0, b1) e9 h9)⟩
theorem du_X7_reckon {P Q : Int32 → (Nat → Int32) → Prop} {ru_length : Int32} {ru_given : Nat → Int32} {ru_stack : Nat → Int32} {ru_program : Nat → Int32} (h : wp_X7_reckon P ru_length ru_given ru_stack ru_program) (hq : P (F_X7_reckon ru_length ru_given ru_stack ru_program).1 (F_X7_reckon ru_length ru_given ru_stack ru_program).2 → Q (F_X7_reckon ru_length ru_given ru_stack ru_program).1 (F_X7_reckon ru_length ru_given ru_stack ru_program).2) : wp_X7_reckon Q ru_length ru_given ru_stack ru_program := dt_X7_reckon h (fun o eo => by rw [eo]; exact hq)
noncomputable def j_X0_pickSeconds_123 {R : Type} (po : Int32 → (Nat → Int32) → (Nat → Int32) → R) (tr_fruits : Int32) (tr_x : Nat → Int32) (tr_height : Nat → Int32) (tr_worth : Nat → Int32) (tr_foot : Nat → Int32) (tr_fork : Nat → Int32) (no_bruised : Int32) (ru_length : Int32) (ru_program : Nat → Int32) (k0 : Int32) (ru_given : Nat → Int32) (ru_stack : Nat → Int32) : R := po (if 1 < (if k0 < 99 then k0 else 99) then (if k0 < 99 then k0 else 99) else 1) ru_given ru_stack
noncomputable def j_X0_pickSeconds_92 {R : Type} (po : Int32 → (Nat → Int32) → (Nat → Int32) → R) (tr_fruits : Int32) (tr_x : Nat → Int32) (tr_height : Nat → Int32) (tr_worth : Nat → Int32) (tr_foot : Nat → Int32) (tr_fork : Nat → Int32) (no_bruised : Int32) (ru_length : Int32) (ru_program : Nat → Int32) (x6 : Int32) (x7 : Int32) (ru_given : Nat → Int32) (ru_stack : Nat → Int32) : R := if ru_length = 0 then (j_X0_pickSeconds_123 po tr_fruits tr_x tr_height tr_worth tr_foot tr_fork no_bruised ru_length ru_program ((2 + (x6 / 4)) + (x7 / 2)) ru_given ru_stack) else (j_X0_pickSeconds_123 po tr_fruits tr_x tr_height tr_worth tr_foot tr_fork no_bruised ru_length ru_program ((F_X7_reckon ru_length ru_given ru_stack ru_program).1) ru_given ((F_X7_reckon ru_length ru_given ru_stack ru_program).2))
noncomputable def F_X0_pickSeconds (p0 : Int32) (p1 : Int32) (p2 : Int32) (p3 : Int32) (tr_fruits : Int32) (tr_x : Nat → Int32) (tr_height : Nat → Int32) (tr_worth : Nat → Int32) (tr_foot : Nat → Int32) (tr_fork : Nat → Int32) (no_bruised : Int32) (ru_length : Int32) (ru_given : Nat → Int32) (ru_stack : Nat → Int32) (ru_program : Nat → Int32) : Int32 × (Nat → Int32) × (Nat → Int32) := j_X0_pickSeconds_92 (fun o0 o1 o2 => (o0, o1, o2)) tr_fruits tr_x tr_height tr_worth tr_foot tr_fork no_bruised ru_length ru_program (F_X3_aside p0 p1 tr_x tr_foot) (F_X3_above p0 p1 tr_height tr_fork) (upd (upd (upd (upd (upd (upd (upd ru_given (0 : Int32).toNatClampNeg (F_X3_aside p0 p1 tr_x tr_foot)) (1 : Int32).toNatClampNeg (F_X3_above p0 p1 tr_height tr_fork)) (2 : Int32).toNatClampNeg (tr_height p0.toNatClampNeg)) (3 : Int32).toNatClampNeg (F_X0_worthOf (1 <<< (p0 &&& 31)) tr_fruits tr_worth no_bruised)) (4 : Int32).toNatClampNeg p1) (5 : Int32).toNatClampNeg p3) (6 : Int32).toNatClampNeg p2) ru_stack
set_option maxHeartbeats 200000 in
set_option maxRecDepth 10000 in
theorem dt_X0_pickSeconds {P Q : Int32 → (Nat → Int32) → (Nat → Int32) → Prop} {p0 : Int32} {p1 : Int32} {p2 : Int32} {p3 : Int32} {tr_fruits : Int32} {tr_x : Nat → Int32} {tr_height : Nat → Int32} {tr_worth : Nat → Int32} {tr_foot : Nat → Int32} {tr_fork : Nat → Int32} {no_bruised : Int32} {ru_length : Int32} {ru_given : Nat → Int32} {ru_stack : Nat → Int32} {ru_program : Nat → Int32} (h : wp_X0_pickSeconds P p0 p1 p2 p3 tr_fruits tr_x tr_height tr_worth tr_foot tr_fork no_bruised ru_length ru_given ru_stack ru_program) (hq : ∀ o : Int32 × (Nat → Int32) × (Nat → Int32), o = F_X0_pickSeconds p0 p1 p2 p3 tr_fruits tr_x tr_height tr_worth tr_foot tr_fork no_bruised ru_length ru_given ru_stack ru_program → P o.1 o.2.1 o.2.2 → Q o.1 o.2.1 o.2.2) : wp_X0_pickSeconds Q p0 p1 p2 p3 tr_fruits tr_x tr_height tr_worth tr_foot tr_fork no_bruised ru_length ru_given ru_stack ru_program := by
  rw [F_X0_pickSeconds] at hq
  refine du_X3_aside h ?_
  intro h
  refine du_X3_above h ?_
  intro h
  refine And.intro (And.left h) ?_
  have h := And.right h
  refine ae ?_
  have h := h _ rfl
  refine ae ?_
  have h := h _ rfl
  refine du_X0_worthOf h ?_
  intro h
  rw [j_X0_pickSeconds_92] at hq
  unfold ws_X0_pickSeconds_92 at h ⊢
  refine And.intro (fun c1 => ?_) (fun c1 => ?_)
  · have h := And.left h c1
    rw [if_neg c1] at hq
    refine du_X7_reckon h ?_
    intro h
    rw [j_X0_pickSeconds_123] at hq
    unfold ws_X0_pickSeconds_123 at h ⊢
    refine ae ?_
    have h := h _ rfl
    refine ae ?_
    have h := h _ rfl
    have q9 := hq _ rfl
    dsimp only at q9
    exact q9 h
  · have h := And.right h c1
    rw [if_pos c1] at hq
    refine ae ?_
    have h := h _ rfl
    refine ae ?_
    have h := h _ rfl
    rw [j_X0_pickSeconds_123] at hq
    unfold ws_X0_pickSeconds_123 at h ⊢
    refine ae ?_
    have h := h _ rfl
    refine ae ?_
    have h := h _ rfl
    have q9 := hq _ rfl
    dsimp only at q9
    exact q9 h
theorem du_X0_pickSeconds {P Q : Int32 → (Nat → Int32) → (Nat → Int32) → Prop} {p0 : Int32} {p1 : Int32} {p2 : Int32} {p3 : Int32} {tr_fruits : Int32} {tr_x : Nat → Int32} {tr_height : Nat → Int32} {tr_worth : Nat → Int32} {tr_foot : Nat → Int32} {tr_fork : Nat → Int32} {no_bruised : Int32} {ru_length : Int32} {ru_given : Nat → Int32} {ru_stack : Nat → Int32} {ru_program : Nat → Int32} (h : wp_X0_pickSeconds P p0 p1 p2 p3 tr_fruits tr_x tr_height tr_worth tr_foot tr_fork no_bruised ru_length ru_given ru_stack ru_program) (hq : P (F_X0_pickSeconds p0 p1 p2 p3 tr_fruits tr_x tr_height tr_worth tr_foot tr_fork no_bruised ru_length ru_given ru_stack ru_program).1 (F_X0_pickSeconds p0 p1 p2 p3 tr_fruits tr_x tr_height tr_worth tr_foot tr_fork no_bruised ru_length ru_given ru_stack ru_program).2.1 (F_X0_pickSeconds p0 p1 p2 p3 tr_fruits tr_x tr_height tr_worth tr_foot tr_fork no_bruised ru_length ru_given ru_stack ru_program).2.2 → Q (F_X0_pickSeconds p0 p1 p2 p3 tr_fruits tr_x tr_height tr_worth tr_foot tr_fork no_bruised ru_length ru_given ru_stack ru_program).1 (F_X0_pickSeconds p0 p1 p2 p3 tr_fruits tr_x tr_height tr_worth tr_foot tr_fork no_bruised ru_length ru_given ru_stack ru_program).2.1 (F_X0_pickSeconds p0 p1 p2 p3 tr_fruits tr_x tr_height tr_worth tr_foot tr_fork no_bruised ru_length ru_given ru_stack ru_program).2.2) : wp_X0_pickSeconds Q p0 p1 p2 p3 tr_fruits tr_x tr_height tr_worth tr_foot tr_fork no_bruised ru_length ru_given ru_stack ru_program := dt_X0_pickSeconds h (fun o eo => by rw [eo]; exact hq)
