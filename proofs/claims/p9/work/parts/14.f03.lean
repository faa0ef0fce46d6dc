noncomputable def F_X10_reachedFrom (p0 : Int32) (p1 : Int32) (p2 : Int32) (m_fruits : Int32) (m_x : Nat → Int32) (m_height : Nat → Int32) (m_foot : Nat → Int32) (m_fork : Nat → Int32) (m_told : Nat → Int32) : Int32 := ex_X10_reachedFrom_6 (fun o0 => o0) m_fruits m_x m_height m_foot m_fork m_told p0 p1 p2 (nI (0 + (Int32.toInt m_fruits - ((0 : Nat) : Int)).toNat)) (itr (bd_X10_reachedFrom_6 m_fruits m_x m_height m_foot m_fork m_told p0 p1 p2) 0 0 (Int32.toInt m_fruits - ((0 : Nat) : Int)).toNat)
set_option maxHeartbeats 200000 in
set_option maxRecDepth 10000 in
theorem dt_X10_reachedFrom {P Q : Int32 → Prop} {p0 : Int32} {p1 : Int32} {p2 : Int32} {m_fruits : Int32} {m_x : Nat → Int32} {m_height : Nat → Int32} {m_foot : Nat → Int32} {m_fork : Nat → Int32} {m_told : Nat → Int32} (h : wp_X10_reachedFrom P p0 p1 p2 m_fruits m_x m_height m_foot m_fork m_told) (hq : ∀ o : Int32, o = F_X10_reachedFrom p0 p1 p2 m_fruits m_x m_height m_foot m_fork m_told → P o → Q o) : wp_X10_reachedFrom Q p0 p1 p2 m_fruits m_x m_height m_foot m_fork m_told := by
  rw [F_X10_reachedFrom] at hq
  obtain ⟨n1, h⟩ := h
  refine ⟨n1, dl_X10_reachedFrom_6 (a := 0) (i := 0) (by decide) ?_ n1 0 0 (by decide) (Nat.zero_le _) h⟩
  intro cc2 s3 ec4 es5 h
  rw [← ec4, ← es5, ex_X10_reachedFrom_6] at hq
  have q9 := hq _ rfl
  exact q9 h
theorem du_X10_reachedFrom {P Q : Int32 → Prop} {p0 : Int32} {p1 : Int32} {p2 : Int32} {m_fruits : Int32} {m_x : Nat → Int32} {m_height : Nat → Int32} {m_foot : Nat → Int32} {m_fork : Nat → Int32} {m_told : Nat → Int32} (h : wp_X10_reachedFrom P p0 p1 p2 m_fruits m_x m_height m_foot m_fork m_told) (hq : P (F_X10_reachedFrom p0 p1 p2 m_fruits m_x m_height m_foot m_fork m_told) → Q (F_X10_reachedFrom p0 p1 p2 m_fruits m_x m_height m_foot m_fork m_told)) : wp_X10_reachedFrom Q p0 p1 p2 m_fruits m_x m_height m_foot m_fork m_told := dt_X10_reachedFrom h (fun o eo => by rw [eo]; exact hq)
theorem dw_X10_reachedFrom {Q : Int32 → Prop} {p0 : Int32} {p1 : Int32} {p2 : Int32} {m_fruits : Int32} {m_x : Nat → Int32} {m_height : Nat → Int32} {m_foot : Nat → Int32} {m_fork : Nat → Int32} {m_told : Nat → Int32} (h : wp_X10_reachedFrom (fun o0 => o0 = F_X10_reachedFrom p0 p1 p2 m_fruits m_x m_height m_foot m_fork m_told → Q o0) p0 p1 p2 m_fruits m_x m_height m_foot m_fork m_told) : wp_X10_reachedFrom Q p0 p1 p2 m_fruits m_x m_height m_foot m_fork m_told := dt_X10_reachedFrom h (fun o eo hp => hp eo)
noncomputable def F_X10_reached (p0 : Int32) (m_fruits : Int32) (m_standings : Int32) (m_rowMany : Int32) (m_thrown : Int32) (m_x : Nat → Int32) (m_height : Nat → Int32) (m_foot : Nat → Int32) (m_fork : Nat → Int32) (m_told : Nat → Int32) (m_row : Nat → Int32) : Int32 × Int32 × Int32 × (Nat → Int32) := if (F_X10_isStanding p0 m_standings) = 0 then ((-1), m_rowMany, 0, m_row) else ((F_X10_reachedFrom p0 0 0 m_fruits m_x m_height m_foot m_fork m_told), (F_X10_tell (F_X10_reachedFrom p0 1 1 m_fruits m_x m_height m_foot m_fork m_told) (F_X10_tell (F_X10_reachedFrom p0 1 0 m_fruits m_x m_height m_foot m_fork m_told) 0 m_row).1 (F_X10_tell (F_X10_reachedFrom p0 1 0 m_fruits m_x m_height m_foot m_fork m_told) 0 m_row).2).1, 0, (F_X10_tell (F_X10_reachedFrom p0 1 1 m_fruits m_x m_height m_foot m_fork m_told) (F_X10_tell (F_X10_reachedFrom p0 1 0 m_fruits m_x m_height m_foot m_fork m_told) 0 m_row).1 (F_X10_tell (F_X10_reachedFrom p0 1 0 m_fruits m_x m_height m_foot m_fork m_told) 0 m_row).2).2)
set_option maxHeartbeats 200000 in
set_option maxRecDepth 10000 in
theorem dt_X10_reached {P Q : Int32 → Int32 → Int32 → (Nat → Int32) → Prop} {p0 : Int32} {m_fruits : Int32} {m_standings : Int32} {m_rowMany : Int32} {m_thrown : Int32} {m_x : Nat → Int32} {m_height : Nat → Int32} {m_foot : Nat → Int32} {m_fork : Nat → Int32} {m_told : Nat → Int32} {m_row : Nat → Int32} (h : wp_X10_reached P p0 m_fruits m_standings m_rowMany m_thrown m_x m_height m_foot m_fork m_told m_row) (hq : ∀ o : Int32 × Int32 × Int32 × (Nat → Int32), o = F_X10_reached p0 m_fruits m_standings m_rowMany m_thrown m_x m_height m_foot m_fork m_told m_row → P o.1 o.2.1 o.2.2.1 o.2.2.2 → Q o.1 o.2.1 o.2.2.1 o.2.2.2) : wp_X10_reached Q p0 m_fruits m_standings m_rowMany m_thrown m_x m_height m_foot m_fork m_told m_row := by
  rw [F_X10_reached] at hq
  refine du_X10_isStanding h ?_
  intro h
  refine And.intro (fun c1 => ?_) (fun c1 => ?_)
  · have h := And.left h c1
    rw [if_neg c1] at hq
    refine du_X10_reachedFrom h ?_
    intro h
    refine du_X10_tell h ?_
    intro h
    refine du_X10_reachedFrom h ?_
    intro h
    refine du_X10_tell h ?_
    intro h
    refine du_X10_reachedFrom h ?_
    intro h
    have q9 := hq _ rfl
    dsimp only at q9
    exact q9 h
  · have h := And.right h c1
    rw [if_pos c1] at hq
    have q9 := hq _ rfl
    dsimp only at q9
    exact q9 h
theorem du_X10_reached {P Q : Int32 → Int32 → Int32 → (Nat → Int32) → Prop} {p0 : Int32} {m_fruits : Int32} {m_standings : Int32} {m_rowMany : Int32} {m_thrown : Int32} {m_x : Nat → Int32} {m_height : Nat → Int32} {m_foot : Nat → Int32} {m_fork : Nat → Int32} {m_told : Nat → Int32} {m_row : Nat → Int32} (h : wp_X10_reached P p0 m_fruits m_standings m_rowMany m_thrown m_x m_height m_foot m_fork m_told m_row) (hq : P (F_X10_reached p0 m_fruits m_standings m_rowMany m_thrown m_x m_height m_foot m_fork m_told m_row).1 (F_X10_reached p0 m_fruits m_standings m_rowMany m_thrown m_x m_height m_foot m_fork m_told m_row).2.1 (F_X10_reached p0 m_fruits m_standings m_rowMany m_thrown m_x m_height m_foot m_fork m_told m_row).2.2.1 (F_X10_reached p0 m_fruits m_standings m_rowMany m_thrown m_x m_height m_foot m_fork m_told m_row).2.2.2 → Q (F_X10_reached p0 m_fruits m_standings m_rowMany m_thrown m_x m_height m_foot m_fork m_told m_row).1 (F_X10_reached p0 m_fruits m_standings m_rowMany m_thrown m_x m_height m_foot m_fork m_told m_row).2.1 (F_X10_reached p0 m_fruits m_standings m_rowMany m_thrown m_x m_height m_foot m_fork m_told m_row).2.2.1 (F_X10_reached p0 m_fruits m_standings m_rowMany m_thrown m_x m_height m_foot m_fork m_told m_row).2.2.2) : wp_X10_reached Q p0 m_fruits m_standings m_rowMany m_thrown m_x m_height m_foot m_fork m_told m_row := dt_X10_reached h (fun o eo => by rw [eo]; exact hq)
theorem dw_X10_reached {Q : Int32 → Int32 → Int32 → (Nat → Int32) → Prop} {p0 : Int32} {m_fruits : Int32} {m_standings : Int32} {m_rowMany : Int32} {m_thrown : Int32} {m_x : Nat → Int32} {m_height : Nat → Int32} {m_foot : Nat → Int32} {m_fork : Nat → Int32} {m_told : Nat → Int32} {m_row : Nat → Int32} (h : wp_X10_reached (fun o0 o1 o2 o3 => (o0, o1, o2, o3) = F_X10_reached p0 m_fruits m_standings m_rowMany m_thrown m_x m_height m_foot m_fork m_told m_row → Q o0 o1 o2 o3) p0 m_fruits m_standings m_rowMany m_thrown m_x m_height m_foot m_fork m_told m_row) : wp_X10_reached Q p0 m_fruits m_standings m_rowMany m_thrown m_x m_height m_foot m_fork m_told m_row := dt_X10_reached h (fun o eo hp => hp eo)
noncomputable def bd_X10_orchard_105 (m_text : Nat → Int32) (m_rule : Nat → Int32) (m_standings : Int32) (m_typed : Int32) (m_thrown : Int32) (m_read : Nat) (m_length : Int32) (m_top : Int32) (m_at : Int32) (m_wrong : Int32) (m_newFruitMany : Int32) (m_newStandingMany : Int32) (m_undoMany : Int32) (m_came : Int32) (m_foot : Nat → Int32) (m_fork : Nat → Int32) (m_newFruits : Nat → Int32) (m_newStandings : Nat → Int32) (c : Int32) (s : Int32 × (Nat → Int32) × (Nat → Int32) × (Nat → Int32) × (Nat → Int32) × (Nat → Int32)) : Int32 × (Nat → Int32) × (Nat → Int32) × (Nat → Int32) × (Nat → Int32) × (Nat → Int32) := ((s.1 + 1), (upd s.2.1 s.1.toNatClampNeg 0), (upd s.2.2.1 s.1.toNatClampNeg (m_newFruits (4 * c).toNatClampNeg)), (upd s.2.2.2.1 s.1.toNatClampNeg (m_newFruits ((4 * c) + 1).toNatClampNeg)), (upd s.2.2.2.2.1 s.1.toNatClampNeg (m_newFruits ((4 * c) + 2).toNatClampNeg)), (upd s.2.2.2.2.2 s.1.toNatClampNeg (m_newFruits ((4 * c) + 3).toNatClampNeg)))
noncomputable def bd_X10_orchard_215 (m_text : Nat → Int32) (m_rule : Nat → Int32) (m_fruits : Int32) (m_typed : Int32) (m_thrown : Int32) (m_read : Nat) (m_length : Int32) (m_top : Int32) (m_at : Int32) (m_wrong : Int32) (m_newFruitMany : Int32) (m_newStandingMany : Int32) (m_undoMany : Int32) (m_came : Int32) (m_now : Nat → Int32) (m_x : Nat → Int32) (m_height : Nat → Int32) (m_worth : Nat → Int32) (m_ripe : Nat → Int32) (m_newFruits : Nat → Int32) (m_newStandings : Nat → Int32) (c : Int32) (s : Int32 × (Nat → Int32) × (Nat → Int32)) : Int32 × (Nat → Int32) × (Nat → Int32) := ((s.1 + 1), (upd s.2.1 s.1.toNatClampNeg (m_newStandings (2 * c).toNatClampNeg)), (upd s.2.2 s.1.toNatClampNeg (m_newStandings ((2 * c) + 1).toNatClampNeg)))
noncomputable def ex_X10_orchard_215 {R : Type} (po : Int32 → Int32 → Int32 → Int32 → Int32 → Nat → Int32 → Int32 → Int32 → Int32 → Int32 → Int32 → Int32 → Int32 → (Nat → Int32) → (Nat → Int32) → (Nat → Int32) → (Nat → Int32) → (Nat → Int32) → (Nat → Int32) → (Nat → Int32) → (Nat → Int32) → (Nat → Int32) → R) (m_text : Nat → Int32) (m_rule : Nat → Int32) (m_fruits : Int32) (m_typed : Int32) (m_thrown : Int32) (m_read : Nat) (m_length : Int32) (m_top : Int32) (m_at : Int32) (m_wrong : Int32) (m_newFruitMany : Int32) (m_newStandingMany : Int32) (m_undoMany : Int32) (m_came : Int32) (m_now : Nat → Int32) (m_x : Nat → Int32) (m_height : Nat → Int32) (m_worth : Nat → Int32) (m_ripe : Nat → Int32) (m_newFruits : Nat → Int32) (m_newStandings : Nat → Int32) (c : Int32) (s : Int32 × (Nat → Int32) × (Nat → Int32)) : R := po (m_newFruitMany + m_newStandingMany) m_fruits s.1 m_typed m_thrown m_read m_length m_top m_at m_wrong m_newFruitMany m_newStandingMany 0 (m_came + 1) m_now m_x m_height m_worth m_ripe s.2.1 s.2.2 m_newFruits m_newStandings
set_option maxHeartbeats 200000 in
set_option maxRecDepth 10000 in
theorem dl_X10_orchard_215 {P Q : Int32 → Int32 → Int32 → Int32 → Int32 → Nat → Int32 → Int32 → Int32 → Int32 → Int32 → Int32 → Int32 → Int32 → (Nat → Int32) → (Nat → Int32) → (Nat → Int32) → (Nat → Int32) → (Nat → Int32) → (Nat → Int32) → (Nat → Int32) → (Nat → Int32) → (Nat → Int32) → Prop} {m_text : Nat → Int32} {m_rule : Nat → Int32} {m_fruits : Int32} {m_typed : Int32} {m_thrown : Int32} {m_read : Nat} {m_length : Int32} {m_top : Int32} {m_at : Int32} {m_wrong : Int32} {m_newFruitMany : Int32} {m_newStandingMany : Int32} {m_undoMany : Int32} {m_came : Int32} {m_now : Nat → Int32} {m_x : Nat → Int32} {m_height : Nat → Int32} {m_worth : Nat → Int32} {m_ripe : Nat → Int32} {m_newFruits : Nat → Int32} {m_newStandings : Nat → Int32} {a : Int32 × (Nat → Int32) × (Nat → Int32)} {i : Nat} (hi0 : i < 2147483648) (hE : ∀ (c : Int32) (s : Int32 × (Nat → Int32) × (Nat → Int32)), c = nI (i + (Int32.toInt m_newStandingMany - ((i : Nat) : Int)).toNat) → s = itr (bd_X10_orchard_215 m_text m_rule m_fruits m_typed m_thrown m_read m_length m_top m_at m_wrong m_newFruitMany m_newStandingMany m_undoMany m_came m_now m_x m_height m_worth m_ripe m_newFruits m_newStandings) a i (Int32.toInt m_newStandingMany - ((i : Nat) : Int)).toNat → (∀ v_7 : Int32, v_7 = m_came + 1 → P (m_newFruitMany + m_newStandingMany) m_fruits s.1 m_typed m_thrown m_read m_length m_top m_at m_wrong m_newFruitMany m_newStandingMany 0 v_7 m_now m_x m_height m_worth m_ripe s.2.1 s.2.2 m_newFruits m_newStandings) → (∀ v_7 : Int32, v_7 = m_came + 1 → Q (m_newFruitMany + m_newStandingMany) m_fruits s.1 m_typed m_thrown m_read m_length m_top m_at m_wrong m_newFruitMany m_newStandingMany 0 v_7 m_now m_x m_height m_worth m_ripe s.2.1 s.2.2 m_newFruits m_newStandings)) : ∀ (n k : Nat) (c : Int32), c = nI (i + k) → k ≤ (Int32.toInt m_newStandingMany - ((i : Nat) : Int)).toNat → wb_X10_orchard_215 P m_text m_rule n c m_fruits (itr (bd_X10_orchard_215 m_text m_rule m_fruits m_typed m_thrown m_read m_length m_top m_at m_wrong m_newFruitMany m_newStandingMany m_undoMany m_came m_now m_x m_height m_worth m_ripe m_newFruits m_newStandings) a i k).1 m_typed m_thrown m_read m_length m_top m_at m_wrong m_newFruitMany m_newStandingMany m_undoMany m_came m_now m_x m_height m_worth m_ripe (itr (bd_X10_orchard_215 m_text m_rule m_fruits m_typed m_thrown m_read m_length m_top m_at m_wrong m_newFruitMany m_newStandingMany m_undoMany m_came m_now m_x m_height m_worth m_ripe m_newFruits m_newStandings) a i k).2.1 (itr (bd_X10_orchard_215 m_text m_rule m_fruits m_typed m_thrown m_read m_length m_top m_at m_wrong m_newFruitMany m_newStandingMany m_undoMany m_came m_now m_x m_height m_worth m_ripe m_newFruits m_newStandings) a i k).2.2 m_newFruits m_newStandings → wb_X10_orchard_215 Q m_text m_rule n c m_fruits (itr (bd_X10_orchard_215 m_text m_rule m_fruits m_typed m_thrown m_read m_length m_top m_at m_wrong m_newFruitMany m_newStandingMany m_undoMany m_came m_now m_x m_height m_worth m_ripe m_newFruits m_newStandings) a i k).1 m_typed m_thrown m_read m_length m_top m_at m_wrong m_newFruitMany m_newStandingMany m_undoMany m_came m_now m_x m_height m_worth m_ripe (itr (bd_X10_orchard_215 m_text m_rule m_fruits m_typed m_thrown m_read m_length m_top m_at m_wrong m_newFruitMany m_newStandingMany m_undoMany m_came m_now m_x m_height m_worth m_ripe m_newFruits m_newStandings) a i k).2.1 (itr (bd_X10_orchard_215 m_text m_rule m_fruits m_typed m_thrown m_read m_length m_top m_at m_wrong m_newFruitMany m_newStandingMany m_undoMany m_came m_now m_x m_height m_worth m_ripe m_newFruits m_newStandings) a i k).2.2 m_newFruits m_newStandings := by
  intro n
  induction n with
  | zero => intro k c hc hk h; exact False.elim h
  | succ n ih =>
    intro k c hc hk h
    have hr := tp_r m_newStandingMany
    have hi : Int32.toInt c = ((i + k : Nat) : Int) := by rw [hc]; exact nI_toInt (by omega)
    refine And.intro (fun t0 => ?_) (fun t0 => ?_)
    · have h := And.left h t0
      have t1 := (fa_le _ _).mp t0
      have hk2 : k = (Int32.toInt m_newStandingMany - ((i : Nat) : Int)).toNat := by omega
      subst hk2
      exact hE _ _ hc rfl h
    · have h := And.right h t0
      have t1 := mt (fa_le _ _).mpr t0
      have hs : ∀ o : Int32 × (Nat → Int32) × (Nat → Int32), o = itr (bd_X10_orchard_215 m_text m_rule m_fruits m_typed m_thrown m_read m_length m_top m_at m_wrong m_newFruitMany m_newStandingMany m_undoMany m_came m_now m_x m_height m_worth m_ripe m_newFruits m_newStandings) a i (k + 1) → wb_X10_orchard_215 P m_text m_rule n (c + 1) m_fruits o.1 m_typed m_thrown m_read m_length m_top m_at m_wrong m_newFruitMany m_newStandingMany m_undoMany m_came m_now m_x m_height m_worth m_ripe o.2.1 o.2.2 m_newFruits m_newStandings → wb_X10_orchard_215 Q m_text m_rule n (c + 1) m_fruits o.1 m_typed m_thrown m_read m_length m_top m_at m_wrong m_newFruitMany m_newStandingMany m_undoMany m_came m_now m_x m_height m_worth m_ripe o.2.1 o.2.2 m_newFruits m_newStandings := by
        intro o eo h9
        have q := ih (k + 1) (c + 1) (by rw [hc]; exact nI_1 _) (by omega)
        rw [← eo] at q
        exact q h9
      rw [itr_s, ← hc, bd_X10_orchard_215] at hs
      refine ae ?_
      have h := h _ rfl
      refine And.intro (And.left h) ?_
      have h := And.right h
      refine ae ?_
      have h := h _ rfl
      refine And.intro (And.left h) ?_
      have h := And.right h
      refine ae ?_
      have h := h _ rfl
      refine ae ?_
      have h := h _ rfl
      refine And.intro (And.left h) ?_
      have h := And.right h
      refine ae ?_
      have h := h _ rfl
      refine And.intro (And.left h) ?_
      have h := And.right h
      refine ae ?_
      have h := h _ rfl
      refine ae ?_
      have h := h _ rfl
      have q9 := hs _ rfl
      dsimp only at q9
      exact q9 h
noncomputable def ex_X10_orchard_105 {R : Type} (po : Int32 → Int32 → Int32 → Int32 → Int32 → Nat → Int32 → Int32 → Int32 → Int32 → Int32 → Int32 → Int32 → Int32 → (Nat → Int32) → (Nat → Int32) → (Nat → Int32) → (Nat → Int32) → (Nat → Int32) → (Nat → Int32) → (Nat → Int32) → (Nat → Int32) → (Nat → Int32) → R) (m_text : Nat → Int32) (m_rule : Nat → Int32) (m_standings : Int32) (m_typed : Int32) (m_thrown : Int32) (m_read : Nat) (m_length : Int32) (m_top : Int32) (m_at : Int32) (m_wrong : Int32) (m_newFruitMany : Int32) (m_newStandingMany : Int32) (m_undoMany : Int32) (m_came : Int32) (m_foot : Nat → Int32) (m_fork : Nat → Int32) (m_newFruits : Nat → Int32) (m_newStandings : Nat → Int32) (c : Int32) (s : Int32 × (Nat → Int32) × (Nat → Int32) × (Nat → Int32) × (Nat → Int32) × (Nat → Int32)) : R := ex_X10_orchard_215 po m_text m_rule s.1 m_typed m_thrown m_read m_length m_top m_at m_wrong m_newFruitMany m_newStandingMany m_undoMany m_came s.2.1 s.2.2.1 s.2.2.2.1 s.2.2.2.2.1 s.2.2.2.2.2 m_newFruits m_newStandings (nI (0 + (Int32.toInt m_newStandingMany - ((0 : Nat) : Int)).toNat)) (itr (bd_X10_orchard_215 m_text m_rule s.1 m_typed m_thrown m_read m_length m_top m_at m_wrong m_newFruitMany m_newStandingMany m_undoMany m_came s.2.1 s.2.2.1 s.2.2.2.1 s.2.2.2.2.1 s.2.2.2.2.2 m_newFruits m_newStandings) (m_standings, m_foot, m_fork) 0 (Int32.toInt m_newStandingMany - ((0 : Nat) : Int)).toNat)
set_option maxHeartbeats 200000 in
set_option maxRecDepth 10000 in
theorem dl_X10_orchard_105 {P Q : Int32 → Int32 → Int32 → Int32 → Int32 → Nat → Int32 → Int32 → Int32 → Int32 → Int32 → Int32 → Int32 → Int32 → (Nat → Int32) → (Nat → Int32) → (Nat → Int32) → (Nat → Int32) → (Nat → Int32) → (Nat → Int32) → (Nat → Int32) → (Nat → Int32) → (Nat → Int32) → Prop} {m_text : Nat → Int32} {m_rule : Nat → Int32} {m_standings : Int32} {m_typed : Int32} {m_thrown : Int32} {m_read : Nat} {m_length : Int32} {m_top : Int32} {m_at : Int32} {m_wrong : Int32} {m_newFruitMany : Int32} {m_newStandingMany : Int32} {m_undoMany : Int32} {m_came : Int32} {m_foot : Nat → Int32} {m_fork : Nat → Int32} {m_newFruits : Nat → Int32} {m_newStandings : Nat → Int32} {a : Int32 × (Nat → Int32) × (Nat → Int32) × (Nat → Int32) × (Nat → Int32) × (Nat → Int32)} {i : Nat} (hi0 : i < 2147483648) (hE : ∀ (c : Int32) (s : Int32 × (Nat → Int32) × (Nat → Int32) × (Nat → Int32) × (Nat → Int32) × (Nat → Int32)), c = nI (i + (Int32.toInt m_newFruitMany - ((i : Nat) : Int)).toNat) → s = itr (bd_X10_orchard_105 m_text m_rule m_standings m_typed m_thrown m_read m_length m_top m_at m_wrong m_newFruitMany m_newStandingMany m_undoMany m_came m_foot m_fork m_newFruits m_newStandings) a i (Int32.toInt m_newFruitMany - ((i : Nat) : Int)).toNat → (∃ n : Nat, wb_X10_orchard_215 P m_text m_rule n 0 s.1 m_standings m_typed m_thrown m_read m_length m_top m_at m_wrong m_newFruitMany m_newStandingMany m_undoMany m_came s.2.1 s.2.2.1 s.2.2.2.1 s.2.2.2.2.1 s.2.2.2.2.2 m_foot m_fork m_newFruits m_newStandings) → (∃ n : Nat, wb_X10_orchard_215 Q m_text m_rule n 0 s.1 m_standings m_typed m_thrown m_read m_length m_top m_at m_wrong m_newFruitMany m_newStandingMany m_undoMany m_came s.2.1 s.2.2.1 s.2.2.2.1 s.2.2.2.2.1 s.2.2.2.2.2 m_foot m_fork m_newFruits m_newStandings)) : ∀ (n k : Nat) (c : Int32), c = nI (i + k) → k ≤ (Int32.toInt m_newFruitMany - ((i : Nat) : Int)).toNat → wb_X10_orchard_105 P m_text m_rule n c (itr (bd_X10_orchard_105 m_text m_rule m_standings m_typed m_thrown m_read m_length m_top m_at m_wrong m_newFruitMany m_newStandingMany m_undoMany m_came m_foot m_fork m_newFruits m_newStandings) a i k).1 m_standings m_typed m_thrown m_read m_length m_top m_at m_wrong m_newFruitMany m_newStandingMany m_undoMany m_came (itr (bd_X10_orchard_105 m_text m_rule m_standings m_typed m_thrown m_read m_length m_top m_at m_wrong m_newFruitMany m_newStandingMany m_undoMany m_came m_foot m_fork m_newFruits m_newStandings) a i k).2.1 (itr (bd_X10_orchard_105 m_text m_rule m_standings m_typed m_thrown m_read m_length m_top m_at m_wrong m_newFruitMany m_newStandingMany m_undoMany m_came m_foot m_fork m_newFruits m_newStandings) a i k).2.2.1 (itr (bd_X10_orchard_105 m_text m_rule m_standings m_typed m_thrown m_read m_length m_top m_at m_wrong m_newFruitMany m_newStandingMany m_undoMany m_came m_foot m_fork m_newFruits m_newStandings) a i k).2.2.2.1 (itr (bd_X10_orchard_105 m_text m_rule m_standings m_typed m_thrown m_read m_length m_top m_at m_wrong m_newFruitMany m_newStandingMany m_undoMany m_came m_foot m_fork m_newFruits m_newStandings) a i k).2.2.2.2.1 (itr (bd_X10_orchard_105 m_text m_rule m_standings m_typed m_thrown m_read m_length m_top m_at m_wrong m_newFruitMany m_newStandingMany m_undoMany m_came m_foot m_fork m_newFruits m_newStandings) a i k).2.2.2.2.2 m_foot m_fork m_newFruits m_newStandings → wb_X10_orchard_105 Q m_text m_rule n c (itr (bd_X10_orchard_105 m_text m_rule m_standings m_typed m_thrown m_read m_length m_top m_at m_wrong m_newFruitMany m_newStandingMany m_undoMany m_came m_foot m_fork m_newFruits m_newStandings) a i k).1 m_standings m_typed m_thrown m_read m_length m_top m_at m_wrong m_newFruitMany m_newStandingMany m_undoMany m_came (itr (bd_X10_orchard_105 m_text m_rule m_standings m_typed m_thrown m_read m_length m_top m_at m_wrong m_newFruitMany m_newStandingMany m_undoMany m_came m_foot m_fork m_newFruits m_newStandings) a i k).2.1 (itr (bd_X10_orchard_105 m_text m_rule m_standings m_typed m_thrown m_read m_length m_top m_at m_wrong m_newFruitMany m_newStandingMany m_undoMany m_came m_foot m_fork m_newFruits m_newStandings) a i k).2.2.1 (itr (bd_X10_orchard_105 m_text m_rule m_standings m_typed m_thrown m_read m_length m_top m_at m_wrong m_newFruitMany m_newStandingMany m_undoMany m_came m_foot m_fork m_newFruits m_newStandings) a i k).2.2.2.1 (itr (bd_X10_orchard_105 m_text m_rule m_standings m_typed m_thrown m_read m_length m_top m_at m_wrong m_newFruitMany m_newStandingMany m_undoMany m_came m_foot m_fork m_newFruits m_newStandings) a i k).2.2.2.2.1 (itr (bd_X10_orchard_105 m_text m_rule m_standings m_typed m_thrown m_read m_length m_top m_at m_wrong m_newFruitMany m_newStandingMany m_undoMany m_came m_foot m_fork m_newFruits m_newStandings) a i k).2.2.2.2.2 m_foot m_fork m_newFruits m_newStandings := by
  intro n
  induction n with
  | zero => intro k c hc hk h; exact False.elim h
  | succ n ih =>
    intro k c hc hk h
    have hr := tp_r m_newFruitMany
    have hi : Int32.toInt c = ((i + k : Nat) : Int) := by rw [hc]; exact nI_toInt (by omega)
    refine And.intro (fun t0 => ?_) (fun t0 => ?_)
    · have h := And.left h t0
      have t1 := (fa_le _ _).mp t0
      have hk2 : k = (Int32.toInt m_newFruitMany - ((i : Nat) : Int)).toNat := by omega
      subst hk2
      exact hE _ _ hc rfl h
    · have h := And.right h t0
      have t1 := mt (fa_le _ _).mpr t0
      have hs : ∀ o : Int32 × (Nat → Int32) × (Nat → Int32) × (Nat → Int32) × (Nat → Int32) × (Nat → Int32), o = itr (bd_X10_orchard_105 m_text m_rule m_standings m_typed m_thrown m_read m_length m_top m_at m_wrong m_newFruitMany m_newStandingMany m_undoMany m_came m_foot m_fork m_newFruits m_newStandings) a i (k + 1) → wb_X10_orchard_105 P m_text m_rule n (c + 1) o.1 m_standings m_typed m_thrown m_read m_length m_top m_at m_wrong m_newFruitMany m_newStandingMany m_undoMany m_came o.2.1 o.2.2.1 o.2.2.2.1 o.2.2.2.2.1 o.2.2.2.2.2 m_foot m_fork m_newFruits m_newStandings → wb_X10_orchard_105 Q m_text m_rule n (c + 1) o.1 m_standings m_typed m_thrown m_read m_length m_top m_at m_wrong m_newFruitMany m_newStandingMany m_undoMany m_came o.2.1 o.2.2.1 o.2.2.2.1 o.2.2.2.2.1 o.2.2.2.2.2 m_foot m_fork m_newFruits m_newStandings := by
        intro o eo h9
        have q := ih (k + 1) (c + 1) (by rw [hc]; exact nI_1 _) (by omega)
        rw [← eo] at q
        exact q h9
      rw [itr_s, ← hc, bd_X10_orchard_105] at hs
      refine ae ?_
      have h := h _ rfl
      refine And.intro (And.left h) ?_
      have h := And.right h
      refine ae ?_
      have h := h _ rfl
      refine And.intro (And.left h) ?_
      have h := And.right h
      refine ae ?_
      have h := h _ rfl
      refine ae ?_
      have h := h _ rfl
      refine And.intro (And.left h) ?_
      have h := And.right h
      refine ae ?_
      have h := h _ rfl
      refine And.intro (And.left h) ?_
      have h := And.right h
      refine ae ?_
      have h := h _ rfl
      refine ae ?_
      have h := h _ rfl
      refine And.intro (And.left h) ?_
      have h := And.right h
      refine ae ?_
      have h := h _ rfl
      refine And.intro (And.left h) ?_
      have h := And.right h
      refine ae ?_
      have h := h _ rfl
      refine ae ?_
      have h := h _ rfl
      refine And.intro (And.left h) ?_
      have h := And.right h
      refine ae ?_
      have h := h _ rfl
      refine And.intro (And.left h) ?_
      have h := And.right h
      refine And.intro (And.left h) ?_
      have h := And.right h
      refine ae ?_
      have h := h _ rfl
      refine ae ?_
      have h := h _ rfl
      have q9 := hs _ rfl
      dsimp only at q9
      exact q9 h
