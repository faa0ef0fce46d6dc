theorem du_X9_undo {P Q : Int32 → Int32 → Int32 → Int32 → Int32 → Int32 → Int32 → Int32 → Int32 → Int32 → Int32 → Prop} {no_apron : Int32} {no_basket : Int32} {no_ground : Int32} {no_bruised : Int32} {no_ladder : Int32} {no_helper : Int32} {no_today : Int32} {no_clock : Int32} {pa_undoable : Int32} {pa_free : Int32} {pa_cells : Nat → Int32} (h : wp_X9_undo P no_apron no_basket no_ground no_bruised no_ladder no_helper no_today no_clock pa_undoable pa_free pa_cells) (hq : P (F_X9_undo no_apron no_basket no_ground no_bruised no_ladder no_helper no_today no_clock pa_undoable pa_free pa_cells).1 (F_X9_undo no_apron no_basket no_ground no_bruised no_ladder no_helper no_today no_clock pa_undoable pa_free pa_cells).2.1 (F_X9_undo no_apron no_basket no_ground no_bruised no_ladder no_helper no_today no_clock pa_undoable pa_free pa_cells).2.2.1 (F_X9_undo no_apron no_basket no_ground no_bruised no_ladder no_helper no_today no_clock pa_undoable pa_free pa_cells).2.2.2.1 (F_X9_undo no_apron no_basket no_ground no_bruised no_ladder no_helper no_today no_clock pa_undoable pa_free pa_cells).2.2.2.2.1 (F_X9_undo no_apron no_basket no_ground no_bruised no_ladder no_helper no_today no_clock pa_undoable pa_free pa_cells).2.2.2.2.2.1 (F_X9_undo no_apron no_basket no_ground no_bruised no_ladder no_helper no_today no_clock pa_undoable pa_free pa_cells).2.2.2.2.2.2.1 (F_X9_undo no_apron no_basket no_ground no_bruised no_ladder no_helper no_today no_clock pa_undoable pa_free pa_cells).2.2.2.2.2.2.2.1 (F_X9_undo no_apron no_basket no_ground no_bruised no_ladder no_helper no_today no_clock pa_undoable pa_free pa_cells).2.2.2.2.2.2.2.2.1 (F_X9_undo no_apron no_basket no_ground no_bruised no_ladder no_helper no_today no_clock pa_undoable pa_free pa_cells).2.2.2.2.2.2.2.2.2.1 (F_X9_undo no_apron no_basket no_ground no_bruised no_ladder no_helper no_today no_clock pa_undoable pa_free pa_cells).2.2.2.2.2.2.2.2.2.2 → Q (F_X9_undo no_apron no_basket no_ground no_bruised no_ladder no_helper no_today no_clock pa_undoable pa_free pa_cells).1 (F_X9_undo no_apron no_basket no_ground no_bruised no_ladder no_helper no_today no_clock pa_undoable pa_free pa_cells).2.1 (F_X9_undo no_apron no_basket no_ground no_bruised no_ladder no_helper no_today no_clock pa_undoable pa_free pa_cells).2.2.1 (F_X9_undo no_apron no_basket no_ground no_bruised no_ladder no_helper no_today no_clock pa_undoable pa_free pa_cells).2.2.2.1 (F_X9_undo no_apron no_basket no_ground no_bruised no_ladder no_helper no_today no_clock pa_undoable pa_free pa_cells).2.2.2.2.1 (F_X9_undo no_apron no_basket no_ground no_bruised no_ladder no_helper no_today no_clock pa_undoable pa_free pa_cells).2.2.2.2.2.1 (F_X9_undo no_apron no_basket no_ground no_bruised no_ladder no_helper no_today no_clock pa_undoable pa_free pa_cells).2.2.2.2.2.2.1 (F_X9_undo no_apron no_basket no_ground no_bruised no_ladder no_helper no_today no_clock pa_undoable pa_free pa_cells).2.2.2.2.2.2.2.1 (F_X9_undo no_apron no_basket no_ground no_bruised no_ladder no_helper no_today no_clock pa_undoable pa_free pa_cells).2.2.2.2.2.2.2.2.1 (F_X9_undo no_apron no_basket no_ground no_bruised no_ladder no_helper no_today no_clock pa_undoable pa_free pa_cells).2.2.2.2.2.2.2.2.2.1 (F_X9_undo no_apron no_basket no_ground no_bruised no_ladder no_helper no_today no_clock pa_undoable pa_free pa_cells).2.2.2.2.2.2.2.2.2.2) : wp_X9_undo Q no_apron no_basket no_ground no_bruised no_ladder no_helper no_today no_clock pa_undoable pa_free pa_cells := dt_X9_undo h (fun o eo => by rw [eo]; exact hq)
theorem dw_X9_undo {Q : Int32 → Int32 → Int32 → Int32 → Int32 → Int32 → Int32 → Int32 → Int32 → Int32 → Int32 → Prop} {no_apron : Int32} {no_basket : Int32} {no_ground : Int32} {no_bruised : Int32} {no_ladder : Int32} {no_helper : Int32} {no_today : Int32} {no_clock : Int32} {pa_undoable : Int32} {pa_free : Int32} {pa_cells : Nat → Int32} (h : wp_X9_undo (fun o0 o1 o2 o3 o4 o5 o6 o7 o8 o9 o10 => (o0, o1, o2, o3, o4, o5, o6, o7, o8, o9, o10) = F_X9_undo no_apron no_basket no_ground no_bruised no_ladder no_helper no_today no_clock pa_undoable pa_free pa_cells → Q o0 o1 o2 o3 o4 o5 o6 o7 o8 o9 o10) no_apron no_basket no_ground no_bruised no_ladder no_helper no_today no_clock pa_undoable pa_free pa_cells) : wp_X9_undo Q no_apron no_basket no_ground no_bruised no_ladder no_helper no_today no_clock pa_undoable pa_free pa_cells := dt_X9_undo h (fun o eo hp => hp eo)
noncomputable def F_X2_write_b2 (p1 : Int32) (no_apron : Int32) (no_basket : Int32) (no_ground : Int32) (no_bruised : Int32) (no_ladder : Int32) (no_helper : Int32) (no_today : Int32) (no_clock : Int32) (pa_keptCells : Nat → Int32) : (Nat → Int32) := if p1 < 0 then pa_keptCells else (if p1 ≤ (16 - 8) then (upd (upd (upd (upd (upd (upd (upd (upd pa_keptCells p1.toNatClampNeg no_apron) (p1 + 1).toNatClampNeg no_basket) (p1 + 2).toNatClampNeg no_ground) (p1 + 3).toNatClampNeg no_bruised) (p1 + 4).toNatClampNeg no_ladder) (p1 + 5).toNatClampNeg no_helper) (p1 + 6).toNatClampNeg no_today) (p1 + 7).toNatClampNeg no_clock) else pa_keptCells)
set_option maxHeartbeats 200000 in
set_option maxRecDepth 10000 in
theorem dt_X2_write_b2 {P Q : (Nat → Int32) → Prop} {p1 : Int32} {no_apron : Int32} {no_basket : Int32} {no_ground : Int32} {no_bruised : Int32} {no_ladder : Int32} {no_helper : Int32} {no_today : Int32} {no_clock : Int32} {pa_keptCells : Nat → Int32} (h : wp_X2_write_b2 P p1 no_apron no_basket no_ground no_bruised no_ladder no_helper no_today no_clock pa_keptCells) (hq : ∀ o : (Nat → Int32), o = F_X2_write_b2 p1 no_apron no_basket no_ground no_bruised no_ladder no_helper no_today no_clock pa_keptCells → P o → Q o) : wp_X2_write_b2 Q p1 no_apron no_basket no_ground no_bruised no_ladder no_helper no_today no_clock pa_keptCells := by
  rw [F_X2_write_b2] at hq
  refine And.intro (fun c1 => ?_) (fun c1 => ?_)
  · have h := And.left h c1
    rw [if_pos c1] at hq
    have q9 := hq _ rfl
    exact q9 h
  · have h := And.right h c1
    rw [if_neg c1] at hq
    refine And.intro (fun c2 => ?_) (fun c2 => ?_)
    · have h := And.left h c2
      rw [if_pos c2] at hq
      refine And.intro (And.left h) ?_
      have h := And.right h
      refine ae ?_
      have h := h _ rfl
      refine And.intro (And.left h) ?_
      have h := And.right h
      refine ae ?_
      have h := h _ rfl
      refine And.intro (And.left h) ?_
      have h := And.right h
      refine ae ?_
      have h := h _ rfl
      refine And.intro (And.left h) ?_
      have h := And.right h
      refine ae ?_
      have h := h _ rfl
      refine And.intro (And.left h) ?_
      have h := And.right h
      refine ae ?_
      have h := h _ rfl
      refine And.intro (And.left h) ?_
      have h := And.right h
      refine ae ?_
      have h := h _ rfl
      refine And.intro (And.left h) ?_
      have h := And.right h
      refine ae ?_
      have h := h _ rfl
      refine And.intro (And.left h) ?_
      have h := And.right h
      have q9 := hq _ rfl
      exact q9 h
    · have h := And.right h c2
      rw [if_neg c2] at hq
      have q9 := hq _ rfl
      exact q9 h
theorem du_X2_write_b2 {P Q : (Nat → Int32) → Prop} {p1 : Int32} {no_apron : Int32} {no_basket : Int32} {no_ground : Int32} {no_bruised : Int32} {no_ladder : Int32} {no_helper : Int32} {no_today : Int32} {no_clock : Int32} {pa_keptCells : Nat → Int32} (h : wp_X2_write_b2 P p1 no_apron no_basket no_ground no_bruised no_ladder no_helper no_today no_clock pa_keptCells) (hq : P (F_X2_write_b2 p1 no_apron no_basket no_ground no_bruised no_ladder no_helper no_today no_clock pa_keptCells) → Q (F_X2_write_b2 p1 no_apron no_basket no_ground no_bruised no_ladder no_helper no_today no_clock pa_keptCells)) : wp_X2_write_b2 Q p1 no_apron no_basket no_ground no_bruised no_ladder no_helper no_today no_clock pa_keptCells := dt_X2_write_b2 h (fun o eo => by rw [eo]; exact hq)
noncomputable def F_X4_store (p0 : Int32) (no_apron : Int32) (no_basket : Int32) (no_ground : Int32) (no_bruised : Int32) (no_ladder : Int32) (no_helper : Int32) (no_today : Int32) (no_clock : Int32) (pa_keptCells : Nat → Int32) (pa_isKept : Nat → Int32) : Int32 × (Nat → Int32) × (Nat → Int32) := if p0 < 0 then (0, pa_keptCells, pa_isKept) else (if p0 < 2 then (1, (F_X2_write_b2 (p0 * 8) no_apron no_basket no_ground no_bruised no_ladder no_helper no_today no_clock pa_keptCells), (upd pa_isKept p0.toNatClampNeg (vp_nar .boolean 1))) else (0, pa_keptCells, pa_isKept))
set_option maxHeartbeats 200000 in
set_option maxRecDepth 10000 in
theorem dt_X4_store {P Q : Int32 → (Nat → Int32) → (Nat → Int32) → Prop} {p0 : Int32} {no_apron : Int32} {no_basket : Int32} {no_ground : Int32} {no_bruised : Int32} {no_ladder : Int32} {no_helper : Int32} {no_today : Int32} {no_clock : Int32} {pa_keptCells : Nat → Int32} {pa_isKept : Nat → Int32} (h : wp_X4_store P p0 no_apron no_basket no_ground no_bruised no_ladder no_helper no_today no_clock pa_keptCells pa_isKept) (hq : ∀ o : Int32 × (Nat → Int32) × (Nat → Int32), o = F_X4_store p0 no_apron no_basket no_ground no_bruised no_ladder no_helper no_today no_clock pa_keptCells pa_isKept → P o.1 o.2.1 o.2.2 → Q o.1 o.2.1 o.2.2) : wp_X4_store Q p0 no_apron no_basket no_ground no_bruised no_ladder no_helper no_today no_clock pa_keptCells pa_isKept := by
  rw [F_X4_store] at hq
  refine And.intro (fun c1 => ?_) (fun c1 => ?_)
  · have h := And.left h c1
    rw [if_pos c1] at hq
    have q9 := hq _ rfl
    dsimp only at q9
    exact q9 h
  · have h := And.right h c1
    rw [if_neg c1] at hq
    refine And.intro (fun c2 => ?_) (fun c2 => ?_)
    · have h := And.left h c2
      rw [if_pos c2] at hq
      refine ae ?_
      have h := h _ rfl
      refine du_X2_write_b2 h ?_
      intro h
      refine And.intro (And.left h) ?_
      have h := And.right h
      have q9 := hq _ rfl
      dsimp only at q9
      exact q9 h
    · have h := And.right h c2
      rw [if_neg c2] at hq
      have q9 := hq _ rfl
      dsimp only at q9
      exact q9 h
theorem du_X4_store {P Q : Int32 → (Nat → Int32) → (Nat → Int32) → Prop} {p0 : Int32} {no_apron : Int32} {no_basket : Int32} {no_ground : Int32} {no_bruised : Int32} {no_ladder : Int32} {no_helper : Int32} {no_today : Int32} {no_clock : Int32} {pa_keptCells : Nat → Int32} {pa_isKept : Nat → Int32} (h : wp_X4_store P p0 no_apron no_basket no_ground no_bruised no_ladder no_helper no_today no_clock pa_keptCells pa_isKept) (hq : P (F_X4_store p0 no_apron no_basket no_ground no_bruised no_ladder no_helper no_today no_clock pa_keptCells pa_isKept).1 (F_X4_store p0 no_apron no_basket no_ground no_bruised no_ladder no_helper no_today no_clock pa_keptCells pa_isKept).2.1 (F_X4_store p0 no_apron no_basket no_ground no_bruised no_ladder no_helper no_today no_clock pa_keptCells pa_isKept).2.2 → Q (F_X4_store p0 no_apron no_basket no_ground no_bruised no_ladder no_helper no_today no_clock pa_keptCells pa_isKept).1 (F_X4_store p0 no_apron no_basket no_ground no_bruised no_ladder no_helper no_today no_clock pa_keptCells pa_isKept).2.1 (F_X4_store p0 no_apron no_basket no_ground no_bruised no_ladder no_helper no_today no_clock pa_keptCells pa_isKept).2.2) : wp_X4_store Q p0 no_apron no_basket no_ground no_bruised no_ladder no_helper no_today no_clock pa_keptCells pa_isKept := dt_X4_store h (fun o eo => by rw [eo]; exact hq)
noncomputable def F_X9_keep (p0 : Int32) (no_apron : Int32) (no_basket : Int32) (no_ground : Int32) (no_bruised : Int32) (no_ladder : Int32) (no_helper : Int32) (no_today : Int32) (no_clock : Int32) (pa_keptCells : Nat → Int32) (pa_isKept : Nat → Int32) : Int32 × (Nat → Int32) × (Nat → Int32) := ((F_X4_store p0 no_apron no_basket no_ground no_bruised no_ladder no_helper no_today no_clock pa_keptCells pa_isKept).1, (F_X4_store p0 no_apron no_basket no_ground no_bruised no_ladder no_helper no_today no_clock pa_keptCells pa_isKept).2.1, (F_X4_store p0 no_apron no_basket no_ground no_bruised no_ladder no_helper no_today no_clock pa_keptCells pa_isKept).2.2)
set_option maxHeartbeats 200000 in
set_option maxRecDepth 10000 in
theorem dt_X9_keep {P Q : Int32 → (Nat → Int32) → (Nat → Int32) → Prop} {p0 : Int32} {no_apron : Int32} {no_basket : Int32} {no_ground : Int32} {no_bruised : Int32} {no_ladder : Int32} {no_helper : Int32} {no_today : Int32} {no_clock : Int32} {pa_keptCells : Nat → Int32} {pa_isKept : Nat → Int32} (h : wp_X9_keep P p0 no_apron no_basket no_ground no_bruised no_ladder no_helper no_today no_clock pa_keptCells pa_isKept) (hq : ∀ o : Int32 × (Nat → Int32) × (Nat → Int32), o = F_X9_keep p0 no_apron no_basket no_ground no_bruised no_ladder no_helper no_today no_clock pa_keptCells pa_isKept → P o.1 o.2.1 o.2.2 → Q o.1 o.2.1 o.2.2) : wp_X9_keep Q p0 no_apron no_basket no_ground no_bruised no_ladder no_helper no_today no_clock pa_keptCells pa_isKept := by
  rw [F_X9_keep] at hq
  refine du_X4_store h ?_
  intro h
  refine And.intro (And.left h) ?_
  have h := And.right h
  have q9 := hq _ rfl
  dsimp only at q9
  exact q9 h
theorem du_X9_keep {P Q : Int32 → (Nat → Int32) → (Nat → Int32) → Prop} {p0 : Int32} {no_apron : Int32} {no_basket : Int32} {no_ground : Int32} {no_bruised : Int32} {no_ladder : Int32} {no_helper : Int32} {no_today : Int32} {no_clock : Int32} {pa_keptCells : Nat → Int32} {pa_isKept : Nat → Int32} (h : wp_X9_keep P p0 no_apron no_basket no_ground no_bruised no_ladder no_helper no_today no_clock pa_keptCells pa_isKept) (hq : P (F_X9_keep p0 no_apron no_basket no_ground no_bruised no_ladder no_helper no_today no_clock pa_keptCells pa_isKept).1 (F_X9_keep p0 no_apron no_basket no_ground no_bruised no_ladder no_helper no_today no_clock pa_keptCells pa_isKept).2.1 (F_X9_keep p0 no_apron no_basket no_ground no_bruised no_ladder no_helper no_today no_clock pa_keptCells pa_isKept).2.2 → Q (F_X9_keep p0 no_apron no_basket no_ground no_bruised no_ladder no_helper no_today no_clock pa_keptCells pa_isKept).1 (F_X9_keep p0 no_apron no_basket no_ground no_bruised no_ladder no_helper no_today no_clock pa_keptCells pa_isKept).2.1 (F_X9_keep p0 no_apron no_basket no_ground no_bruised no_ladder no_helper no_today no_clock pa_keptCells pa_isKept).2.2) : wp_X9_keep Q p0 no_apron no_basket no_ground no_bruised no_ladder no_helper no_today no_clock pa_keptCells pa_isKept := dt_X9_keep h (fun o eo => by rw [eo]; exact hq)
theorem dw_X9_keep {Q : Int32 → (Nat → Int32) → (Nat → Int32) → Prop} {p0 : Int32} {no_apron : Int32} {no_basket : Int32} {no_ground : Int32} {no_bruised : Int32} {no_ladder : Int32} {no_helper : Int32} {no_today : Int32} {no_clock : Int32} {pa_keptCells : Nat → Int32} {pa_isKept : Nat → Int32} (h : wp_X9_keep (fun o0 o1 o2 => (o0, o1, o2) = F_X9_keep p0 no_apron no_basket no_ground no_bruised no_ladder no_helper no_today no_clock pa_keptCells pa_isKept → Q o0 o1 o2) p0 no_apron no_basket no_ground no_bruised no_ladder no_helper no_today no_clock pa_keptCells pa_isKept) : wp_X9_keep Q p0 no_apron no_basket no_ground no_bruised no_ladder no_helper no_today no_clock pa_keptCells pa_isKept := dt_X9_keep h (fun o eo hp => hp eo)
noncomputable def F_X2_read_b2 (p1 : Int32) (no_apron : Int32) (no_basket : Int32) (no_ground : Int32) (no_bruised : Int32) (no_ladder : Int32) (no_helper : Int32) (no_today : Int32) (no_clock : Int32) (pa_keptCells : Nat → Int32) : Int32 × Int32 × Int32 × Int32 × Int32 × Int32 × Int32 × Int32 := if p1 < 0 then (no_apron, no_basket, no_ground, no_bruised, no_ladder, no_helper, no_today, no_clock) else (if p1 ≤ (16 - 8) then ((pa_keptCells p1.toNatClampNeg), (pa_keptCells (p1 + 1).toNatClampNeg), (pa_keptCells (p1 + 2).toNatClampNeg), (pa_keptCells (p1 + 3).toNatClampNeg), (pa_keptCells (p1 + 4).toNatClampNeg), (pa_keptCells (p1 + 5).toNatClampNeg), (pa_keptCells (p1 + 6).toNatClampNeg), (pa_keptCells (p1 + 7).toNatClampNeg)) else (no_apron, no_basket, no_ground, no_bruised, no_ladder, no_helper, no_today, no_clock))
set_option maxHeartbeats 200000 in
set_option maxRecDepth 10000 in
theorem dt_X2_read_b2 {P Q : Int32 → Int32 → Int32 → Int32 → Int32 → Int32 → Int32 → Int32 → Prop} {p1 : Int32} {no_apron : Int32} {no_basket : Int32} {no_ground : Int32} {no_bruised : Int32} {no_ladder : Int32} {no_helper : Int32} {no_today : Int32} {no_clock : Int32} {pa_keptCells : Nat → Int32} (h : wp_X2_read_b2 P p1 no_apron no_basket no_ground no_bruised no_ladder no_helper no_today no_clock pa_keptCells) (hq : ∀ o : Int32 × Int32 × Int32 × Int32 × Int32 × Int32 × Int32 × Int32, o = F_X2_read_b2 p1 no_apron no_basket no_ground no_bruised no_ladder no_helper no_today no_clock pa_keptCells → P o.1 o.2.1 o.2.2.1 o.2.2.2.1 o.2.2.2.2.1 o.2.2.2.2.2.1 o.2.2.2.2.2.2.1 o.2.2.2.2.2.2.2 → Q o.1 o.2.1 o.2.2.1 o.2.2.2.1 o.2.2.2.2.1 o.2.2.2.2.2.1 o.2.2.2.2.2.2.1 o.2.2.2.2.2.2.2) : wp_X2_read_b2 Q p1 no_apron no_basket no_ground no_bruised no_ladder no_helper no_today no_clock pa_keptCells := by
  rw [F_X2_read_b2] at hq
  refine And.intro (fun c1 => ?_) (fun c1 => ?_)
  · have h := And.left h c1
    rw [if_pos c1] at hq
    have q9 := hq _ rfl
    dsimp only at q9
    exact q9 h
  · have h := And.right h c1
    rw [if_neg c1] at hq
    refine And.intro (fun c2 => ?_) (fun c2 => ?_)
    · have h := And.left h c2
      rw [if_pos c2] at hq
      refine And.intro (And.left h) ?_
      have h := And.right h
      refine ae ?_
      have h := h _ rfl
      refine ae ?_
      have h := h _ rfl
      refine And.intro (And.left h) ?_
      have h := And.right h
      refine ae ?_
      have h := h _ rfl
      refine ae ?_
      have h := h _ rfl
      refine And.intro (And.left h) ?_
      have h := And.right h
      refine ae ?_
      have h := h _ rfl
      refine ae ?_
      have h := h _ rfl
      refine And.intro (And.left h) ?_
      have h := And.right h
      refine ae ?_
      have h := h _ rfl
      refine ae ?_
      have h := h _ rfl
      refine And.intro (And.left h) ?_
      have h := And.right h
      refine ae ?_
      have h := h _ rfl
      refine ae ?_
      have h := h _ rfl
      refine And.intro (And.left h) ?_
      have h := And.right h
      refine ae ?_
      have h := h _ rfl
      refine ae ?_
      have h := h _ rfl
      refine And.intro (And.left h) ?_
      have h := And.right h
      refine ae ?_
      have h := h _ rfl
      refine ae ?_
      have h := h _ rfl
      refine And.intro (And.left h) ?_
      have h := And.right h
      refine ae ?_
      have h := h _ rfl
      have q9 := hq _ rfl
      dsimp only at q9
      exact q9 h
    · have h := And.right h c2
      rw [if_neg c2] at hq
      have q9 := hq _ rfl
      dsimp only at q9
      exact q9 h
theorem du_X2_read_b2 {P Q : Int32 → Int32 → Int32 → Int32 → Int32 → Int32 → Int32 → Int32 → Prop} {p1 : Int32} {no_apron : Int32} {no_basket : Int32} {no_ground : Int32} {no_bruised : Int32} {no_ladder : Int32} {no_helper : Int32} {no_today : Int32} {no_clock : Int32} {pa_keptCells : Nat → Int32} (h : wp_X2_read_b2 P p1 no_apron no_basket no_ground no_bruised no_ladder no_helper no_today no_clock pa_keptCells) (hq : P (F_X2_read_b2 p1 no_apron no_basket no_ground no_bruised no_ladder no_helper no_today no_clock pa_keptCells).1 (F_X2_read_b2 p1 no_apron no_basket no_ground no_bruised no_ladder no_helper no_today no_clock pa_keptCells).2.1 (F_X2_read_b2 p1 no_apron no_basket no_ground no_bruised no_ladder no_helper no_today no_clock pa_keptCells).2.2.1 (F_X2_read_b2 p1 no_apron no_basket no_ground no_bruised no_ladder no_helper no_today no_clock pa_keptCells).2.2.2.1 (F_X2_read_b2 p1 no_apron no_basket no_ground no_bruised no_ladder no_helper no_today no_clock pa_keptCells).2.2.2.2.1 (F_X2_read_b2 p1 no_apron no_basket no_ground no_bruised no_ladder no_helper no_today no_clock pa_keptCells).2.2.2.2.2.1 (F_X2_read_b2 p1 no_apron no_basket no_ground no_bruised no_ladder no_helper no_today no_clock pa_keptCells).2.2.2.2.2.2.1 (F_X2_read_b2 p1 no_apron no_basket no_ground no_bruised no_ladder no_helper no_today no_clock pa_keptCells).2.2.2.2.2.2.2 → Q (F_X2_read_b2 p1 no_apron no_basket no_ground no_bruised no_ladder no_helper no_today no_clock pa_keptCells).1 (F_X2_read_b2 p1 no_apron no_basket no_ground no_bruised no_ladder no_helper no_today no_clock pa_keptCells).2.1 (F_X2_read_b2 p1 no_apron no_basket no_ground no_bruised no_ladder no_helper no_today no_clock pa_keptCells).2.2.1 (F_X2_read_b2 p1 no_apron no_basket no_ground no_bruised no_ladder no_helper no_today no_clock pa_keptCells).2.2.2.1 (F_X2_read_b2 p1 no_apron no_basket no_ground no_bruised no_ladder no_helper no_today no_clock pa_keptCells).2.2.2.2.1 (F_X2_read_b2 p1 no_apron no_basket no_ground no_bruised no_ladder no_helper no_today no_clock pa_keptCells).2.2.2.2.2.1 (F_X2_read_b2 p1 no_apron no_basket no_ground no_bruised no_ladder no_helper no_today no_clock pa_keptCells).2.2.2.2.2.2.1 (F_X2_read_b2 p1 no_apron no_basket no_ground no_bruised no_ladder no_helper no_today no_clock pa_keptCells).2.2.2.2.2.2.2) : wp_X2_read_b2 Q p1 no_apron no_basket no_ground no_bruised no_ladder no_helper no_today no_clock pa_keptCells := dt_X2_read_b2 h (fun o eo => by rw [eo]; exact hq)
noncomputable def F_X4_fetch (p0 : Int32) (no_apron : Int32) (no_basket : Int32) (no_ground : Int32) (no_bruised : Int32) (no_ladder : Int32) (no_helper : Int32) (no_today : Int32) (no_clock : Int32) (pa_undoable : Int32) (pa_keptCells : Nat → Int32) (pa_isKept : Nat → Int32) : Int32 × Int32 × Int32 × Int32 × Int32 × Int32 × Int32 × Int32 × Int32 × Int32 := if p0 < 0 then (0, no_apron, no_basket, no_ground, no_bruised, no_ladder, no_helper, no_today, no_clock, pa_undoable) else (if 2 ≤ p0 then (0, no_apron, no_basket, no_ground, no_bruised, no_ladder, no_helper, no_today, no_clock, pa_undoable) else (if (pa_isKept p0.toNatClampNeg) = 0 then (0, no_apron, no_basket, no_ground, no_bruised, no_ladder, no_helper, no_today, no_clock, pa_undoable) else (1, (F_X2_read_b2 (p0 * 8) no_apron no_basket no_ground no_bruised no_ladder no_helper no_today no_clock pa_keptCells).1, (F_X2_read_b2 (p0 * 8) no_apron no_basket no_ground no_bruised no_ladder no_helper no_today no_clock pa_keptCells).2.1, (F_X2_read_b2 (p0 * 8) no_apron no_basket no_ground no_bruised no_ladder no_helper no_today no_clock pa_keptCells).2.2.1, (F_X2_read_b2 (p0 * 8) no_apron no_basket no_ground no_bruised no_ladder no_helper no_today no_clock pa_keptCells).2.2.2.1, (F_X2_read_b2 (p0 * 8) no_apron no_basket no_ground no_bruised no_ladder no_helper no_today no_clock pa_keptCells).2.2.2.2.1, (F_X2_read_b2 (p0 * 8) no_apron no_basket no_ground no_bruised no_ladder no_helper no_today no_clock pa_keptCells).2.2.2.2.2.1, (F_X2_read_b2 (p0 * 8) no_apron no_basket no_ground no_bruised no_ladder no_helper no_today no_clock pa_keptCells).2.2.2.2.2.2.1, (F_X2_read_b2 (p0 * 8) no_apron no_basket no_ground no_bruised no_ladder no_helper no_today no_clock pa_keptCells).2.2.2.2.2.2.2, 0)))
set_option maxHeartbeats 200000 in
set_option maxRecDepth 10000 in
theorem dt_X4_fetch {P Q : Int32 → Int32 → Int32 → Int32 → Int32 → Int32 → Int32 → Int32 → Int32 → Int32 → Prop} {p0 : Int32} {no_apron : Int32} {no_basket : Int32} {no_ground : Int32} {no_bruised : Int32} {no_ladder : Int32} {no_helper : Int32} {no_today : Int32} {no_clock : Int32} {pa_undoable : Int32} {pa_keptCells : Nat → Int32} {pa_isKept : Nat → Int32} (h : wp_X4_fetch P p0 no_apron no_basket no_ground no_bruised no_ladder no_helper no_today no_clock pa_undoable pa_keptCells pa_isKept) (hq : ∀ o : Int32 × Int32 × Int32 × Int32 × Int32 × Int32 × Int32 × Int32 × Int32 × Int32, o = F_X4_fetch p0 no_apron no_basket no_ground no_bruised no_ladder no_helper no_today no_clock pa_undoable pa_keptCells pa_isKept → P o.1 o.2.1 o.2.2.1 o.2.2.2.1 o.2.2.2.2.1 o.2.2.2.2.2.1 o.2.2.2.2.2.2.1 o.2.2.2.2.2.2.2.1 o.2.2.2.2.2.2.2.2.1 o.2.2.2.2.2.2.2.2.2 → Q o.1 o.2.1 o.2.2.1 o.2.2.2.1 o.2.2.2.2.1 o.2.2.2.2.2.1 o.2.2.2.2.2.2.1 o.2.2.2.2.2.2.2.1 o.2.2.2.2.2.2.2.2.1 o.2.2.2.2.2.2.2.2.2) : wp_X4_fetch Q p0 no_apron no_basket no_ground no_bruised no_ladder no_helper no_today no_clock pa_undoable pa_keptCells pa_isKept := by
  rw [F_X4_fetch] at hq
  refine And.intro (fun c1 => ?_) (fun c1 => ?_)
  · have h := And.left h c1
    rw [if_pos c1] at hq
    have q9 := hq _ rfl
    dsimp only at q9
    exact q9 h
  · have h := And.right h c1
    rw [if_neg c1] at hq
    refine And.intro (fun c2 => ?_) (fun c2 => ?_)
    · have h := And.left h c2
      rw [if_pos c2] at hq
      have q9 := hq _ rfl
      dsimp only at q9
      exact q9 h
    · have h := And.right h c2
      rw [if_neg c2] at hq
      refine And.intro (And.left h) ?_
      have h := And.right h
      refine And.intro (fun c3 => ?_) (fun c3 => ?_)
      · have h := And.left h c3
        rw [if_neg c3] at hq
        refine ae ?_
        have h := h _ rfl
        refine du_X2_read_b2 h ?_
        intro h
        have q9 := hq _ rfl
        dsimp only at q9
        exact q9 h
      · have h := And.right h c3
        rw [if_pos c3] at hq
        have q9 := hq _ rfl
        dsimp only at q9
        exact q9 h
theorem du_X4_fetch {P Q : Int32 → Int32 → Int32 → Int32 → Int32 → Int32 → Int32 → Int32 → Int32 → Int32 → Prop} {p0 : Int32} {no_apron : Int32} {no_basket : Int32} {no_ground : Int32} {no_bruised : Int32} {no_ladder : Int32} {no_helper : Int32} {no_today : Int32} {no_clock : Int32} {pa_undoable : Int32} {pa_keptCells : Nat → Int32} {pa_isKept : Nat → Int32} (h : wp_X4_fetch P p0 no_apron no_basket no_ground no_bruised no_ladder no_helper no_today no_clock pa_undoable pa_keptCells pa_isKept) (hq : P (F_X4_fetch p0 no_apron no_basket no_ground no_bruised no_ladder no_helper no_today no_clock pa_undoable pa_keptCells pa_isKept).1 (F_X4_fetch p0 no_apron no_basket no_ground no_bruised no_ladder no_helper no_today no_clock pa_undoable pa_keptCells pa_isKept).2.1 (F_X4_fetch p0 no_apron no_basket no_ground no_bruised no_ladder no_helper no_today no_clock pa_undoable pa_keptCells pa_isKept).2.2.1 (F_X4_fetch p0 no_apron no_basket no_ground no_bruised no_ladder no_helper no_today no_clock pa_undoable pa_keptCells pa_isKept).2.2.2.1 (F_X4_fetch p0 no_apron no_basket no_ground no_bruised no_ladder no_helper no_today no_clock pa_undoable pa_keptCells pa_isKept).2.2.2.2.1 (F_X4_fetch p0 no_apron no_basket no_ground no_bruised no_ladder no_helper no_today no_clock pa_undoable pa_keptCells pa_isKept).2.2.2.2.2.1 (F_X4_fetch p0 no_apron no_basket no_ground no_bruised no_ladder no_helper no_today no_clock pa_undoable pa_keptCells pa_isKept).2.2.2.2.2.2.1 (F_X4_fetch p0 no_apron no_basket no_ground no_bruised no_ladder no_helper no_today no_clock pa_undoable pa_keptCells pa_isKept).2.2.2.2.2.2.2.1 (F_X4_fetch p0 no_apron no_basket no_ground no_bruised no_ladder no_helper no_today no_clock pa_undoable pa_keptCells pa_isKept).2.2.2.2.2.2.2.2.1 (F_X4_fetch p0 no_apron no_basket no_ground no_bruised no_ladder no_helper no_today no_clock pa_undoable pa_keptCells pa_isKept).2.2.2.2.2.2.2.2.2 → Q (F_X4_fetch p0 no_apron no_basket no_ground no_bruised no_ladder no_helper no_today no_clock pa_undoable pa_keptCells pa_isKept).1 (F_X4_fetch p0 no_apron no_basket no_ground no_bruised no_ladder no_helper no_today no_clock pa_undoable pa_keptCells pa_isKept).2.1 (F_X4_fetch p0 no_apron no_basket no_ground no_bruised no_ladder no_helper no_today no_clock pa_undoable pa_keptCells pa_isKept).2.2.1 (F_X4_fetch p0 no_apron no_basket no_ground no_bruised no_ladder no_helper no_today no_clock pa_undoable pa_keptCells pa_isKept).2.2.2.1 (F_X4_fetch p0 no_apron no_basket no_ground no_bruised no_ladder no_helper no_today no_clock pa_undoable pa_keptCells pa_isKept).2.2.2.2.1 (F_X4_fetch p0 no_apron no_basket no_ground no_bruised no_ladder no_helper no_today no_clock pa_undoable pa_keptCells pa_isKept).2.2.2.2.2.1 (F_X4_fetch p0 no_apron no_basket no_ground no_bruised no_ladder no_helper no_today no_clock pa_undoable pa_keptCells pa_isKept).2.2.2.2.2.2.1 (F_X4_fetch p0 no_apron no_basket no_ground no_bruised no_ladder no_helper no_today no_clock pa_undoable pa_keptCells pa_isKept).2.2.2.2.2.2.2.1 (F_X4_fetch p0 no_apron no_basket no_ground no_bruised no_ladder no_helper no_today no_clock pa_undoable pa_keptCells pa_isKept).2.2.2.2.2.2.2.2.1 (F_X4_fetch p0 no_apron no_basket no_ground no_bruised no_ladder no_helper no_today no_clock pa_undoable pa_keptCells pa_isKept).2.2.2.2.2.2.2.2.2) : wp_X4_fetch Q p0 no_apron no_basket no_ground no_bruised no_ladder no_helper no_today no_clock pa_undoable pa_keptCells pa_isKept := dt_X4_fetch h (fun o eo => by rw [eo]; exact hq)
noncomputable def F_X9_again (p0 : Int32) (no_apron : Int32) (no_basket : Int32) (no_ground : Int32) (no_bruised : Int32) (no_ladder : Int32) (no_helper : Int32) (no_today : Int32) (no_clock : Int32) (pa_undoable : Int32) (pa_keptCells : Nat → Int32) (pa_isKept : Nat → Int32) : Int32 × Int32 × Int32 × Int32 × Int32 × Int32 × Int32 × Int32 × Int32 × Int32 := ((F_X4_fetch p0 no_apron no_basket no_ground no_bruised no_ladder no_helper no_today no_clock pa_undoable pa_keptCells pa_isKept).1, (F_X4_fetch p0 no_apron no_basket no_ground no_bruised no_ladder no_helper no_today no_clock pa_undoable pa_keptCells pa_isKept).2.1, (F_X4_fetch p0 no_apron no_basket no_ground no_bruised no_ladder no_helper no_today no_clock pa_undoable pa_keptCells pa_isKept).2.2.1, (F_X4_fetch p0 no_apron no_basket no_ground no_bruised no_ladder no_helper no_today no_clock pa_undoable pa_keptCells pa_isKept).2.2.2.1, (F_X4_fetch p0 no_apron no_basket no_ground no_bruised no_ladder no_helper no_today no_clock pa_undoable pa_keptCells pa_isKept).2.2.2.2.1, (F_X4_fetch p0 no_apron no_basket no_ground no_bruised no_ladder no_helper no_today no_clock pa_undoable pa_keptCells pa_isKept).2.2.2.2.2.1, (F_X4_fetch p0 no_apron no_basket no_ground no_bruised no_ladder no_helper no_today no_clock pa_undoable pa_keptCells pa_isKept).2.2.2.2.2.2.1, (F_X4_fetch p0 no_apron no_basket no_ground no_bruised no_ladder no_helper no_today no_clock pa_undoable pa_keptCells pa_isKept).2.2.2.2.2.2.2.1, (F_X4_fetch p0 no_apron no_basket no_ground no_bruised no_ladder no_helper no_today no_clock pa_undoable pa_keptCells pa_isKept).2.2.2.2.2.2.2.2.1, (F_X4_fetch p0 no_apron no_basket no_ground no_bruised no_ladder no_helper no_today no_clock pa_undoable pa_keptCells pa_isKept).2.2.2.2.2.2.2.2.2)
set_option maxHeartbeats 200000 in
set_option maxRecDepth 10000 in
theorem dt_X9_again {P Q : Int32 → Int32 → Int32 → Int32 → Int32 → Int32 → Int32 → Int32 → Int32 → Int32 → Prop} {p0 : Int32} {no_apron : Int32} {no_basket : Int32} {no_ground : Int32} {no_bruised : Int32} {no_ladder : Int32} {no_helper : Int32} {no_today : Int32} {no_clock : Int32} {pa_undoable : Int32} {pa_keptCells : Nat → Int32} {pa_isKept : Nat → Int32} (h : wp_X9_again P p0 no_apron no_basket no_ground no_bruised no_ladder no_helper no_today no_clock pa_undoable pa_keptCells pa_isKept) (hq : ∀ o : Int32 × Int32 × Int32 × Int32 × Int32 × Int32 × Int32 × Int32 × Int32 × Int32, o = F_X9_again p0 no_apron no_basket no_ground no_bruised no_ladder no_helper no_today no_clock pa_undoable pa_keptCells pa_isKept → P o.1 o.2.1 o.2.2.1 o.2.2.2.1 o.2.2.2.2.1 o.2.2.2.2.2.1 o.2.2.2.2.2.2.1 o.2.2.2.2.2.2.2.1 o.2.2.2.2.2.2.2.2.1 o.2.2.2.2.2.2.2.2.2 → Q o.1 o.2.1 o.2.2.1 o.2.2.2.1 o.2.2.2.2.1 o.2.2.2.2.2.1 o.2.2.2.2.2.2.1 o.2.2.2.2.2.2.2.1 o.2.2.2.2.2.2.2.2.1 o.2.2.2.2.2.2.2.2.2) : wp_X9_again Q p0 no_apron no_basket no_ground no_bruised no_ladder no_helper no_today no_clock pa_undoable pa_keptCells pa_isKept := by
  rw [F_X9_again] at hq
  refine du_X4_fetch h ?_
  intro h
  refine And.intro (And.left h) ?_
  have h := And.right h
  have q9 := hq _ rfl
  dsimp only at q9
  exact q9 h
theorem du_X9_again {P Q : Int32 → Int32 → Int32 → Int32 → Int32 → Int32 → Int32 → Int32 → Int32 → Int32 → Prop} {p0 : Int32} {no_apron : Int32} {no_basket : Int32} {no_ground : Int32} {no_bruised : Int32} {no_ladder : Int32} {no_helper : Int32} {no_today : Int32} {no_clock : Int32} {pa_undoable : Int32} {pa_keptCells : Nat → Int32} {pa_isKept : Nat → Int32} (h : wp_X9_again P p0 no_apron no_basket no_ground no_bruised no_ladder no_helper no_today no_clock pa_undoable pa_keptCells pa_isKept) (hq : P (F_X9_again p0 no_apron no_basket no_ground no_bruised no_ladder no_helper no_today no_clock pa_undoable pa_keptCells pa_isKept).1 (F_X9_again p0 no_apron no_basket no_ground no_bruised no_ladder no_helper no_today no_clock pa_undoable pa_keptCells pa_isKept).2.1 (F_X9_again p0 no_apron no_basket no_ground no_bruised no_ladder no_helper no_today no_clock pa_undoable pa_keptCells pa_isKept).2.2.1 (F_X9_again p0 no_apron no_basket no_ground no_bruised no_ladder no_helper no_today no_clock pa_undoable pa_keptCells pa_isKept).2.2.2.1 (F_X9_again p0 no_apron no_basket no_ground no_bruised no_ladder no_helper no_today no_clock pa_undoable pa_keptCells pa_isKept).2.2.2.2.1 (F_X9_again p0 no_apron no_basket no_ground no_bruised no_ladder no_helper no_today no_clock pa_undoable pa_keptCells pa_isKept).2.2.2.2.2.1 (F_X9_again p0 no_apron no_basket no_ground no_bruised no_ladder no_helper no_today no_clock pa_undoable pa_keptCells pa_isKept).2.2.2.2.2.2.1 (F_X9_again p0 no_apron no_basket no_ground no_bruised no_ladder no_helper no_today no_clock pa_undoable pa_keptCells pa_isKept).2.2.2.2.2.2.2.1 (F_X9_again p0 no_apron no_basket no_ground no_bruised no_ladder no_helper no_today no_clock pa_undoable pa_keptCells pa_isKept).2.2.2.2.2.2.2.2.1 (F_X9_again p0 no_apron no_basket no_ground no_bruised no_ladder no_helper no_today no_clock pa_undoable pa_keptCells pa_isKept).2.2.2.2.2.2.2.2.2 → Q (F_X9_again p0 no_apron no_basket no_ground no_bruised no_ladder no_helper no_today no_clock pa_undoable pa_keptCells pa_isKept).1 (F_X9_again p0 no_apron no_basket no_ground no_bruised no_ladder no_helper no_today no_clock pa_undoable pa_keptCells pa_isKept).2.1 (F_X9_again p0 no_apron no_basket no_ground no_bruised no_ladder no_helper no_today no_clock pa_undoable pa_keptCells pa_isKept).2.2.1 (F_X9_again p0 no_apron no_basket no_ground no_bruised no_ladder no_helper no_today no_clock pa_undoable pa_keptCells pa_isKept).2.2.2.1 (F_X9_again p0 no_apron no_basket no_ground no_bruised no_ladder no_helper no_today no_clock pa_undoable pa_keptCells pa_isKept).2.2.2.2.1 (F_X9_again p0 no_apron no_basket no_ground no_bruised no_ladder no_helper no_today no_clock pa_undoable pa_keptCells pa_isKept).2.2.2.2.2.1 (F_X9_again p0 no_apron no_basket no_ground no_bruised no_ladder no_helper no_today no_clock pa_undoable pa_keptCells pa_isKept).2.2.2.2.2.2.1 (F_X9_again p0 no_apron no_basket no_ground no_bruised no_ladder no_helper no_today no_clock pa_undoable pa_keptCells pa_isKept).2.2.2.2.2.2.2.1 (F_X9_again p0 no_apron no_basket no_ground no_bruised no_ladder no_helper no_today no_clock pa_undoable pa_keptCells pa_isKept).2.2.2.2.2.2.2.2.1 (F_X9_again p0 no_apron no_basket no_ground no_bruised no_ladder no_helper no_today no_clock pa_undoable pa_keptCells pa_isKept).2.2.2.2.2.2.2.2.2) : wp_X9_again Q p0 no_apron no_basket no_ground no_bruised no_ladder no_helper no_today no_clock pa_undoable pa_keptCells pa_isKept := dt_X9_again h (fun o eo => by rw [eo]; exact hq)
theorem dw_X9_again {Q : Int32 → Int32 → Int32 → Int32 → Int32 → Int32 → Int32 → Int32 → Int32 → Int32 → Prop} {p0 : Int32} {no_apron : Int32} {no_basket : Int32} {no_ground : Int32} {no_bruised : Int32} {no_ladder : Int32} {no_helper : Int32} {no_today : Int32} {no_clock : Int32} {pa_undoable : Int32} {pa_keptCells : Nat → Int32} {pa_isKept : Nat → Int32} (h : wp_X9_again (fun o0 o1 o2 o3 o4 o5 o6 o7 o8 o9 => (o0, o1, o2, o3, o4, o5, o6, o7, o8, o9) = F_X9_again p0 no_apron no_basket no_ground no_bruised no_ladder no_helper no_today no_clock pa_undoable pa_keptCells pa_isKept → Q o0 o1 o2 o3 o4 o5 o6 o7 o8 o9) p0 no_apron no_basket no_ground no_bruised no_ladder no_helper no_today no_clock pa_undoable pa_keptCells pa_isKept) : wp_X9_again Q p0 no_apron no_basket no_ground no_bruised no_ladder no_helper no_today no_clock pa_undoable pa_keptCells pa_isKept := dt_X9_again h (fun o eo hp => hp eo)
noncomputable def F_X10_valueOf (p0 : Int32) (m_askedFruit : Int32) (m_askedStanding : Int32) (m_askedHook : Int32) (m_askedApron : Int32) (m_x : Nat → Int32) (m_height : Nat → Int32) (m_worth : Nat → Int32) (m_foot : Nat → Int32) (m_fork : Nat → Int32) : Int32 := if p0 = 100 then (F_X10_far m_askedFruit m_askedStanding m_x m_foot) else (if p0 = 107 then m_askedApron else (if p0 = 115 then m_askedStanding else (if p0 = 117 then (F_X10_above m_askedFruit m_askedStanding m_height m_fork) else (if p0 = 119 then (m_worth m_askedFruit.toNatClampNeg) else (if p0 = 121 then (m_height m_askedFruit.toNatClampNeg) else m_askedHook)))))
set_option maxHeartbeats 200000 in
set_option maxRecDepth 10000 in
theorem dt_X10_valueOf {P Q : Int32 → Prop} {p0 : Int32} {m_askedFruit : Int32} {m_askedStanding : Int32} {m_askedHook : Int32} {m_askedApron : Int32} {m_x : Nat → Int32} {m_height : Nat → Int32} {m_worth : Nat → Int32} {m_foot : Nat → Int32} {m_fork : Nat → Int32} (h : wp_X10_valueOf P p0 m_askedFruit m_askedStanding m_askedHook m_askedApron m_x m_height m_worth m_foot m_fork) (hq : ∀ o : Int32, o = F_X10_valueOf p0 m_askedFruit m_askedStanding m_askedHook m_askedApron m_x m_height m_worth m_foot m_fork → P o → Q o) : wp_X10_valueOf Q p0 m_askedFruit m_askedStanding m_askedHook m_askedApron m_x m_height m_worth m_foot m_fork := by
  rw [F_X10_valueOf] at hq
  refine (And.intro (fun c1 => ?_) (And.intro (fun c2 => ?_) (And.intro (fun c3 => ?_) (And.intro (fun c4 => ?_) (And.intro (fun c5 => ?_) (And.intro (fun c6 => ?_) (fun c1 c2 c3 c4 c5 c6 => ?_)))))))
  · have h := And.left h c1
    rw [if_pos c1] at hq
    refine du_X10_far h ?_
    intro h
    have q9 := hq _ rfl
    exact q9 h
  · have h := And.left (And.right h) c2
    rw [if_neg (fun e9 => absurd (e9.symm.trans c2) (by decide)), if_pos c2] at hq
    have q9 := hq _ rfl
    exact q9 h
  · have h := And.left (And.right (And.right h)) c3
    rw [if_neg (fun e9 => absurd (e9.symm.trans c3) (by decide)), if_neg (fun e9 => absurd (e9.symm.trans c3) (by decide)), if_pos c3] at hq
    have q9 := hq _ rfl
    exact q9 h
  · have h := And.left (And.right (And.right (And.right h))) c4
    rw [if_neg (fun e9 => absurd (e9.symm.trans c4) (by decide)), if_neg (fun e9 => absurd (e9.symm.trans c4) (by decide)), if_neg (fun e9 => absurd (e9.symm.trans c4) (by decide)), if_pos c4] at hq
    refine du_X10_above h ?_
    intro h
    have q9 := hq _ rfl
    exact q9 h
  · have h := And.left (And.right (And.right (And.right (And.right h)))) c5
    rw [if_neg (fun e9 => absurd (e9.symm.trans c5) (by decide)), if_neg (fun e9 => absurd (e9.symm.trans c5) (by decide)), if_neg (fun e9 => absurd (e9.symm.trans c5) (by decide)), if_neg (fun e9 => absurd (e9.symm.trans c5) (by decide)), if_pos c5] at hq
    refine And.intro (And.left h) ?_
    have h := And.right h
    have q9 := hq _ rfl
    exact q9 h
  · have h := And.left (And.right (And.right (And.right (And.right (And.right h))))) c6
    rw [if_neg (fun e9 => absurd (e9.symm.trans c6) (by decide)), if_neg (fun e9 => absurd (e9.symm.trans c6) (by decide)), if_neg (fun e9 => absurd (e9.symm.trans c6) (by decide)), if_neg (fun e9 => absurd (e9.symm.trans c6) (by decide)), if_neg (fun e9 => absurd (e9.symm.trans c6) (by decide)), if_pos c6] at hq
    refine And.intro (And.left h) ?_
    have h := And.right h
    have q9 := hq _ rfl
    exact q9 h
  · have h := And.right (And.right (And.right (And.right (And.right (And.right h))))) c1 c2 c3 c4 c5 c6
    rw [if_neg c1, if_neg c2, if_neg c3, if_neg c4, if_neg c5, if_neg c6] at hq
    have q9 := hq _ rfl
    exact q9 h
theorem du_X10_valueOf {P Q : Int32 → Prop} {p0 : Int32} {m_askedFruit : Int32} {m_askedStanding : Int32} {m_askedHook : Int32} {m_askedApron : Int32} {m_x : Nat → Int32} {m_height : Nat → Int32} {m_worth : Nat → Int32} {m_foot : Nat → Int32} {m_fork : Nat → Int32} (h : wp_X10_valueOf P p0 m_askedFruit m_askedStanding m_askedHook m_askedApron m_x m_height m_worth m_foot m_fork) (hq : P (F_X10_valueOf p0 m_askedFruit m_askedStanding m_askedHook m_askedApron m_x m_height m_worth m_foot m_fork) → Q (F_X10_valueOf p0 m_askedFruit m_askedStanding m_askedHook m_askedApron m_x m_height m_worth m_foot m_fork)) : wp_X10_valueOf Q p0 m_askedFruit m_askedStanding m_askedHook m_askedApron m_x m_height m_worth m_foot m_fork := dt_X10_valueOf h (fun o eo => by rw [eo]; exact hq)
theorem dw_X10_valueOf {Q : Int32 → Prop} {p0 : Int32} {m_askedFruit : Int32} {m_askedStanding : Int32} {m_askedHook : Int32} {m_askedApron : Int32} {m_x : Nat → Int32} {m_height : Nat → Int32} {m_worth : Nat → Int32} {m_foot : Nat → Int32} {m_fork : Nat → Int32} (h : wp_X10_valueOf (fun o0 => o0 = F_X10_valueOf p0 m_askedFruit m_askedStanding m_askedHook m_askedApron m_x m_height m_worth m_foot m_fork → Q o0) p0 m_askedFruit m_askedStanding m_askedHook m_askedApron m_x m_height m_worth m_foot m_fork) : wp_X10_valueOf Q p0 m_askedFruit m_askedStanding m_askedHook m_askedApron m_x m_height m_worth m_foot m_fork := dt_X10_valueOf h (fun o eo hp => hp eo)
noncomputable def j_X10_which_31 {R : Type} (k5 : Int32 → Int32 → Int32 → R) (m_fruits : Int32) (m_now : Nat → Int32) (x2 : Int32) (x4 : Int32) (k0 : Int32) (k1 : Int32) : R := k5 x2 (k0 ||| k1) (x4 + 1)
noncomputable def bd_X10_which_5 (m_fruits : Int32) (m_now : Nat → Int32) (x2 : Int32) (c : Int32) (s : Int32) : Int32 := if (m_now c.toNatClampNeg) = x2 then (j_X10_which_31 (fun q0 q1 q2 => q1) m_fruits m_now x2 c s (1 <<< (c &&& 31))) else (j_X10_which_31 (fun q0 q1 q2 => q1) m_fruits m_now x2 c s 0)
noncomputable def ex_X10_which_5 {R : Type} (po : Int32 → R) (m_fruits : Int32) (m_now : Nat → Int32) (x2 : Int32) (c : Int32) (s : Int32) : R := po s
set_option maxHeartbeats 200000 in
set_option maxRecDepth 10000 in
theorem dl_X10_which_5 {P Q : Int32 → Prop} {m_fruits : Int32} {m_now : Nat → Int32} {x2 : Int32} {a : Int32} {i : Nat} (hi0 : i < 2147483648) (hE : ∀ (c : Int32) (s : Int32), c = nI (i + (Int32.toInt m_fruits - ((i : Nat) : Int)).toNat) → s = itr (bd_X10_which_5 m_fruits m_now x2) a i (Int32.toInt m_fruits - ((i : Nat) : Int)).toNat → (P s) → (Q s)) : ∀ (n k : Nat) (c : Int32), c = nI (i + k) → k ≤ (Int32.toInt m_fruits - ((i : Nat) : Int)).toNat → wb_X10_which_5 P m_fruits m_now n x2 (itr (bd_X10_which_5 m_fruits m_now x2) a i k) c → wb_X10_which_5 Q m_fruits m_now n x2 (itr (bd_X10_which_5 m_fruits m_now x2) a i k) c := by
  intro n
  induction n with
  | zero => intro k c hc hk h; exact False.elim h
  | succ n ih =>
    intro k c hc hk h
    have hr := tp_r m_fruits
    have hi : Int32.toInt c = ((i + k : Nat) : Int) := by rw [hc]; exact nI_toInt (by omega)
    refine And.intro (fun t0 => ?_) (fun t0 => ?_)
    · have h := And.left h t0
      have t1 := (fa_le _ _).mp t0
      have hk2 : k = (Int32.toInt m_fruits - ((i : Nat) : Int)).toNat := by omega
      subst hk2
      exact hE _ _ hc rfl h
    · have h := And.right h t0
      have t1 := mt (fa_le _ _).mpr t0
      have hs : ∀ o : Int32, o = itr (bd_X10_which_5 m_fruits m_now x2) a i (k + 1) → wb_X10_which_5 P m_fruits m_now n x2 o (c + 1) → wb_X10_which_5 Q m_fruits m_now n x2 o (c + 1) := by
        intro o eo h9
        have q := ih (k + 1) (c + 1) (by rw [hc]; exact nI_1 _) (by omega)
        rw [← eo] at q
        exact q h9
      rw [itr_s, ← hc, bd_X10_which_5] at hs
      refine And.intro (And.left h) ?_
      have h := And.right h
      refine ae ?_
      have h := h _ rfl
      refine And.intro (fun c1 => ?_) (fun c1 => ?_)
      · have h := And.left h c1
        rw [if_neg c1] at hs
        rw [j_X10_which_31] at hs
        unfold ws_X10_which_31 at h ⊢
        refine ae ?_
        have h := h _ rfl
        refine ae ?_
        have h := h _ rfl
        have q9 := hs _ rfl
        exact q9 h
      · have h := And.right h c1
        rw [if_pos c1] at hs
        refine ae ?_
        have h := h _ rfl
        rw [j_X10_which_31] at hs
        unfold ws_X10_which_31 at h ⊢
        refine ae ?_
        have h := h _ rfl
        refine ae ?_
        have h := h _ rfl
        have q9 := hs _ rfl
        exact q9 h
noncomputable def F_X10_which (p1 : Int32) (m_fruits : Int32) (m_now : Nat → Int32) : Int32 := ex_X10_which_5 (fun o0 => o0) m_fruits m_now p1 (nI (0 + (Int32.toInt m_fruits - ((0 : Nat) : Int)).toNat)) (itr (bd_X10_which_5 m_fruits m_now p1) 0 0 (Int32.toInt m_fruits - ((0 : Nat) : Int)).toNat)
set_option maxHeartbeats 200000 in
set_option maxRecDepth 10000 in
theorem dt_X10_which {P Q : Int32 → Prop} {p1 : Int32} {m_fruits : Int32} {m_now : Nat → Int32} (h : wp_X10_which P p1 m_fruits m_now) (hq : ∀ o : Int32, o = F_X10_which p1 m_fruits m_now → P o → Q o) : wp_X10_which Q p1 m_fruits m_now := by
  rw [F_X10_which] at hq
  obtain ⟨n1, h⟩ := h
  refine ⟨n1, dl_X10_which_5 (a := 0) (i := 0) (by decide) ?_ n1 0 0 (by decide) (Nat.zero_le _) h⟩
  intro cc2 s3 ec4 es5 h
  rw [← ec4, ← es5, ex_X10_which_5] at hq
  have q9 := hq _ rfl
  exact q9 h
theorem du_X10_which {P Q : Int32 → Prop} {p1 : Int32} {m_fruits : Int32} {m_now : Nat → Int32} (h : wp_X10_which P p1 m_fruits m_now) (hq : P (F_X10_which p1 m_fruits m_now) → Q (F_X10_which p1 m_fruits m_now)) : wp_X10_which Q p1 m_fruits m_now := dt_X10_which h (fun o eo => by rw [eo]; exact hq)
theorem dw_X10_which {Q : Int32 → Prop} {p1 : Int32} {m_fruits : Int32} {m_now : Nat → Int32} (h : wp_X10_which (fun o0 => o0 = F_X10_which p1 m_fruits m_now → Q o0) p1 m_fruits m_now) : wp_X10_which Q p1 m_fruits m_now := dt_X10_which h (fun o eo hp => hp eo)
noncomputable def F_X10_has (p0 : Int32) (p1 : Int32) : Int32 := if ((p0 >>> (p1 &&& 31)) &&& 1) = 1 then 1 else 0
set_option maxHeartbeats 200000 in
set_option maxRecDepth 10000 in
theorem dt_X10_has {P Q : Int32 → Prop} {p0 : Int32} {p1 : Int32} (h : wp_X10_has P p0 p1) (hq : ∀ o : Int32, o = F_X10_has p0 p1 → P o → Q o) : wp_X10_has Q p0 p1 := by
  rw [F_X10_has] at hq
  refine ae ?_
  have h := h _ rfl
  refine ae ?_
  have h := h _ rfl
  refine And.intro (fun c1 => ?_) (fun c1 => ?_)
  · have h := And.left h c1
    rw [if_neg c1] at hq
    have q9 := hq _ rfl
    exact q9 h
  · have h := And.right h c1
    rw [if_pos c1] at hq
    have q9 := hq _ rfl
    exact q9 h
theorem du_X10_has {P Q : Int32 → Prop} {p0 : Int32} {p1 : Int32} (h : wp_X10_has P p0 p1) (hq : P (F_X10_has p0 p1) → Q (F_X10_has p0 p1)) : wp_X10_has Q p0 p1 := dt_X10_has h (fun o eo => by rw [eo]; exact hq)
theorem dw_X10_has {Q : Int32 → Prop} {p0 : Int32} {p1 : Int32} (h : wp_X10_has (fun o0 => o0 = F_X10_has p0 p1 → Q o0) p0 p1) : wp_X10_has Q p0 p1 := dt_X10_has h (fun o eo hp => hp eo)
noncomputable def F_X10_isBelow (p0 : Int32) (p1 : Int32) (m_x : Nat → Int32) (m_height : Nat → Int32) : Int32 := if 1 < (if 0 ≤ ((m_x p1.toNatClampNeg) - (m_x p0.toNatClampNeg)) then ((m_x p1.toNatClampNeg) - (m_x p0.toNatClampNeg)) else 0 - ((m_x p1.toNatClampNeg) - (m_x p0.toNatClampNeg))) then 0 else (if (m_height p1.toNatClampNeg) ≤ (m_height p0.toNatClampNeg) then 0 else 1)
set_option maxHeartbeats 200000 in
set_option maxRecDepth 10000 in
theorem dt_X10_isBelow {P Q : Int32 → Prop} {p0 : Int32} {p1 : Int32} {m_x : Nat → Int32} {m_height : Nat → Int32} (h : wp_X10_isBelow P p0 p1 m_x m_height) (hq : ∀ o : Int32, o = F_X10_isBelow p0 p1 m_x m_height → P o → Q o) : wp_X10_isBelow Q p0 p1 m_x m_height := by
  rw [F_X10_isBelow] at hq
  refine And.intro (And.left h) ?_
  have h := And.right h
  refine ae ?_
  have h := h _ rfl
  refine And.intro (And.left h) ?_
  have h := And.right h
  refine ae ?_
  have h := h _ rfl
  refine ae ?_
  have h := h _ rfl
  refine And.intro (fun c1 => ?_) (fun c1 => ?_)
  · have h := And.left h c1
    rw [if_pos c1] at hq
    have q9 := hq _ rfl
    exact q9 h
  · have h := And.right h c1
    rw [if_neg c1] at hq
    refine And.intro (And.left h) ?_
    have h := And.right h
    refine ae ?_
    have h := h _ rfl
    refine And.intro (And.left h) ?_
    have h := And.right h
    refine And.intro (fun c2 => ?_) (fun c2 => ?_)
    · have h := And.left h c2
      rw [if_pos c2] at hq
      have q9 := hq _ rfl
      exact q9 h
    · have h := And.right h c2
      rw [if_neg c2] at hq
      have q9 := hq _ rfl
      exact q9 h
theorem du_X10_isBelow {P Q : Int32 → Prop} {p0 : Int32} {p1 : Int32} {m_x : Nat → Int32} {m_height : Nat → Int32} (h : wp_X10_isBelow P p0 p1 m_x m_height) (hq : P (F_X10_isBelow p0 p1 m_x m_height) → Q (F_X10_isBelow p0 p1 m_x m_height)) : wp_X10_isBelow Q p0 p1 m_x m_height := dt_X10_isBelow h (fun o eo => by rw [eo]; exact hq)
theorem dw_X10_isBelow {Q : Int32 → Prop} {p0 : Int32} {p1 : Int32} {m_x : Nat → Int32} {m_height : Nat → Int32} (h : wp_X10_isBelow (fun o0 => o0 = F_X10_isBelow p0 p1 m_x m_height → Q o0) p0 p1 m_x m_height) : wp_X10_isBelow Q p0 p1 m_x m_height := dt_X10_isBelow h (fun o eo hp => hp eo)
noncomputable def j_X10_below_42 {R : Type} (k5 : Int32 → Int32 → Int32 → Int32 → R) (m_fruits : Int32) (m_x : Nat → Int32) (m_height : Nat → Int32) (x1 : Int32) (x2 : Int32) (x4 : Int32) (k0 : Int32) (k1 : Int32) : R := k5 x1 x2 (k0 ||| k1) (x4 + 1)
noncomputable def j_X10_below_41 {R : Type} (k5 : Int32 → Int32 → Int32 → Int32 → R) (m_fruits : Int32) (m_x : Nat → Int32) (m_height : Nat → Int32) (x1 : Int32) (x2 : Int32) (x4 : Int32) (k0 : Int32) : R := j_X10_below_42 k5 m_fruits m_x m_height x1 x2 x4 k0 0
noncomputable def bd_X10_below_5 (m_fruits : Int32) (m_x : Nat → Int32) (m_height : Nat → Int32) (x1 : Int32) (x2 : Int32) (c : Int32) (s : Int32) : Int32 := if (F_X10_has x2 c) = 0 then (j_X10_below_41 (fun q0 q1 q2 q3 => q2) m_fruits m_x m_height x1 x2 c s) else (if (F_X10_isBelow c x1 m_x m_height) = 0 then (j_X10_below_41 (fun q0 q1 q2 q3 => q2) m_fruits m_x m_height x1 x2 c s) else (j_X10_below_42 (fun q0 q1 q2 q3 => q2) m_fruits m_x m_height x1 x2 c s (1 <<< (c &&& 31))))
noncomputable def ex_X10_below_5 {R : Type} (po : Int32 → R) (m_fruits : Int32) (m_x : Nat → Int32) (m_height : Nat → Int32) (x1 : Int32) (x2 : Int32) (c : Int32) (s : Int32) : R := po s
set_option maxHeartbeats 200000 in
set_option maxRecDepth 10000 in
theorem dl_X10_below_5 {P Q : Int32 → Prop} {m_fruits : Int32} {m_x : Nat → Int32} {m_height : Nat → Int32} {x1 : Int32} {x2 : Int32} {a : Int32} {i : Nat} (hi0 : i < 2147483648) (hE : ∀ (c : Int32) (s : Int32), c = nI (i + (Int32.toInt m_fruits - ((i : Nat) : Int)).toNat) → s = itr (bd_X10_below_5 m_fruits m_x m_height x1 x2) a i (Int32.toInt m_fruits - ((i : Nat) : Int)).toNat → (P s) → (Q s)) : ∀ (n k : Nat) (c : Int32), c = nI (i + k) → k ≤ (Int32.toInt m_fruits - ((i : Nat) : Int)).toNat → wb_X10_below_5 P m_fruits m_x m_height n x1 x2 (itr (bd_X10_below_5 m_fruits m_x m_height x1 x2) a i k) c → wb_X10_below_5 Q m_fruits m_x m_height n x1 x2 (itr (bd_X10_below_5 m_fruits m_x m_height x1 x2) a i k) c := by
  intro n
  induction n with
  | zero => intro k c hc hk h; exact False.elim h
  | succ n ih =>
    intro k c hc hk h
    have hr := tp_r m_fruits
    have hi : Int32.toInt c = ((i + k : Nat) : Int) := by rw [hc]; exact nI_toInt (by omega)
    refine And.intro (fun t0 => ?_) (fun t0 => ?_)
    · have h := And.left h t0
      have t1 := (fa_le _ _).mp t0
      have hk2 : k = (Int32.toInt m_fruits - ((i : Nat) : Int)).toNat := by omega
      subst hk2
      exact hE _ _ hc rfl h
    · have h := And.right h t0
      have t1 := mt (fa_le _ _).mpr t0
      have hs : ∀ o : Int32, o = itr (bd_X10_below_5 m_fruits m_x m_height x1 x2) a i (k + 1) → wb_X10_below_5 P m_fruits m_x m_height n x1 x2 o (c + 1) → wb_X10_below_5 Q m_fruits m_x m_height n x1 x2 o (c + 1) := by
        intro o eo h9
        have q := ih (k + 1) (c + 1) (by rw [hc]; exact nI_1 _) (by omega)
        rw [← eo] at q
        exact q h9
      rw [itr_s, ← hc, bd_X10_below_5] at hs
      refine du_X10_has h ?_
      intro h
      refine And.intro (fun c1 => ?_) (fun c1 => ?_)
      · have h := And.left h c1
        rw [if_pos c1] at hs
        rw [j_X10_below_41] at hs
        unfold ws_X10_below_41 at h ⊢
        rw [j_X10_below_42] at hs
        unfold ws_X10_below_42 at h ⊢
        refine ae ?_
        have h := h _ rfl
        refine ae ?_
        have h := h _ rfl
        have q9 := hs _ rfl
        exact q9 h
      · have h := And.right h c1
        rw [if_neg c1] at hs
        refine du_X10_isBelow h ?_
        intro h
        refine And.intro (fun c2 => ?_) (fun c2 => ?_)
        · have h := And.left h c2
          rw [if_pos c2] at hs
          rw [j_X10_below_41] at hs
          unfold ws_X10_below_41 at h ⊢
          rw [j_X10_below_42] at hs
          unfold ws_X10_below_42 at h ⊢
          refine ae ?_
          have h := h _ rfl
          refine ae ?_
          have h := h _ rfl
          have q9 := hs _ rfl
          exact q9 h
        · have h := And.right h c2
          rw [if_neg c2] at hs
          refine ae ?_
          have h := h _ rfl
          rw [j_X10_below_42] at hs
          unfold ws_X10_below_42 at h ⊢
          refine ae ?_
          have h := h _ rfl
          refine ae ?_
          have h := h _ rfl
          have q9 := hs _ rfl
          exact q9 h
noncomputable def F_X10_below (p0 : Int32) (p1 : Int32) (m_fruits : Int32) (m_x : Nat → Int32) (m_height : Nat → Int32) : Int32 := ex_X10_below_5 (fun o0 => o0) m_fruits m_x m_height p0 p1 (nI (0 + (Int32.toInt m_fruits - ((0 : Nat) : Int)).toNat)) (itr (bd_X10_below_5 m_fruits m_x m_height p0 p1) 0 0 (Int32.toInt m_fruits - ((0 : Nat) : Int)).toNat)
set_option maxHeartbeats 200000 in
set_option maxRecDepth 10000 in
theorem dt_X10_below {P Q : Int32 → Prop} {p0 : Int32} {p1 : Int32} {m_fruits : Int32} {m_x : Nat → Int32} {m_height : Nat → Int32} (h : wp_X10_below P p0 p1 m_fruits m_x m_height) (hq : ∀ o : Int32, o = F_X10_below p0 p1 m_fruits m_x m_height → P o → Q o) : wp_X10_below Q p0 p1 m_fruits m_x m_height := by
  rw [F_X10_below] at hq
  obtain ⟨n1, h⟩ := h
  refine ⟨n1, dl_X10_below_5 (a := 0) (i := 0) (by decide) ?_ n1 0 0 (by decide) (Nat.zero_le _) h⟩
  intro cc2 s3 ec4 es5 h
  rw [← ec4, ← es5, ex_X10_below_5] at hq
  have q9 := hq _ rfl
  exact q9 h
theorem du_X10_below {P Q : Int32 → Prop} {p0 : Int32} {p1 : Int32} {m_fruits : Int32} {m_x : Nat → Int32} {m_height : Nat → Int32} (h : wp_X10_below P p0 p1 m_fruits m_x m_height) (hq : P (F_X10_below p0 p1 m_fruits m_x m_height) → Q (F_X10_below p0 p1 m_fruits m_x m_height)) : wp_X10_below Q p0 p1 m_fruits m_x m_height := dt_X10_below h (fun o eo => by rw [eo]; exact hq)
theorem dw_X10_below {Q : Int32 → Prop} {p0 : Int32} {p1 : Int32} {m_fruits : Int32} {m_x : Nat → Int32} {m_height : Nat → Int32} (h : wp_X10_below (fun o0 => o0 = F_X10_below p0 p1 m_fruits m_x m_height → Q o0) p0 p1 m_fruits m_x m_height) : wp_X10_below Q p0 p1 m_fruits m_x m_height := dt_X10_below h (fun o eo hp => hp eo)
noncomputable def F_X10_refusesMove (p0 : Int32) (m_standings : Int32) (m_now : Nat → Int32) : Int32 := if (F_X10_isStanding p0 m_standings) = 0 then (-1) else (if (m_now (17 : Int32).toNatClampNeg) = p0 then (-2) else 0)
set_option maxHeartbeats 200000 in
set_option maxRecDepth 10000 in
theorem dt_X10_refusesMove {P Q : Int32 → Prop} {p0 : Int32} {m_standings : Int32} {m_now : Nat → Int32} (h : wp_X10_refusesMove P p0 m_standings m_now) (hq : ∀ o : Int32, o = F_X10_refusesMove p0 m_standings m_now → P o → Q o) : wp_X10_refusesMove Q p0 m_standings m_now := by
  rw [F_X10_refusesMove] at hq
  refine du_X10_isStanding h ?_
  intro h
  refine And.intro (fun c1 => ?_) (fun c1 => ?_)
  · have h := And.left h c1
    rw [if_neg c1] at hq
    refine ae ?_
    have h := h _ rfl
    refine And.intro (fun c2 => ?_) (fun c2 => ?_)
    · have h := And.left h c2
      rw [if_neg c2] at hq
      have q9 := hq _ rfl
      exact q9 h
    · have h := And.right h c2
      rw [if_pos c2] at hq
      have q9 := hq _ rfl
      exact q9 h
  · have h := And.right h c1
    rw [if_pos c1] at hq
    have q9 := hq _ rfl
    exact q9 h
theorem du_X10_refusesMove {P Q : Int32 → Prop} {p0 : Int32} {m_standings : Int32} {m_now : Nat → Int32} (h : wp_X10_refusesMove P p0 m_standings m_now) (hq : P (F_X10_refusesMove p0 m_standings m_now) → Q (F_X10_refusesMove p0 m_standings m_now)) : wp_X10_refusesMove Q p0 m_standings m_now := dt_X10_refusesMove h (fun o eo => by rw [eo]; exact hq)
theorem dw_X10_refusesMove {Q : Int32 → Prop} {p0 : Int32} {m_standings : Int32} {m_now : Nat → Int32} (h : wp_X10_refusesMove (fun o0 => o0 = F_X10_refusesMove p0 m_standings m_now → Q o0) p0 m_standings m_now) : wp_X10_refusesMove Q p0 m_standings m_now := dt_X10_refusesMove h (fun o eo hp => hp eo)
noncomputable def bd_X10_lay_2 (m_now : Nat → Int32) (x2 : Int32) (c : Int32) (s : (Nat → Int32)) : (Nat → Int32) := (upd s (x2 + c).toNatClampNeg (m_now c.toNatClampNeg))
noncomputable def ex_X10_lay_2 {R : Type} (po : (Nat → Int32) → R) (m_now : Nat → Int32) (x2 : Int32) (c : Int32) (s : (Nat → Int32)) : R := po s
set_option maxHeartbeats 200000 in
set_option maxRecDepth 10000 in
theorem dl_X10_lay_2 {P Q : (Nat → Int32) → Prop} {m_now : Nat → Int32} {x2 : Int32} {a : (Nat → Int32)} {i : Nat} (hi0 : i < 2147483648) (hE : ∀ (c : Int32) (s : (Nat → Int32)), c = nI (i + (Int32.toInt 21 - ((i : Nat) : Int)).toNat) → s = itr (bd_X10_lay_2 m_now x2) a i (Int32.toInt 21 - ((i : Nat) : Int)).toNat → (P s) → (Q s)) : ∀ (n k : Nat) (c : Int32), c = nI (i + k) → k ≤ (Int32.toInt 21 - ((i : Nat) : Int)).toNat → wb_X10_lay_2 P m_now n x2 c (itr (bd_X10_lay_2 m_now x2) a i k) → wb_X10_lay_2 Q m_now n x2 c (itr (bd_X10_lay_2 m_now x2) a i k) := by
  intro n
  induction n with
  | zero => intro k c hc hk h; exact False.elim h
  | succ n ih =>
    intro k c hc hk h
    have hr := tp_r 21
    have hi : Int32.toInt c = ((i + k : Nat) : Int) := by rw [hc]; exact nI_toInt (by omega)
    refine And.intro (fun t0 => ?_) (fun t0 => ?_)
    · have h := And.left h t0
      have t1 := (fa_le _ _).mp t0
      have hk2 : k = (Int32.toInt 21 - ((i : Nat) : Int)).toNat := by omega
      subst hk2
      exact hE _ _ hc rfl h
    · have h := And.right h t0
      have t1 := mt (fa_le _ _).mpr t0
      have hs : ∀ o : (Nat → Int32), o = itr (bd_X10_lay_2 m_now x2) a i (k + 1) → wb_X10_lay_2 P m_now n x2 (c + 1) o → wb_X10_lay_2 Q m_now n x2 (c + 1) o := by
        intro o eo h9
        have q := ih (k + 1) (c + 1) (by rw [hc]; exact nI_1 _) (by omega)
        rw [← eo] at q
        exact q h9
      rw [itr_s, ← hc, bd_X10_lay_2] at hs
      refine ae ?_
      have h := h _ rfl
      refine And.intro (And.left h) ?_
      have h := And.right h
      refine ae ?_
      have h := h _ rfl
      refine And.intro (And.left h) ?_
      have h := And.right h
      refine ae ?_
      have h := h _ rfl
      have q9 := hs _ rfl
      exact q9 h
noncomputable def F_X10_lay (p2 : Int32) (m_now : Nat → Int32) (m_undos : Nat → Int32) : (Nat → Int32) := ex_X10_lay_2 (fun o0 => o0) m_now p2 (nI (0 + (Int32.toInt 21 - ((0 : Nat) : Int)).toNat)) (itr (bd_X10_lay_2 m_now p2) m_undos 0 (Int32.toInt 21 - ((0 : Nat) : Int)).toNat)
set_option maxHeartbeats 200000 in
set_option maxRecDepth 10000 in
theorem dt_X10_lay {P Q : (Nat → Int32) → Prop} {p2 : Int32} {m_now : Nat → Int32} {m_undos : Nat → Int32} (h : wp_X10_lay P p2 m_now m_undos) (hq : ∀ o : (Nat → Int32), o = F_X10_lay p2 m_now m_undos → P o → Q o) : wp_X10_lay Q p2 m_now m_undos := by
  rw [F_X10_lay] at hq
  obtain ⟨n1, h⟩ := h
  refine ⟨n1, dl_X10_lay_2 (a := m_undos) (i := 0) (by decide) ?_ n1 0 0 (by decide) (Nat.zero_le _) h⟩
  intro cc2 s3 ec4 es5 h
  rw [← ec4, ← es5, ex_X10_lay_2] at hq
  have q9 := hq _ rfl
  exact q9 h
theorem du_X10_lay {P Q : (Nat → Int32) → Prop} {p2 : Int32} {m_now : Nat → Int32} {m_undos : Nat → Int32} (h : wp_X10_lay P p2 m_now m_undos) (hq : P (F_X10_lay p2 m_now m_undos) → Q (F_X10_lay p2 m_now m_undos)) : wp_X10_lay Q p2 m_now m_undos := dt_X10_lay h (fun o eo => by rw [eo]; exact hq)
theorem dw_X10_lay {Q : (Nat → Int32) → Prop} {p2 : Int32} {m_now : Nat → Int32} {m_undos : Nat → Int32} (h : wp_X10_lay (fun o0 => o0 = F_X10_lay p2 m_now m_undos → Q o0) p2 m_now m_undos) : wp_X10_lay Q p2 m_now m_undos := dt_X10_lay h (fun o eo hp => hp eo)
noncomputable def bd_X10_remember_11 (m_now : Nat → Int32) (m_undoMany : Int32) (c : Int32) (s : (Nat → Int32)) : (Nat → Int32) := (upd s c.toNatClampNeg (s (c + 21).toNatClampNeg))
noncomputable def j_X10_remember_49 {R : Type} (po : Int32 → (Nat → Int32) → R) (m_now : Nat → Int32) (m_undoMany : Int32) (m_undos : Nat → Int32) : R := po (m_undoMany + 1) (F_X10_lay (21 * m_undoMany) m_now m_undos)
noncomputable def ex_X10_remember_11 {R : Type} (po : Int32 → (Nat → Int32) → R) (m_now : Nat → Int32) (m_undoMany : Int32) (c : Int32) (s : (Nat → Int32)) : R := j_X10_remember_49 po m_now (m_undoMany - 1) s
set_option maxHeartbeats 200000 in
set_option maxRecDepth 10000 in
theorem dl_X10_remember_11 {P Q : Int32 → (Nat → Int32) → Prop} {m_now : Nat → Int32} {m_undoMany : Int32} {a : (Nat → Int32)} {i : Nat} (hi0 : i < 2147483648) (hE : ∀ (c : Int32) (s : (Nat → Int32)), c = nI (i + (Int32.toInt 231 - ((i : Nat) : Int)).toNat) → s = itr (bd_X10_remember_11 m_now m_undoMany) a i (Int32.toInt 231 - ((i : Nat) : Int)).toNat → (∀ v_4 : Int32, v_4 = m_undoMany - 1 → ws_X10_remember_49 P m_now v_4 s) → (∀ v_4 : Int32, v_4 = m_undoMany - 1 → ws_X10_remember_49 Q m_now v_4 s)) : ∀ (n k : Nat) (c : Int32), c = nI (i + k) → k ≤ (Int32.toInt 231 - ((i : Nat) : Int)).toNat → wb_X10_remember_11 P m_now n c m_undoMany (itr (bd_X10_remember_11 m_now m_undoMany) a i k) → wb_X10_remember_11 Q m_now n c m_undoMany (itr (bd_X10_remember_11 m_now m_undoMany) a i k) := by
  intro n
  induction n with
  | zero => intro k c hc hk h; exact False.elim h
  | succ n ih =>
    intro k c hc hk h
    have hr := tp_r 231
    have hi : Int32.toInt c = ((i + k : Nat) : Int) := by rw [hc]; exact nI_toInt (by omega)
    refine And.intro (fun t0 => ?_) (fun t0 => ?_)
    · have h := And.left h t0
      have t1 := (fa_le _ _).mp t0
      have hk2 : k = (Int32.toInt 231 - ((i : Nat) : Int)).toNat := by omega
      subst hk2
      exact hE _ _ hc rfl h
    · have h := And.right h t0
      have t1 := mt (fa_le _ _).mpr t0
      have hs : ∀ o : (Nat → Int32), o = itr (bd_X10_remember_11 m_now m_undoMany) a i (k + 1) → wb_X10_remember_11 P m_now n (c + 1) m_undoMany o → wb_X10_remember_11 Q m_now n (c + 1) m_undoMany o := by
        intro o eo h9
        have q := ih (k + 1) (c + 1) (by rw [hc]; exact nI_1 _) (by omega)
        rw [← eo] at q
        exact q h9
      rw [itr_s, ← hc, bd_X10_remember_11] at hs
      refine ae ?_
      have h := h _ rfl
      refine And.intro (And.left h) ?_
      have h := And.right h
      refine ae ?_
      have h := h _ rfl
      refine And.intro (And.left h) ?_
      have h := And.right h
      refine ae ?_
      have h := h _ rfl
      have q9 := hs _ rfl
      exact q9 h
noncomputable def F_X10_remember (m_undoMany : Int32) (m_now : Nat → Int32) (m_undos : Nat → Int32) : Int32 × (Nat → Int32) := if m_undoMany = 12 then (ex_X10_remember_11 (fun o0 o1 => (o0, o1)) m_now m_undoMany (nI (0 + (Int32.toInt 231 - ((0 : Nat) : Int)).toNat)) (itr (bd_X10_remember_11 m_now m_undoMany) m_undos 0 (Int32.toInt 231 - ((0 : Nat) : Int)).toNat)) else (j_X10_remember_49 (fun o0 o1 => (o0, o1)) m_now m_undoMany m_undos)
set_option maxHeartbeats 200000 in
set_option maxRecDepth 10000 in
theorem dt_X10_remember {P Q : Int32 → (Nat → Int32) → Prop} {m_undoMany : Int32} {m_now : Nat → Int32} {m_undos : Nat → Int32} (h : wp_X10_remember P m_undoMany m_now m_undos) (hq : ∀ o : Int32 × (Nat → Int32), o = F_X10_remember m_undoMany m_now m_undos → P o.1 o.2 → Q o.1 o.2) : wp_X10_remember Q m_undoMany m_now m_undos := by
  rw [F_X10_remember] at hq
  refine And.intro (fun c1 => ?_) (fun c1 => ?_)
  · have h := And.left h c1
    rw [if_neg c1] at hq
    rw [j_X10_remember_49] at hq
    unfold ws_X10_remember_49 at h ⊢
    refine ae ?_
    have h := h _ rfl
    refine du_X10_lay h ?_
    intro h
    refine ae ?_
    have h := h _ rfl
    have q9 := hq _ rfl
    dsimp only at q9
    exact q9 h
  · have h := And.right h c1
    rw [if_pos c1] at hq
    obtain ⟨n2, h⟩ := h
    refine ⟨n2, dl_X10_remember_11 (a := m_undos) (i := 0) (by decide) ?_ n2 0 0 (by decide) (Nat.zero_le _) h⟩
    intro cc3 s4 ec5 es6 h
    rw [← ec5, ← es6, ex_X10_remember_11] at hq
    refine ae ?_
    have h := h _ rfl
    rw [j_X10_remember_49] at hq
    unfold ws_X10_remember_49 at h ⊢
    refine ae ?_
    have h := h _ rfl
    refine du_X10_lay h ?_
    intro h
    refine ae ?_
    have h := h _ rfl
    have q9 := hq _ rfl
    dsimp only at q9
    exact q9 h
theorem du_X10_remember {P Q : Int32 → (Nat → Int32) → Prop} {m_undoMany : Int32} {m_now : Nat → Int32} {m_undos : Nat → Int32} (h : wp_X10_remember P m_undoMany m_now m_undos) (hq : P (F_X10_remember m_undoMany m_now m_undos).1 (F_X10_remember m_undoMany m_now m_undos).2 → Q (F_X10_remember m_undoMany m_now m_undos).1 (F_X10_remember m_undoMany m_now m_undos).2) : wp_X10_remember Q m_undoMany m_now m_undos := dt_X10_remember h (fun o eo => by rw [eo]; exact hq)
theorem dw_X10_remember {Q : Int32 → (Nat → Int32) → Prop} {m_undoMany : Int32} {m_now : Nat → Int32} {m_undos : Nat → Int32} (h : wp_X10_remember (fun o0 o1 => (o0, o1) = F_X10_remember m_undoMany m_now m_undos → Q o0 o1) m_undoMany m_now m_undos) : wp_X10_remember Q m_undoMany m_now m_undos := dt_X10_remember h (fun o eo hp => hp eo)
noncomputable def F_X10_moveOf (p0 : Int32) (p1 : Int32) (m_foot : Nat → Int32) (m_told : Nat → Int32) : Int32 := if p0 = (-1) then 9 else (9 + ((m_told (3 : Int32).toNatClampNeg) * (if 0 ≤ ((m_foot p0.toNatClampNeg) - (m_foot p1.toNatClampNeg)) then ((m_foot p0.toNatClampNeg) - (m_foot p1.toNatClampNeg)) else 0 - ((m_foot p0.toNatClampNeg) - (m_foot p1.toNatClampNeg)))))
set_option maxHeartbeats 200000 in
set_option maxRecDepth 10000 in
theorem dt_X10_moveOf {P Q : Int32 → Prop} {p0 : Int32} {p1 : Int32} {m_foot : Nat → Int32} {m_told : Nat → Int32} (h : wp_X10_moveOf P p0 p1 m_foot m_told) (hq : ∀ o : Int32, o = F_X10_moveOf p0 p1 m_foot m_told → P o → Q o) : wp_X10_moveOf Q p0 p1 m_foot m_told := by
  rw [F_X10_moveOf] at hq
  refine And.intro (fun c1 => ?_) (fun c1 => ?_)
  · have h := And.left h c1
    rw [if_neg c1] at hq
    refine ae ?_
    have h := h _ rfl
    refine And.intro (And.left h) ?_
    have h := And.right h
    refine ae ?_
    have h := h _ rfl
    refine And.intro (And.left h) ?_
    have h := And.right h
    refine ae ?_
    have h := h _ rfl
    refine ae ?_
    have h := h _ rfl
    have q9 := hq _ rfl
    exact q9 h
  · have h := And.right h c1
    rw [if_pos c1] at hq
    have q9 := hq _ rfl
    exact q9 h
theorem du_X10_moveOf {P Q : Int32 → Prop} {p0 : Int32} {p1 : Int32} {m_foot : Nat → Int32} {m_told : Nat → Int32} (h : wp_X10_moveOf P p0 p1 m_foot m_told) (hq : P (F_X10_moveOf p0 p1 m_foot m_told) → Q (F_X10_moveOf p0 p1 m_foot m_told)) : wp_X10_moveOf Q p0 p1 m_foot m_told := dt_X10_moveOf h (fun o eo => by rw [eo]; exact hq)
theorem dw_X10_moveOf {Q : Int32 → Prop} {p0 : Int32} {p1 : Int32} {m_foot : Nat → Int32} {m_told : Nat → Int32} (h : wp_X10_moveOf (fun o0 => o0 = F_X10_moveOf p0 p1 m_foot m_told → Q o0) p0 p1 m_foot m_told) : wp_X10_moveOf Q p0 p1 m_foot m_told := dt_X10_moveOf h (fun o eo hp => hp eo)
noncomputable def j_X10_empty_35 {R : Type} (k4 : Int32 → Int32 → (Nat → Int32) → R) (m_fruits : Int32) (x1 : Int32) (x2 : Int32) (m_now : Nat → Int32) : R := k4 x1 (x2 + 1) m_now
noncomputable def bd_X10_empty_4 (m_fruits : Int32) (c : Int32) (s : Int32 × (Nat → Int32)) : Int32 × (Nat → Int32) := if (s.2 c.toNatClampNeg) = 1 then (j_X10_empty_35 (fun q0 q1 q2 => (q0, q2)) m_fruits (s.1 + 1) c (upd s.2 c.toNatClampNeg 2)) else (j_X10_empty_35 (fun q0 q1 q2 => (q0, q2)) m_fruits s.1 c s.2)
noncomputable def ex_X10_empty_4 {R : Type} (po : Int32 → (Nat → Int32) → R) (m_fruits : Int32) (c : Int32) (s : Int32 × (Nat → Int32)) : R := po s.1 s.2
set_option maxHeartbeats 200000 in
set_option maxRecDepth 10000 in
theorem dl_X10_empty_4 {P Q : Int32 → (Nat → Int32) → Prop} {m_fruits : Int32} {a : Int32 × (Nat → Int32)} {i : Nat} (hi0 : i < 2147483648) (hE : ∀ (c : Int32) (s : Int32 × (Nat → Int32)), c = nI (i + (Int32.toInt m_fruits - ((i : Nat) : Int)).toNat) → s = itr (bd_X10_empty_4 m_fruits) a i (Int32.toInt m_fruits - ((i : Nat) : Int)).toNat → (P s.1 s.2) → (Q s.1 s.2)) : ∀ (n k : Nat) (c : Int32), c = nI (i + k) → k ≤ (Int32.toInt m_fruits - ((i : Nat) : Int)).toNat → wb_X10_empty_4 P m_fruits n (itr (bd_X10_empty_4 m_fruits) a i k).1 c (itr (bd_X10_empty_4 m_fruits) a i k).2 → wb_X10_empty_4 Q m_fruits n (itr (bd_X10_empty_4 m_fruits) a i k).1 c (itr (bd_X10_empty_4 m_fruits) a i k).2 := by
  intro n
  induction n with
  | zero => intro k c hc hk h; exact False.elim h
  | succ n ih =>
    intro k c hc hk h
    have hr := tp_r m_fruits
    have hi : Int32.toInt c = ((i + k : Nat) : Int) := by rw [hc]; exact nI_toInt (by omega)
    refine And.intro (fun t0 => ?_) (fun t0 => ?_)
    · have h := And.left h t0
      have t1 := (fa_le _ _).mp t0
      have hk2 : k = (Int32.toInt m_fruits - ((i : Nat) : Int)).toNat := by omega
      subst hk2
      exact hE _ _ hc rfl h
    · have h := And.right h t0
      have t1 := mt (fa_le _ _).mpr t0
      have hs : ∀ o : Int32 × (Nat → Int32), o = itr (bd_X10_empty_4 m_fruits) a i (k + 1) → wb_X10_empty_4 P m_fruits n o.1 (c + 1) o.2 → wb_X10_empty_4 Q m_fruits n o.1 (c + 1) o.2 := by
        intro o eo h9
        have q := ih (k + 1) (c + 1) (by rw [hc]; exact nI_1 _) (by omega)
        rw [← eo] at q
        exact q h9
      rw [itr_s, ← hc, bd_X10_empty_4] at hs
      refine And.intro (And.left h) ?_
      have h := And.right h
      refine ae ?_
      have h := h _ rfl
      refine And.intro (fun c1 => ?_) (fun c1 => ?_)
      · have h := And.left h c1
        rw [if_pos c1] at hs
        refine And.intro (And.left h) ?_
        have h := And.right h
        refine ae ?_
        have h := h _ rfl
        rw [j_X10_empty_35] at hs
        unfold ws_X10_empty_35 at h ⊢
        refine ae ?_
        have h := h _ rfl
        have q9 := hs _ rfl
        dsimp only at q9
        exact q9 h
      · have h := And.right h c1
        rw [if_neg c1] at hs
        rw [j_X10_empty_35] at hs
        unfold ws_X10_empty_35 at h ⊢
        refine ae ?_
        have h := h _ rfl
        have q9 := hs _ rfl
        dsimp only at q9
        exact q9 h
noncomputable def F_X10_empty (m_fruits : Int32) (m_now : Nat → Int32) : Int32 × (Nat → Int32) := ex_X10_empty_4 (fun o0 o1 => (o0, o1)) m_fruits (nI (0 + (Int32.toInt m_fruits - ((0 : Nat) : Int)).toNat)) (itr (bd_X10_empty_4 m_fruits) (0, m_now) 0 (Int32.toInt m_fruits - ((0 : Nat) : Int)).toNat)
set_option maxHeartbeats 200000 in
set_option maxRecDepth 10000 in
theorem dt_X10_empty {P Q : Int32 → (Nat → Int32) → Prop} {m_fruits : Int32} {m_now : Nat → Int32} (h : wp_X10_empty P m_fruits m_now) (hq : ∀ o : Int32 × (Nat → Int32), o = F_X10_empty m_fruits m_now → P o.1 o.2 → Q o.1 o.2) : wp_X10_empty Q m_fruits m_now := by
  rw [F_X10_empty] at hq
  obtain ⟨n1, h⟩ := h
  refine ⟨n1, dl_X10_empty_4 (a := (0, m_now)) (i := 0) (by decide) ?_ n1 0 0 (by decide) (Nat.zero_le _) h⟩
  intro cc2 s3 ec4 es5 h
  rw [← ec4, ← es5, ex_X10_empty_4] at hq
  have q9 := hq _ rfl
  dsimp only at q9
  exact q9 h
theorem du_X10_empty {P Q : Int32 → (Nat → Int32) → Prop} {m_fruits : Int32} {m_now : Nat → Int32} (h : wp_X10_empty P m_fruits m_now) (hq : P (F_X10_empty m_fruits m_now).1 (F_X10_empty m_fruits m_now).2 → Q (F_X10_empty m_fruits m_now).1 (F_X10_empty m_fruits m_now).2) : wp_X10_empty Q m_fruits m_now := dt_X10_empty h (fun o eo => by rw [eo]; exact hq)
theorem dw_X10_empty {Q : Int32 → (Nat → Int32) → Prop} {m_fruits : Int32} {m_now : Nat → Int32} (h : wp_X10_empty (fun o0 o1 => (o0, o1) = F_X10_empty m_fruits m_now → Q o0 o1) m_fruits m_now) : wp_X10_empty Q m_fruits m_now := dt_X10_empty h (fun o eo hp => hp eo)
noncomputable def F_X10_passBy (p0 : Int32) (m_now : Nat → Int32) : (Nat → Int32) := (upd m_now (20 : Int32).toNatClampNeg (if ((m_now (20 : Int32).toNatClampNeg) + p0) < 9999 then ((m_now (20 : Int32).toNatClampNeg) + p0) else 9999))
set_option maxHeartbeats 200000 in
set_option maxRecDepth 10000 in
theorem dt_X10_passBy {P Q : (Nat → Int32) → Prop} {p0 : Int32} {m_now : Nat → Int32} (h : wp_X10_passBy P p0 m_now) (hq : ∀ o : (Nat → Int32), o = F_X10_passBy p0 m_now → P o → Q o) : wp_X10_passBy Q p0 m_now := by
  rw [F_X10_passBy] at hq
  refine ae ?_
  have h := h _ rfl
  refine ae ?_
  have h := h _ rfl
  refine ae ?_
  have h := h _ rfl
  have q9 := hq _ rfl
  exact q9 h
theorem du_X10_passBy {P Q : (Nat → Int32) → Prop} {p0 : Int32} {m_now : Nat → Int32} (h : wp_X10_passBy P p0 m_now) (hq : P (F_X10_passBy p0 m_now) → Q (F_X10_passBy p0 m_now)) : wp_X10_passBy Q p0 m_now := dt_X10_passBy h (fun o eo => by rw [eo]; exact hq)
theorem dw_X10_passBy {Q : (Nat → Int32) → Prop} {p0 : Int32} {m_now : Nat → Int32} (h : wp_X10_passBy (fun o0 => o0 = F_X10_passBy p0 m_now → Q o0) p0 m_now) : wp_X10_passBy Q p0 m_now := dt_X10_passBy h (fun o eo hp => hp eo)
noncomputable def j_X10_goMove_50 {R : Type} (po : Int32 → (Nat → Int32) → R) (m_fruits : Int32) (m_foot : Nat → Int32) (m_fork : Nat → Int32) (m_told : Nat → Int32) (x1 : Int32) (x2 : Int32) (m_now : Nat → Int32) : R := po x2 (F_X10_passBy x2 (upd (F_X10_empty m_fruits m_now).2 (17 : Int32).toNatClampNeg x1))
noncomputable def F_X10_goMove (p0 : Int32) (m_fruits : Int32) (m_now : Nat → Int32) (m_foot : Nat → Int32) (m_fork : Nat → Int32) (m_told : Nat → Int32) : Int32 × (Nat → Int32) := if (F_X10_which 1 m_fruits m_now) = 0 then (j_X10_goMove_50 (fun o0 o1 => (o0, o1)) m_fruits m_foot m_fork m_told p0 (F_X10_moveOf (m_now (17 : Int32).toNatClampNeg) p0 m_foot m_told) m_now) else (if (m_now (17 : Int32).toNatClampNeg) = (-1) then (j_X10_goMove_50 (fun o0 o1 => (o0, o1)) m_fruits m_foot m_fork m_told p0 (F_X10_moveOf (m_now (17 : Int32).toNatClampNeg) p0 m_foot m_told) m_now) else (j_X10_goMove_50 (fun o0 o1 => (o0, o1)) m_fruits m_foot m_fork m_told p0 ((F_X10_moveOf (m_now (17 : Int32).toNatClampNeg) p0 m_foot m_told) + (F_X10_downOf (m_now (17 : Int32).toNatClampNeg) m_fork)) m_now))
set_option maxHeartbeats 200000 in
set_option maxRecDepth 10000 in
theorem dt_X10_goMove {P Q : Int32 → (Nat → Int32) → Prop} {p0 : Int32} {m_fruits : Int32} {m_now : Nat → Int32} {m_foot : Nat → Int32} {m_fork : Nat → Int32} {m_told : Nat → Int32} (h : wp_X10_goMove P p0 m_fruits m_now m_foot m_fork m_told) (hq : ∀ o : Int32 × (Nat → Int32), o = F_X10_goMove p0 m_fruits m_now m_foot m_fork m_told → P o.1 o.2 → Q o.1 o.2) : wp_X10_goMove Q p0 m_fruits m_now m_foot m_fork m_told := by
  rw [F_X10_goMove] at hq
  refine ae ?_
  have h := h _ rfl
  refine du_X10_moveOf h ?_
  intro h
  refine du_X10_which h ?_
  intro h
  refine And.intro (fun c1 => ?_) (fun c1 => ?_)
  · have h := And.left h c1
    rw [if_pos c1] at hq
    rw [j_X10_goMove_50] at hq
    unfold ws_X10_goMove_50 at h ⊢
    refine du_X10_empty h ?_
    intro h
    refine du_X10_passBy h ?_
    intro h
    have q9 := hq _ rfl
    dsimp only at q9
    exact q9 h
  · have h := And.right h c1
    rw [if_neg c1] at hq
    refine ae ?_
    have h := h _ rfl
    refine And.intro (fun c2 => ?_) (fun c2 => ?_)
    · have h := And.left h c2
      rw [if_pos c2] at hq
      rw [j_X10_goMove_50] at hq
      unfold ws_X10_goMove_50 at h ⊢
      refine du_X10_empty h ?_
      intro h
      refine du_X10_passBy h ?_
      intro h
      have q9 := hq _ rfl
      dsimp only at q9
      exact q9 h
    · have h := And.right h c2
      rw [if_neg c2] at hq
      refine ae ?_
      have h := h _ rfl
      refine du_X10_downOf h ?_
      intro h
      refine ae ?_
      have h := h _ rfl
      rw [j_X10_goMove_50] at hq
      unfold ws_X10_goMove_50 at h ⊢
      refine du_X10_empty h ?_
      intro h
      refine du_X10_passBy h ?_
      intro h
      have q9 := hq _ rfl
      dsimp only at q9
      exact q9 h
theorem du_X10_goMove {P Q : Int32 → (Nat → Int32) → Prop} {p0 : Int32} {m_fruits : Int32} {m_now : Nat → Int32} {m_foot : Nat → Int32} {m_fork : Nat → Int32} {m_told : Nat → Int32} (h : wp_X10_goMove P p0 m_fruits m_now m_foot m_fork m_told) (hq : P (F_X10_goMove p0 m_fruits m_now m_foot m_fork m_told).1 (F_X10_goMove p0 m_fruits m_now m_foot m_fork m_told).2 → Q (F_X10_goMove p0 m_fruits m_now m_foot m_fork m_told).1 (F_X10_goMove p0 m_fruits m_now m_foot m_fork m_told).2) : wp_X10_goMove Q p0 m_fruits m_now m_foot m_fork m_told := dt_X10_goMove h (fun o eo => by rw [eo]; exact hq)
theorem dw_X10_goMove {Q : Int32 → (Nat → Int32) → Prop} {p0 : Int32} {m_fruits : Int32} {m_now : Nat → Int32} {m_foot : Nat → Int32} {m_fork : Nat → Int32} {m_told : Nat → Int32} (h : wp_X10_goMove (fun o0 o1 => (o0, o1) = F_X10_goMove p0 m_fruits m_now m_foot m_fork m_told → Q o0 o1) p0 m_fruits m_now m_foot m_fork m_told) : wp_X10_goMove Q p0 m_fruits m_now m_foot m_fork m_told := dt_X10_goMove h (fun o eo hp => hp eo)
noncomputable def F_X10_move (p0 : Int32) (m_fruits : Int32) (m_standings : Int32) (m_thrown : Int32) (m_undoMany : Int32) (m_now : Nat → Int32) (m_foot : Nat → Int32) (m_fork : Nat → Int32) (m_told : Nat → Int32) (m_undos : Nat → Int32) : Int32 × Int32 × Int32 × (Nat → Int32) × (Nat → Int32) := if 0 ≤ (F_X10_refusesMove p0 m_standings m_now) then ((F_X10_goMove p0 m_fruits m_now m_foot m_fork m_told).1, 0, (F_X10_remember m_undoMany m_now m_undos).1, (F_X10_goMove p0 m_fruits m_now m_foot m_fork m_told).2, (F_X10_remember m_undoMany m_now m_undos).2) else ((F_X10_refusesMove p0 m_standings m_now), 0, m_undoMany, m_now, m_undos)
set_option maxHeartbeats 200000 in
set_option maxRecDepth 10000 in
theorem dt_X10_move {P Q : Int32 → Int32 → Int32 → (Nat → Int32) → (Nat → Int32) → Prop} {p0 : Int32} {m_fruits : Int32} {m_standings : Int32} {m_thrown : Int32} {m_undoMany : Int32} {m_now : Nat → Int32} {m_foot : Nat → Int32} {m_fork : Nat → Int32} {m_told : Nat → Int32} {m_undos : Nat → Int32} (h : wp_X10_move P p0 m_fruits m_standings m_thrown m_undoMany m_now m_foot m_fork m_told m_undos) (hq : ∀ o : Int32 × Int32 × Int32 × (Nat → Int32) × (Nat → Int32), o = F_X10_move p0 m_fruits m_standings m_thrown m_undoMany m_now m_foot m_fork m_told m_undos → P o.1 o.2.1 o.2.2.1 o.2.2.2.1 o.2.2.2.2 → Q o.1 o.2.1 o.2.2.1 o.2.2.2.1 o.2.2.2.2) : wp_X10_move Q p0 m_fruits m_standings m_thrown m_undoMany m_now m_foot m_fork m_told m_undos := by
  rw [F_X10_move] at hq
  refine du_X10_refusesMove h ?_
  intro h
  refine And.intro (fun c1 => ?_) (fun c1 => ?_)
  · have h := And.left h c1
    rw [if_pos c1] at hq
    refine du_X10_remember h ?_
    intro h
    refine du_X10_goMove h ?_
    intro h
    have q9 := hq _ rfl
    dsimp only at q9
    exact q9 h
  · have h := And.right h c1
    rw [if_neg c1] at hq
    have q9 := hq _ rfl
    dsimp only at q9
    exact q9 h
theorem du_X10_move {P Q : Int32 → Int32 → Int32 → (Nat → Int32) → (Nat → Int32) → Prop} {p0 : Int32} {m_fruits : Int32} {m_standings : Int32} {m_thrown : Int32} {m_undoMany : Int32} {m_now : Nat → Int32} {m_foot : Nat → Int32} {m_fork : Nat → Int32} {m_told : Nat → Int32} {m_undos : Nat → Int32} (h : wp_X10_move P p0 m_fruits m_standings m_thrown m_undoMany m_now m_foot m_fork m_told m_undos) (hq : P (F_X10_move p0 m_fruits m_standings m_thrown m_undoMany m_now m_foot m_fork m_told m_undos).1 (F_X10_move p0 m_fruits m_standings m_thrown m_undoMany m_now m_foot m_fork m_told m_undos).2.1 (F_X10_move p0 m_fruits m_standings m_thrown m_undoMany m_now m_foot m_fork m_told m_undos).2.2.1 (F_X10_move p0 m_fruits m_standings m_thrown m_undoMany m_now m_foot m_fork m_told m_undos).2.2.2.1 (F_X10_move p0 m_fruits m_standings m_thrown m_undoMany m_now m_foot m_fork m_told m_undos).2.2.2.2 → Q (F_X10_move p0 m_fruits m_standings m_thrown m_undoMany m_now m_foot m_fork m_told m_undos).1 (F_X10_move p0 m_fruits m_standings m_thrown m_undoMany m_now m_foot m_fork m_told m_undos).2.1 (F_X10_move p0 m_fruits m_standings m_thrown m_undoMany m_now m_foot m_fork m_told m_undos).2.2.1 (F_X10_move p0 m_fruits m_standings m_thrown m_undoMany m_now m_foot m_fork m_told m_undos).2.2.2.1 (F_X10_move p0 m_fruits m_standings m_thrown m_undoMany m_now m_foot m_fork m_told m_undos).2.2.2.2) : wp_X10_move Q p0 m_fruits m_standings m_thrown m_undoMany m_now m_foot m_fork m_told m_undos := dt_X10_move h (fun o eo => by rw [eo]; exact hq)
theorem dw_X10_move {Q : Int32 → Int32 → Int32 → (Nat → Int32) → (Nat → Int32) → Prop} {p0 : Int32} {m_fruits : Int32} {m_standings : Int32} {m_thrown : Int32} {m_undoMany : Int32} {m_now : Nat → Int32} {m_foot : Nat → Int32} {m_fork : Nat → Int32} {m_told : Nat → Int32} {m_undos : Nat → Int32} (h : wp_X10_move (fun o0 o1 o2 o3 o4 => (o0, o1, o2, o3, o4) = F_X10_move p0 m_fruits m_standings m_thrown m_undoMany m_now m_foot m_fork m_told m_undos → Q o0 o1 o2 o3 o4) p0 m_fruits m_standings m_thrown m_undoMany m_now m_foot m_fork m_told m_undos) : wp_X10_move Q p0 m_fruits m_standings m_thrown m_undoMany m_now m_foot m_fork m_told m_undos := dt_X10_move h (fun o eo hp => hp eo)
noncomputable def F_X10_foot (p0 : Int32) (m_thrown : Int32) (m_undoMany : Int32) (m_now : Nat → Int32) (m_undos : Nat → Int32) : Int32 × Int32 × Int32 × (Nat → Int32) × (Nat → Int32) := if (F_X10_in p0 0 1) = 0 then ((-1), 0, m_undoMany, m_now, m_undos) else ((m_now (18 : Int32).toNatClampNeg), 0, (F_X10_remember m_undoMany m_now m_undos).1, (upd m_now (18 : Int32).toNatClampNeg p0), (F_X10_remember m_undoMany m_now m_undos).2)
set_option maxHeartbeats 200000 in
set_option maxRecDepth 10000 in
theorem dt_X10_foot {P Q : Int32 → Int32 → Int32 → (Nat → Int32) → (Nat → Int32) → Prop} {p0 : Int32} {m_thrown : Int32} {m_undoMany : Int32} {m_now : Nat → Int32} {m_undos : Nat → Int32} (h : wp_X10_foot P p0 m_thrown m_undoMany m_now m_undos) (hq : ∀ o : Int32 × Int32 × Int32 × (Nat → Int32) × (Nat → Int32), o = F_X10_foot p0 m_thrown m_undoMany m_now m_undos → P o.1 o.2.1 o.2.2.1 o.2.2.2.1 o.2.2.2.2 → Q o.1 o.2.1 o.2.2.1 o.2.2.2.1 o.2.2.2.2) : wp_X10_foot Q p0 m_thrown m_undoMany m_now m_undos := by
  rw [F_X10_foot] at hq
  refine du_X10_in h ?_
  intro h
  refine And.intro (fun c1 => ?_) (fun c1 => ?_)
  · have h := And.left h c1
    rw [if_neg c1] at hq
    refine du_X10_remember h ?_
    intro h
    refine ae ?_
    have h := h _ rfl
    have q9 := hq _ rfl
    dsimp only at q9
    exact q9 h
  · have h := And.right h c1
    rw [if_pos c1] at hq
    have q9 := hq _ rfl
    dsimp only at q9
    exact q9 h
theorem du_X10_foot {P Q : Int32 → Int32 → Int32 → (Nat → Int32) → (Nat → Int32) → Prop} {p0 : Int32} {m_thrown : Int32} {m_undoMany : Int32} {m_now : Nat → Int32} {m_undos : Nat → Int32} (h : wp_X10_foot P p0 m_thrown m_undoMany m_now m_undos) (hq : P (F_X10_foot p0 m_thrown m_undoMany m_now m_undos).1 (F_X10_foot p0 m_thrown m_undoMany m_now m_undos).2.1 (F_X10_foot p0 m_thrown m_undoMany m_now m_undos).2.2.1 (F_X10_foot p0 m_thrown m_undoMany m_now m_undos).2.2.2.1 (F_X10_foot p0 m_thrown m_undoMany m_now m_undos).2.2.2.2 → Q (F_X10_foot p0 m_thrown m_undoMany m_now m_undos).1 (F_X10_foot p0 m_thrown m_undoMany m_now m_undos).2.1 (F_X10_foot p0 m_thrown m_undoMany m_now m_undos).2.2.1 (F_X10_foot p0 m_thrown m_undoMany m_now m_undos).2.2.2.1 (F_X10_foot p0 m_thrown m_undoMany m_now m_undos).2.2.2.2) : wp_X10_foot Q p0 m_thrown m_undoMany m_now m_undos := dt_X10_foot h (fun o eo => by rw [eo]; exact hq)
theorem dw_X10_foot {Q : Int32 → Int32 → Int32 → (Nat → Int32) → (Nat → Int32) → Prop} {p0 : Int32} {m_thrown : Int32} {m_undoMany : Int32} {m_now : Nat → Int32} {m_undos : Nat → Int32} (h : wp_X10_foot (fun o0 o1 o2 o3 o4 => (o0, o1, o2, o3, o4) = F_X10_foot p0 m_thrown m_undoMany m_now m_undos → Q o0 o1 o2 o3 o4) p0 m_thrown m_undoMany m_now m_undos) : wp_X10_foot Q p0 m_thrown m_undoMany m_now m_undos := dt_X10_foot h (fun o eo hp => hp eo)
noncomputable def F_X10_refusesPick (p0 : Int32) (p1 : Int32) (m_fruits : Int32) (m_now : Nat → Int32) (m_x : Nat → Int32) (m_height : Nat → Int32) (m_ripe : Nat → Int32) (m_foot : Nat → Int32) (m_fork : Nat → Int32) (m_told : Nat → Int32) : Int32 := if (F_X10_isFruit p0 m_fruits) = 0 then (-1) else (if (F_X10_in p1 0 1) = 0 then (-1) else (if (m_now p0.toNatClampNeg) = 0 then (if (m_ripe p0.toNatClampNeg) ≤ (m_now (19 : Int32).toNatClampNeg) then (if (m_now (17 : Int32).toNatClampNeg) = (-1) then (-4) else (if (F_X10_isWithin p0 (m_now (17 : Int32).toNatClampNeg) (F_X10_reachBy (m_now (18 : Int32).toNatClampNeg) p1 m_told) m_x m_height m_foot m_fork) = 0 then (-4) else (if (F_J6_bitCount_0f7a4 (F_X10_which 1 m_fruits m_now)) < (m_told (4 : Int32).toNatClampNeg) then 0 else (-5)))) else (-3)) else (-2)))
set_option maxHeartbeats 200000 in
set_option maxRecDepth 10000 in
theorem dt_X10_refusesPick {P Q : Int32 → Prop} {p0 : Int32} {p1 : Int32} {m_fruits : Int32} {m_now : Nat → Int32} {m_x : Nat → Int32} {m_height : Nat → Int32} {m_ripe : Nat → Int32} {m_foot : Nat → Int32} {m_fork : Nat → Int32} {m_told : Nat → Int32} (h : wp_X10_refusesPick P p0 p1 m_fruits m_now m_x m_height m_ripe m_foot m_fork m_told) (hq : ∀ o : Int32, o = F_X10_refusesPick p0 p1 m_fruits m_now m_x m_height m_ripe m_foot m_fork m_told → P o → Q o) : wp_X10_refusesPick Q p0 p1 m_fruits m_now m_x m_height m_ripe m_foot m_fork m_told := by
  rw [F_X10_refusesPick] at hq
  refine du_X10_isFruit h ?_
  intro h
  refine And.intro (fun c1 => ?_) (fun c1 => ?_)
  · have h := And.left h c1
    rw [if_pos c1] at hq
    have q9 := hq _ rfl
    exact q9 h
  · have h := And.right h c1
    rw [if_neg c1] at hq
    refine du_X10_in h ?_
    intro h
    refine And.intro (fun c2 => ?_) (fun c2 => ?_)
    · have h := And.left h c2
      rw [if_neg c2] at hq
      refine And.intro (And.left h) ?_
      have h := And.right h
      refine And.intro (fun c3 => ?_) (fun c3 => ?_)
      · have h := And.left h c3
        rw [if_pos c3] at hq
        refine And.intro (And.left h) ?_
        have h := And.right h
        refine ae ?_
        have h := h _ rfl
        refine And.intro (fun c4 => ?_) (fun c4 => ?_)
        · have h := And.left h c4
          rw [if_pos c4] at hq
          refine ae ?_
          have h := h _ rfl
          refine And.intro (fun c5 => ?_) (fun c5 => ?_)
          · have h := And.left h c5
            rw [if_pos c5] at hq
            have q9 := hq _ rfl
            exact q9 h
          · have h := And.right h c5
            rw [if_neg c5] at hq
            refine ae ?_
            have h := h _ rfl
            refine ae ?_
            have h := h _ rfl
            refine du_X10_reachBy h ?_
            intro h
            refine du_X10_isWithin h ?_
            intro h
            refine And.intro (fun c6 => ?_) (fun c6 => ?_)
            · have h := And.left h c6
              rw [if_neg c6] at hq
              refine du_X10_which h ?_
              intro h
              refine du_J6_bitCount_0f7a4 h ?_
              intro h
              refine And.intro (fun c7 => ?_) (fun c7 => ?_)
              · have h := And.left h c7
                rw [if_pos c7] at hq
                have q9 := hq _ rfl
                exact q9 h
              · have h := And.right h c7
                rw [if_neg c7] at hq
                have q9 := hq _ rfl
                exact q9 h
            · have h := And.right h c6
              rw [if_pos c6] at hq
              have q9 := hq _ rfl
              exact q9 h
        · have h := And.right h c4
          rw [if_neg c4] at hq
          have q9 := hq _ rfl
          exact q9 h
      · have h := And.right h c3
        rw [if_neg c3] at hq
        have q9 := hq _ rfl
        exact q9 h
    · have h := And.right h c2
      rw [if_pos c2] at hq
      have q9 := hq _ rfl
      exact q9 h
theorem du_X10_refusesPick {P Q : Int32 → Prop} {p0 : Int32} {p1 : Int32} {m_fruits : Int32} {m_now : Nat → Int32} {m_x : Nat → Int32} {m_height : Nat → Int32} {m_ripe : Nat → Int32} {m_foot : Nat → Int32} {m_fork : Nat → Int32} {m_told : Nat → Int32} (h : wp_X10_refusesPick P p0 p1 m_fruits m_now m_x m_height m_ripe m_foot m_fork m_told) (hq : P (F_X10_refusesPick p0 p1 m_fruits m_now m_x m_height m_ripe m_foot m_fork m_told) → Q (F_X10_refusesPick p0 p1 m_fruits m_now m_x m_height m_ripe m_foot m_fork m_told)) : wp_X10_refusesPick Q p0 p1 m_fruits m_now m_x m_height m_ripe m_foot m_fork m_told := dt_X10_refusesPick h (fun o eo => by rw [eo]; exact hq)
theorem dw_X10_refusesPick {Q : Int32 → Prop} {p0 : Int32} {p1 : Int32} {m_fruits : Int32} {m_now : Nat → Int32} {m_x : Nat → Int32} {m_height : Nat → Int32} {m_ripe : Nat → Int32} {m_foot : Nat → Int32} {m_fork : Nat → Int32} {m_told : Nat → Int32} (h : wp_X10_refusesPick (fun o0 => o0 = F_X10_refusesPick p0 p1 m_fruits m_now m_x m_height m_ripe m_foot m_fork m_told → Q o0) p0 p1 m_fruits m_now m_x m_height m_ripe m_foot m_fork m_told) : wp_X10_refusesPick Q p0 p1 m_fruits m_now m_x m_height m_ripe m_foot m_fork m_told := dt_X10_refusesPick h (fun o eo hp => hp eo)
noncomputable def F_X10_begin_b2 (p1 : Int32) (p2 : Int32) (m_read : Nat) (m_length : Int32) (m_top : Int32) (m_at : Int32) (m_wrong : Int32) : Nat × Int32 × Int32 × Int32 × Int32 := (2, p1, p2, 0, (-1))
set_option maxHeartbeats 200000 in
set_option maxRecDepth 10000 in
theorem dt_X10_begin_b2 {P Q : Nat → Int32 → Int32 → Int32 → Int32 → Prop} {p1 : Int32} {p2 : Int32} {m_read : Nat} {m_length : Int32} {m_top : Int32} {m_at : Int32} {m_wrong : Int32} (h : wp_X10_begin_b2 P p1 p2 m_read m_length m_top m_at m_wrong) (hq : ∀ o : Nat × Int32 × Int32 × Int32 × Int32, o = F_X10_begin_b2 p1 p2 m_read m_length m_top m_at m_wrong → P o.1 o.2.1 o.2.2.1 o.2.2.2.1 o.2.2.2.2 → Q o.1 o.2.1 o.2.2.1 o.2.2.2.1 o.2.2.2.2) : wp_X10_begin_b2 Q p1 p2 m_read m_length m_top m_at m_wrong := by
  rw [F_X10_begin_b2] at hq
  have q9 := hq _ rfl
  dsimp only at q9
  exact q9 h
theorem du_X10_begin_b2 {P Q : Nat → Int32 → Int32 → Int32 → Int32 → Prop} {p1 : Int32} {p2 : Int32} {m_read : Nat} {m_length : Int32} {m_top : Int32} {m_at : Int32} {m_wrong : Int32} (h : wp_X10_begin_b2 P p1 p2 m_read m_length m_top m_at m_wrong) (hq : P (F_X10_begin_b2 p1 p2 m_read m_length m_top m_at m_wrong).1 (F_X10_begin_b2 p1 p2 m_read m_length m_top m_at m_wrong).2.1 (F_X10_begin_b2 p1 p2 m_read m_length m_top m_at m_wrong).2.2.1 (F_X10_begin_b2 p1 p2 m_read m_length m_top m_at m_wrong).2.2.2.1 (F_X10_begin_b2 p1 p2 m_read m_length m_top m_at m_wrong).2.2.2.2 → Q (F_X10_begin_b2 p1 p2 m_read m_length m_top m_at m_wrong).1 (F_X10_begin_b2 p1 p2 m_read m_length m_top m_at m_wrong).2.1 (F_X10_begin_b2 p1 p2 m_read m_length m_top m_at m_wrong).2.2.1 (F_X10_begin_b2 p1 p2 m_read m_length m_top m_at m_wrong).2.2.2.1 (F_X10_begin_b2 p1 p2 m_read m_length m_top m_at m_wrong).2.2.2.2) : wp_X10_begin_b2 Q p1 p2 m_read m_length m_top m_at m_wrong := dt_X10_begin_b2 h (fun o eo => by rw [eo]; exact hq)
theorem dw_X10_begin_b2 {Q : Nat → Int32 → Int32 → Int32 → Int32 → Prop} {p1 : Int32} {p2 : Int32} {m_read : Nat} {m_length : Int32} {m_top : Int32} {m_at : Int32} {m_wrong : Int32} (h : wp_X10_begin_b2 (fun o0 o1 o2 o3 o4 => (o0, o1, o2, o3, o4) = F_X10_begin_b2 p1 p2 m_read m_length m_top m_at m_wrong → Q o0 o1 o2 o3 o4) p1 p2 m_read m_length m_top m_at m_wrong) : wp_X10_begin_b2 Q p1 p2 m_read m_length m_top m_at m_wrong := dt_X10_begin_b2 h (fun o eo hp => hp eo)
noncomputable def F_X10_canDown (m_fruits : Int32) (m_now : Nat → Int32) : Int32 := if (m_now (17 : Int32).toNatClampNeg) = (-1) then 0 else (if (F_X10_which 1 m_fruits m_now) = 0 then 0 else 1)
set_option maxHeartbeats 200000 in
set_option maxRecDepth 10000 in
theorem dt_X10_canDown {P Q : Int32 → Prop} {m_fruits : Int32} {m_now : Nat → Int32} (h : wp_X10_canDown P m_fruits m_now) (hq : ∀ o : Int32, o = F_X10_canDown m_fruits m_now → P o → Q o) : wp_X10_canDown Q m_fruits m_now := by
  rw [F_X10_canDown] at hq
  refine ae ?_
  have h := h _ rfl
  refine And.intro (fun c1 => ?_) (fun c1 => ?_)
  · have h := And.left h c1
    rw [if_pos c1] at hq
    have q9 := hq _ rfl
    exact q9 h
  · have h := And.right h c1
    rw [if_neg c1] at hq
    refine du_X10_which h ?_
    intro h
    refine And.intro (fun c2 => ?_) (fun c2 => ?_)
    · have h := And.left h c2
      rw [if_pos c2] at hq
      have q9 := hq _ rfl
      exact q9 h
    · have h := And.right h c2
      rw [if_neg c2] at hq
      have q9 := hq _ rfl
      exact q9 h
theorem du_X10_canDown {P Q : Int32 → Prop} {m_fruits : Int32} {m_now : Nat → Int32} (h : wp_X10_canDown P m_fruits m_now) (hq : P (F_X10_canDown m_fruits m_now) → Q (F_X10_canDown m_fruits m_now)) : wp_X10_canDown Q m_fruits m_now := dt_X10_canDown h (fun o eo => by rw [eo]; exact hq)
theorem dw_X10_canDown {Q : Int32 → Prop} {m_fruits : Int32} {m_now : Nat → Int32} (h : wp_X10_canDown (fun o0 => o0 = F_X10_canDown m_fruits m_now → Q o0) m_fruits m_now) : wp_X10_canDown Q m_fruits m_now := dt_X10_canDown h (fun o eo hp => hp eo)
noncomputable def F_X10_goDown (m_fruits : Int32) (m_now : Nat → Int32) (m_fork : Nat → Int32) : Int32 × (Nat → Int32) := ((F_X10_empty m_fruits (F_X10_passBy (F_X10_downOf (m_now (17 : Int32).toNatClampNeg) m_fork) m_now)).1, (F_X10_empty m_fruits (F_X10_passBy (F_X10_downOf (m_now (17 : Int32).toNatClampNeg) m_fork) m_now)).2)
set_option maxHeartbeats 200000 in
set_option maxRecDepth 10000 in
theorem dt_X10_goDown {P Q : Int32 → (Nat → Int32) → Prop} {m_fruits : Int32} {m_now : Nat → Int32} {m_fork : Nat → Int32} (h : wp_X10_goDown P m_fruits m_now m_fork) (hq : ∀ o : Int32 × (Nat → Int32), o = F_X10_goDown m_fruits m_now m_fork → P o.1 o.2 → Q o.1 o.2) : wp_X10_goDown Q m_fruits m_now m_fork := by
  rw [F_X10_goDown] at hq
  refine ae ?_
  have h := h _ rfl
  refine du_X10_downOf h ?_
  intro h
  refine du_X10_passBy h ?_
  intro h
  refine du_X10_empty h ?_
  intro h
  have q9 := hq _ rfl
  dsimp only at q9
  exact q9 h
theorem du_X10_goDown {P Q : Int32 → (Nat → Int32) → Prop} {m_fruits : Int32} {m_now : Nat → Int32} {m_fork : Nat → Int32} (h : wp_X10_goDown P m_fruits m_now m_fork) (hq : P (F_X10_goDown m_fruits m_now m_fork).1 (F_X10_goDown m_fruits m_now m_fork).2 → Q (F_X10_goDown m_fruits m_now m_fork).1 (F_X10_goDown m_fruits m_now m_fork).2) : wp_X10_goDown Q m_fruits m_now m_fork := dt_X10_goDown h (fun o eo => by rw [eo]; exact hq)
theorem dw_X10_goDown {Q : Int32 → (Nat → Int32) → Prop} {m_fruits : Int32} {m_now : Nat → Int32} {m_fork : Nat → Int32} (h : wp_X10_goDown (fun o0 o1 => (o0, o1) = F_X10_goDown m_fruits m_now m_fork → Q o0 o1) m_fruits m_now m_fork) : wp_X10_goDown Q m_fruits m_now m_fork := dt_X10_goDown h (fun o eo hp => hp eo)
noncomputable def F_X10_down (m_fruits : Int32) (m_thrown : Int32) (m_undoMany : Int32) (m_now : Nat → Int32) (m_fork : Nat → Int32) (m_undos : Nat → Int32) : Int32 × Int32 × Int32 × (Nat → Int32) × (Nat → Int32) := if (F_X10_canDown m_fruits m_now) = 0 then ((-2), 0, m_undoMany, m_now, m_undos) else ((F_X10_goDown m_fruits m_now m_fork).1, 0, (F_X10_remember m_undoMany m_now m_undos).1, (F_X10_goDown m_fruits m_now m_fork).2, (F_X10_remember m_undoMany m_now m_undos).2)
set_option maxHeartbeats 200000 in
set_option maxRecDepth 10000 in
theorem dt_X10_down {P Q : Int32 → Int32 → Int32 → (Nat → Int32) → (Nat → Int32) → Prop} {m_fruits : Int32} {m_thrown : Int32} {m_undoMany : Int32} {m_now : Nat → Int32} {m_fork : Nat → Int32} {m_undos : Nat → Int32} (h : wp_X10_down P m_fruits m_thrown m_undoMany m_now m_fork m_undos) (hq : ∀ o : Int32 × Int32 × Int32 × (Nat → Int32) × (Nat → Int32), o = F_X10_down m_fruits m_thrown m_undoMany m_now m_fork m_undos → P o.1 o.2.1 o.2.2.1 o.2.2.2.1 o.2.2.2.2 → Q o.1 o.2.1 o.2.2.1 o.2.2.2.1 o.2.2.2.2) : wp_X10_down Q m_fruits m_thrown m_undoMany m_now m_fork m_undos := by
  rw [F_X10_down] at hq
  refine du_X10_canDown h ?_
  intro h
  refine And.intro (fun c1 => ?_) (fun c1 => ?_)
  · have h := And.left h c1
    rw [if_neg c1] at hq
    refine du_X10_remember h ?_
    intro h
    refine du_X10_goDown h ?_
    intro h
    have q9 := hq _ rfl
    dsimp only at q9
    exact q9 h
  · have h := And.right h c1
    rw [if_pos c1] at hq
    have q9 := hq _ rfl
    dsimp only at q9
    exact q9 h
theorem du_X10_down {P Q : Int32 → Int32 → Int32 → (Nat → Int32) → (Nat → Int32) → Prop} {m_fruits : Int32} {m_thrown : Int32} {m_undoMany : Int32} {m_now : Nat → Int32} {m_fork : Nat → Int32} {m_undos : Nat → Int32} (h : wp_X10_down P m_fruits m_thrown m_undoMany m_now m_fork m_undos) (hq : P (F_X10_down m_fruits m_thrown m_undoMany m_now m_fork m_undos).1 (F_X10_down m_fruits m_thrown m_undoMany m_now m_fork m_undos).2.1 (F_X10_down m_fruits m_thrown m_undoMany m_now m_fork m_undos).2.2.1 (F_X10_down m_fruits m_thrown m_undoMany m_now m_fork m_undos).2.2.2.1 (F_X10_down m_fruits m_thrown m_undoMany m_now m_fork m_undos).2.2.2.2 → Q (F_X10_down m_fruits m_thrown m_undoMany m_now m_fork m_undos).1 (F_X10_down m_fruits m_thrown m_undoMany m_now m_fork m_undos).2.1 (F_X10_down m_fruits m_thrown m_undoMany m_now m_fork m_undos).2.2.1 (F_X10_down m_fruits m_thrown m_undoMany m_now m_fork m_undos).2.2.2.1 (F_X10_down m_fruits m_thrown m_undoMany m_now m_fork m_undos).2.2.2.2) : wp_X10_down Q m_fruits m_thrown m_undoMany m_now m_fork m_undos := dt_X10_down h (fun o eo => by rw [eo]; exact hq)
theorem dw_X10_down {Q : Int32 → Int32 → Int32 → (Nat → Int32) → (Nat → Int32) → Prop} {m_fruits : Int32} {m_thrown : Int32} {m_undoMany : Int32} {m_now : Nat → Int32} {m_fork : Nat → Int32} {m_undos : Nat → Int32} (h : wp_X10_down (fun o0 o1 o2 o3 o4 => (o0, o1, o2, o3, o4) = F_X10_down m_fruits m_thrown m_undoMany m_now m_fork m_undos → Q o0 o1 o2 o3 o4) m_fruits m_thrown m_undoMany m_now m_fork m_undos) : wp_X10_down Q m_fruits m_thrown m_undoMany m_now m_fork m_undos := dt_X10_down h (fun o eo hp => hp eo)
noncomputable def j_X10_ripeOnes_30 {R : Type} (k4 : Int32 → Int32 → Int32 → R) (m_fruits : Int32) (m_ripe : Nat → Int32) (x1 : Int32) (x3 : Int32) (k0 : Int32) (k1 : Int32) : R := k4 x1 (k0 ||| k1) (x3 + 1)
noncomputable def bd_X10_ripeOnes_4 (m_fruits : Int32) (m_ripe : Nat → Int32) (x1 : Int32) (c : Int32) (s : Int32) : Int32 := if x1 < (m_ripe c.toNatClampNeg) then (j_X10_ripeOnes_30 (fun q0 q1 q2 => q1) m_fruits m_ripe x1 c s 0) else (j_X10_ripeOnes_30 (fun q0 q1 q2 => q1) m_fruits m_ripe x1 c s (1 <<< (c &&& 31)))
noncomputable def ex_X10_ripeOnes_4 {R : Type} (po : Int32 → R) (m_fruits : Int32) (m_ripe : Nat → Int32) (x1 : Int32) (c : Int32) (s : Int32) : R := po s
set_option maxHeartbeats 200000 in
set_option maxRecDepth 10000 in
theorem dl_X10_ripeOnes_4 {P Q : Int32 → Prop} {m_fruits : Int32} {m_ripe : Nat → Int32} {x1 : Int32} {a : Int32} {i : Nat} (hi0 : i < 2147483648) (hE : ∀ (c : Int32) (s : Int32), c = nI (i + (Int32.toInt m_fruits - ((i : Nat) : Int)).toNat) → s = itr (bd_X10_ripeOnes_4 m_fruits m_ripe x1) a i (Int32.toInt m_fruits - ((i : Nat) : Int)).toNat → (P s) → (Q s)) : ∀ (n k : Nat) (c : Int32), c = nI (i + k) → k ≤ (Int32.toInt m_fruits - ((i : Nat) : Int)).toNat → wb_X10_ripeOnes_4 P m_fruits m_ripe n x1 (itr (bd_X10_ripeOnes_4 m_fruits m_ripe x1) a i k) c → wb_X10_ripeOnes_4 Q m_fruits m_ripe n x1 (itr (bd_X10_ripeOnes_4 m_fruits m_ripe x1) a i k) c := by
  intro n
  induction n with
  | zero => intro k c hc hk h; exact False.elim h
  | succ n ih =>
    intro k c hc hk h
    have hr := tp_r m_fruits
    have hi : Int32.toInt c = ((i + k : Nat) : Int) := by rw [hc]; exact nI_toInt (by omega)
    refine And.intro (fun t0 => ?_) (fun t0 => ?_)
    · have h := And.left h t0
      have t1 := (fa_le _ _).mp t0
      have hk2 : k = (Int32.toInt m_fruits - ((i : Nat) : Int)).toNat := by omega
      subst hk2
      exact hE _ _ hc rfl h
    · have h := And.right h t0
      have t1 := mt (fa_le _ _).mpr t0
      have hs : ∀ o : Int32, o = itr (bd_X10_ripeOnes_4 m_fruits m_ripe x1) a i (k + 1) → wb_X10_ripeOnes_4 P m_fruits m_ripe n x1 o (c + 1) → wb_X10_ripeOnes_4 Q m_fruits m_ripe n x1 o (c + 1) := by
        intro o eo h9
        have q := ih (k + 1) (c + 1) (by rw [hc]; exact nI_1 _) (by omega)
        rw [← eo] at q
        exact q h9
      rw [itr_s, ← hc, bd_X10_ripeOnes_4] at hs
      refine And.intro (And.left h) ?_
      have h := And.right h
      refine ae ?_
      have h := h _ rfl
      refine And.intro (fun c1 => ?_) (fun c1 => ?_)
      · have h := And.left h c1
        rw [if_pos c1] at hs
        rw [j_X10_ripeOnes_30] at hs
        unfold ws_X10_ripeOnes_30 at h ⊢
        refine ae ?_
        have h := h _ rfl
        refine ae ?_
        have h := h _ rfl
        have q9 := hs _ rfl
        exact q9 h
      · have h := And.right h c1
        rw [if_neg c1] at hs
        refine ae ?_
        have h := h _ rfl
        rw [j_X10_ripeOnes_30] at hs
        unfold ws_X10_ripeOnes_30 at h ⊢
        refine ae ?_
        have h := h _ rfl
        refine ae ?_
        have h := h _ rfl
        have q9 := hs _ rfl
        exact q9 h
