noncomputable def j_X10_sheet_34 {R : Type} (po : Int32 → Int32 → (Nat → Int32) → R) (m_fruits : Int32) (x1 : Int32) (x2 : Int32) (x3 : Int32) (x4 : Int32) (m_thrown : Int32) (m_worth : Nat → Int32) : R := ex_X10_sheet_43 po m_fruits x1 x2 x4 m_thrown (nI (0 + (Int32.toInt m_fruits - ((0 : Nat) : Int)).toNat)) (itr (bd_X10_sheet_43 m_fruits x1 x2 x4 m_thrown) (0, x3, m_worth) 0 (Int32.toInt m_fruits - ((0 : Nat) : Int)).toNat)
noncomputable def F_X10_sheet (p0 : Int32) (p1 : Int32) (p2 : Int32) (p3 : Int32) (m_fruits : Int32) (m_thrown : Int32) (m_worth : Nat → Int32) : Int32 × Int32 × (Nat → Int32) := if (F_X10_in p0 0 3) = 0 then ((-1), 0, m_worth) else (if p1 ≤ 16 then (if 3 ≤ p0 then (j_X10_sheet_34 (fun o0 o1 o2 => (o0, o1, o2)) m_fruits p0 p1 p2 p3 0 m_worth) else (if 0 ≤ p1 then (j_X10_sheet_34 (fun o0 o1 o2 => (o0, o1, o2)) m_fruits p0 p1 p2 p3 0 m_worth) else ((-2), 0, m_worth))) else ((-1), 0, m_worth))
set_option maxHeartbeats 200000 in
set_option maxRecDepth 10000 in
theorem dt_X10_sheet {P Q : Int32 → Int32 → (Nat → Int32) → Prop} {p0 : Int32} {p1 : Int32} {p2 : Int32} {p3 : Int32} {m_fruits : Int32} {m_thrown : Int32} {m_worth : Nat → Int32} (h : wp_X10_sheet P p0 p1 p2 p3 m_fruits m_thrown m_worth) (hq : ∀ o : Int32 × Int32 × (Nat → Int32), o = F_X10_sheet p0 p1 p2 p3 m_fruits m_thrown m_worth → P o.1 o.2.1 o.2.2 → Q o.1 o.2.1 o.2.2) : wp_X10_sheet Q p0 p1 p2 p3 m_fruits m_thrown m_worth := by
  rw [F_X10_sheet] at hq
  refine du_X10_in h ?_
  intro h
  refine And.intro (fun c1 => ?_) (fun c1 => ?_)
  · have h := And.left h c1
    rw [if_pos c1] at hq
    have q9 := hq _ rfl
    dsimp only at q9
    exact q9 h
  · have h := And.right h c1
    rw [if_neg c1] at hq
    refine And.intro (fun c2 => ?_) (fun c2 => ?_)
    · have h := And.left h c2
      rw [if_pos c2] at hq
      refine And.intro (fun c3 => ?_) (fun c3 => ?_)
      · have h := And.left h c3
        rw [if_pos c3] at hq
        rw [j_X10_sheet_34] at hq
        unfold ws_X10_sheet_34 at h ⊢
        obtain ⟨n4, h⟩ := h
        refine ⟨n4, dl_X10_sheet_43 (a := (0, p2, m_worth)) (i := 0) (by decide) ?_ n4 0 0 (by decide) (Nat.zero_le _) h⟩
        intro cc5 s6 ec7 es8 h
        rw [← ec7, ← es8, ex_X10_sheet_43] at hq
        refine And.intro (fun c9 => ?_) (fun c9 => ?_)
        · have h := And.left h c9
          rw [if_neg c9] at hq
          have q9 := hq _ rfl
          dsimp only at q9
          exact q9 h
        · have h := And.right h c9
          rw [if_pos c9] at hq
          have q9 := hq _ rfl
          dsimp only at q9
          exact q9 h
      · have h := And.right h c3
        rw [if_neg c3] at hq
        refine And.intro (fun c10 => ?_) (fun c10 => ?_)
        · have h := And.left h c10
          rw [if_pos c10] at hq
          rw [j_X10_sheet_34] at hq
          unfold ws_X10_sheet_34 at h ⊢
          obtain ⟨n11, h⟩ := h
          refine ⟨n11, dl_X10_sheet_43 (a := (0, p2, m_worth)) (i := 0) (by decide) ?_ n11 0 0 (by decide) (Nat.zero_le _) h⟩
          intro cc12 s13 ec14 es15 h
          rw [← ec14, ← es15, ex_X10_sheet_43] at hq
          refine And.intro (fun c16 => ?_) (fun c16 => ?_)
          · have h := And.left h c16
            rw [if_neg c16] at hq
            have q9 := hq _ rfl
            dsimp only at q9
            exact q9 h
          · have h := And.right h c16
            rw [if_pos c16] at hq
            have q9 := hq _ rfl
            dsimp only at q9
            exact q9 h
        · have h := And.right h c10
          rw [if_neg c10] at hq
          have q9 := hq _ rfl
          dsimp only at q9
          exact q9 h
    · have h := And.right h c2
      rw [if_neg c2] at hq
      have q9 := hq _ rfl
      dsimp only at q9
      exact q9 h
theorem du_X10_sheet {P Q : Int32 → Int32 → (Nat → Int32) → Prop} {p0 : Int32} {p1 : Int32} {p2 : Int32} {p3 : Int32} {m_fruits : Int32} {m_thrown : Int32} {m_worth : Nat → Int32} (h : wp_X10_sheet P p0 p1 p2 p3 m_fruits m_thrown m_worth) (hq : P (F_X10_sheet p0 p1 p2 p3 m_fruits m_thrown m_worth).1 (F_X10_sheet p0 p1 p2 p3 m_fruits m_thrown m_worth).2.1 (F_X10_sheet p0 p1 p2 p3 m_fruits m_thrown m_worth).2.2 → Q (F_X10_sheet p0 p1 p2 p3 m_fruits m_thrown m_worth).1 (F_X10_sheet p0 p1 p2 p3 m_fruits m_thrown m_worth).2.1 (F_X10_sheet p0 p1 p2 p3 m_fruits m_thrown m_worth).2.2) : wp_X10_sheet Q p0 p1 p2 p3 m_fruits m_thrown m_worth := dt_X10_sheet h (fun o eo => by rw [eo]; exact hq)
theorem dw_X10_sheet {Q : Int32 → Int32 → (Nat → Int32) → Prop} {p0 : Int32} {p1 : Int32} {p2 : Int32} {p3 : Int32} {m_fruits : Int32} {m_thrown : Int32} {m_worth : Nat → Int32} (h : wp_X10_sheet (fun o0 o1 o2 => (o0, o1, o2) = F_X10_sheet p0 p1 p2 p3 m_fruits m_thrown m_worth → Q o0 o1 o2) p0 p1 p2 p3 m_fruits m_thrown m_worth) : wp_X10_sheet Q p0 p1 p2 p3 m_fruits m_thrown m_worth := dt_X10_sheet h (fun o eo hp => hp eo)
noncomputable def j_X3_standingsAt_37 {R : Type} (k5 : Int32 → Int32 → Int32 → Int32 → R) (tr_standings : Int32) (tr_foot : Nat → Int32) (x1 : Int32) (x2 : Int32) (x3 : Int32) (x4 : Int32) : R := k5 x1 x2 x3 (x4 + 1)
noncomputable def bd_X3_standingsAt_5 (tr_standings : Int32) (tr_foot : Nat → Int32) (x1 : Int32) (x2 : Int32) (c : Int32) (s : Int32) : Int32 := if x2 < (if 0 ≤ ((tr_foot c.toNatClampNeg) - x1) then ((tr_foot c.toNatClampNeg) - x1) else 0 - ((tr_foot c.toNatClampNeg) - x1)) then (j_X3_standingsAt_37 (fun q0 q1 q2 q3 => q2) tr_standings tr_foot x1 x2 s c) else (j_X3_standingsAt_37 (fun q0 q1 q2 q3 => q2) tr_standings tr_foot x1 x2 (s ||| (1 <<< (c &&& 31))) c)
noncomputable def ex_X3_standingsAt_5 {R : Type} (po : Int32 → R) (tr_standings : Int32) (tr_foot : Nat → Int32) (x1 : Int32) (x2 : Int32) (c : Int32) (s : Int32) : R := po s
set_option maxHeartbeats 200000 in
set_option maxRecDepth 10000 in
theorem dl_X3_standingsAt_5 {P Q : Int32 → Prop} {tr_standings : Int32} {tr_foot : Nat → Int32} {x1 : Int32} {x2 : Int32} {a : Int32} {i : Nat} (hi0 : i < 2147483648) (hE : ∀ (c : Int32) (s : Int32), c = nI (i + (Int32.toInt tr_standings - ((i : Nat) : Int)).toNat) → s = itr (bd_X3_standingsAt_5 tr_standings tr_foot x1 x2) a i (Int32.toInt tr_standings - ((i : Nat) : Int)).toNat → (P s) → (Q s)) : ∀ (n k : Nat) (c : Int32), c = nI (i + k) → k ≤ (Int32.toInt tr_standings - ((i : Nat) : Int)).toNat → wb_X3_standingsAt_5 P tr_standings tr_foot n x1 x2 (itr (bd_X3_standingsAt_5 tr_standings tr_foot x1 x2) a i k) c → wb_X3_standingsAt_5 Q tr_standings tr_foot n x1 x2 (itr (bd_X3_standingsAt_5 tr_standings tr_foot x1 x2) a i k) c := by
  intro n
  induction n with
  | zero => intro k c hc hk h; exact False.elim h
  | succ n ih =>
    intro k c hc hk h
    have hr := tp_r tr_standings
    have hi : Int32.toInt c = ((i + k : Nat) : Int) := by rw [hc]; exact nI_toInt (by omega)
    refine And.intro (fun t0 => ?_) (fun t0 => ?_)
    · have h := And.left h t0
      have t1 := (fa_le _ _).mp t0
      have hk2 : k = (Int32.toInt tr_standings - ((i : Nat) : Int)).toNat := by omega
      subst hk2
      exact hE _ _ hc rfl h
    · have h := And.right h t0
      have t1 := mt (fa_le _ _).mpr t0
      have hs : ∀ o : Int32, o = itr (bd_X3_standingsAt_5 tr_standings tr_foot x1 x2) a i (k + 1) → wb_X3_standingsAt_5 P tr_standings tr_foot n x1 x2 o (c + 1) → wb_X3_standingsAt_5 Q tr_standings tr_foot n x1 x2 o (c + 1) := by
        intro o eo h9
        have q := ih (k + 1) (c + 1) (by rw [hc]; exact nI_1 _) (by omega)
        rw [← eo] at q
        exact q h9
      rw [itr_s, ← hc, bd_X3_standingsAt_5] at hs
      refine And.intro (And.left h) ?_
      have h := And.right h
      refine ae ?_
      have h := h _ rfl
      refine ae ?_
      have h := h _ rfl
      refine ae ?_
      have h := h _ rfl
      refine And.intro (fun c1 => ?_) (fun c1 => ?_)
      · have h := And.left h c1
        rw [if_pos c1] at hs
        rw [j_X3_standingsAt_37] at hs
        unfold ws_X3_standingsAt_37 at h ⊢
        refine ae ?_
        have h := h _ rfl
        have q9 := hs _ rfl
        exact q9 h
      · have h := And.right h c1
        rw [if_neg c1] at hs
        refine ae ?_
        have h := h _ rfl
        rw [j_X3_standingsAt_37] at hs
        unfold ws_X3_standingsAt_37 at h ⊢
        refine ae ?_
        have h := h _ rfl
        have q9 := hs _ rfl
        exact q9 h
noncomputable def F_X3_standingsAt (p0 : Int32) (p1 : Int32) (tr_standings : Int32) (tr_foot : Nat → Int32) : Int32 := ex_X3_standingsAt_5 (fun o0 => o0) tr_standings tr_foot p0 p1 (nI (0 + (Int32.toInt tr_standings - ((0 : Nat) : Int)).toNat)) (itr (bd_X3_standingsAt_5 tr_standings tr_foot p0 p1) 0 0 (Int32.toInt tr_standings - ((0 : Nat) : Int)).toNat)
set_option maxHeartbeats 200000 in
set_option maxRecDepth 10000 in
theorem dt_X3_standingsAt {P Q : Int32 → Prop} {p0 : Int32} {p1 : Int32} {tr_standings : Int32} {tr_foot : Nat → Int32} (h : wp_X3_standingsAt P p0 p1 tr_standings tr_foot) (hq : ∀ o : Int32, o = F_X3_standingsAt p0 p1 tr_standings tr_foot → P o → Q o) : wp_X3_standingsAt Q p0 p1 tr_standings tr_foot := by
  rw [F_X3_standingsAt] at hq
  obtain ⟨n1, h⟩ := h
  refine ⟨n1, dl_X3_standingsAt_5 (a := 0) (i := 0) (by decide) ?_ n1 0 0 (by decide) (Nat.zero_le _) h⟩
  intro cc2 s3 ec4 es5 h
  rw [← ec4, ← es5, ex_X3_standingsAt_5] at hq
  have q9 := hq _ rfl
  exact q9 h
theorem du_X3_standingsAt {P Q : Int32 → Prop} {p0 : Int32} {p1 : Int32} {tr_standings : Int32} {tr_foot : Nat → Int32} (h : wp_X3_standingsAt P p0 p1 tr_standings tr_foot) (hq : P (F_X3_standingsAt p0 p1 tr_standings tr_foot) → Q (F_X3_standingsAt p0 p1 tr_standings tr_foot)) : wp_X3_standingsAt Q p0 p1 tr_standings tr_foot := dt_X3_standingsAt h (fun o eo => by rw [eo]; exact hq)
noncomputable def F_X9_marks (p0 : Int32) (p1 : Int32) (tr_standings : Int32) (tr_foot : Nat → Int32) : Int32 := if p0 < 0 then (-1) else (if 99 < p0 then (-1) else (if p1 < 0 then (-1) else (if p1 ≤ 99 then (F_X3_standingsAt p0 p1 tr_standings tr_foot) else (-1))))
set_option maxHeartbeats 200000 in
set_option maxRecDepth 10000 in
theorem dt_X9_marks {P Q : Int32 → Prop} {p0 : Int32} {p1 : Int32} {tr_standings : Int32} {tr_foot : Nat → Int32} (h : wp_X9_marks P p0 p1 tr_standings tr_foot) (hq : ∀ o : Int32, o = F_X9_marks p0 p1 tr_standings tr_foot → P o → Q o) : wp_X9_marks Q p0 p1 tr_standings tr_foot := by
  rw [F_X9_marks] at hq
  refine And.intro (fun c1 => ?_) (fun c1 => ?_)
  · have h := And.left h c1
    rw [if_pos c1] at hq
    have q9 := hq _ rfl
    exact q9 h
  · have h := And.right h c1
    rw [if_neg c1] at hq
    refine And.intro (fun c2 => ?_) (fun c2 => ?_)
    · have h := And.left h c2
      rw [if_pos c2] at hq
      have q9 := hq _ rfl
      exact q9 h
    · have h := And.right h c2
      rw [if_neg c2] at hq
      refine And.intro (fun c3 => ?_) (fun c3 => ?_)
      · have h := And.left h c3
        rw [if_pos c3] at hq
        have q9 := hq _ rfl
        exact q9 h
      · have h := And.right h c3
        rw [if_neg c3] at hq
        refine And.intro (fun c4 => ?_) (fun c4 => ?_)
        · have h := And.left h c4
          rw [if_pos c4] at hq
          refine du_X3_standingsAt h ?_
          intro h
          have q9 := hq _ rfl
          exact q9 h
        · have h := And.right h c4
          rw [if_neg c4] at hq
          have q9 := hq _ rfl
          exact q9 h
theorem du_X9_marks {P Q : Int32 → Prop} {p0 : Int32} {p1 : Int32} {tr_standings : Int32} {tr_foot : Nat → Int32} (h : wp_X9_marks P p0 p1 tr_standings tr_foot) (hq : P (F_X9_marks p0 p1 tr_standings tr_foot) → Q (F_X9_marks p0 p1 tr_standings tr_foot)) : wp_X9_marks Q p0 p1 tr_standings tr_foot := dt_X9_marks h (fun o eo => by rw [eo]; exact hq)
theorem dw_X9_marks {Q : Int32 → Prop} {p0 : Int32} {p1 : Int32} {tr_standings : Int32} {tr_foot : Nat → Int32} (h : wp_X9_marks (fun o0 => o0 = F_X9_marks p0 p1 tr_standings tr_foot → Q o0) p0 p1 tr_standings tr_foot) : wp_X9_marks Q p0 p1 tr_standings tr_foot := dt_X9_marks h (fun o eo hp => hp eo)
noncomputable def j_X10_marks_66 {R : Type} (k32 : Int32 → Int32 → Int32 → Int32 → Int32 → R) (m_standings : Int32) (m_foot : Nat → Int32) (x1 : Int32) (x2 : Int32) (x4 : Int32) (k0 : Int32) (k1 : Int32) (m_thrown : Int32) : R := k32 x1 x2 (k0 ||| k1) (x4 + 1) m_thrown
noncomputable def bd_X10_marks_32 (m_standings : Int32) (m_foot : Nat → Int32) (x1 : Int32) (x2 : Int32) (m_thrown : Int32) (c : Int32) (s : Int32) : Int32 := if x2 < (if 0 ≤ ((m_foot c.toNatClampNeg) - x1) then ((m_foot c.toNatClampNeg) - x1) else 0 - ((m_foot c.toNatClampNeg) - x1)) then (j_X10_marks_66 (fun q0 q1 q2 q3 q4 => q2) m_standings m_foot x1 x2 c s 0 m_thrown) else (j_X10_marks_66 (fun q0 q1 q2 q3 q4 => q2) m_standings m_foot x1 x2 c s (1 <<< (c &&& 31)) m_thrown)
noncomputable def ex_X10_marks_32 {R : Type} (po : Int32 → Int32 → R) (m_standings : Int32) (m_foot : Nat → Int32) (x1 : Int32) (x2 : Int32) (m_thrown : Int32) (c : Int32) (s : Int32) : R := po s m_thrown
set_option maxHeartbeats 200000 in
set_option maxRecDepth 10000 in
theorem dl_X10_marks_32 {P Q : Int32 → Int32 → Prop} {m_standings : Int32} {m_foot : Nat → Int32} {x1 : Int32} {x2 : Int32} {m_thrown : Int32} {a : Int32} {i : Nat} (hi0 : i < 2147483648) (hE : ∀ (c : Int32) (s : Int32), c = nI (i + (Int32.toInt m_standings - ((i : Nat) : Int)).toNat) → s = itr (bd_X10_marks_32 m_standings m_foot x1 x2 m_thrown) a i (Int32.toInt m_standings - ((i : Nat) : Int)).toNat → (P s m_thrown) → (Q s m_thrown)) : ∀ (n k : Nat) (c : Int32), c = nI (i + k) → k ≤ (Int32.toInt m_standings - ((i : Nat) : Int)).toNat → wb_X10_marks_32 P m_standings m_foot n x1 x2 (itr (bd_X10_marks_32 m_standings m_foot x1 x2 m_thrown) a i k) c m_thrown → wb_X10_marks_32 Q m_standings m_foot n x1 x2 (itr (bd_X10_marks_32 m_standings m_foot x1 x2 m_thrown) a i k) c m_thrown := by
  intro n
  induction n with
  | zero => intro k c hc hk h; exact False.elim h
  | succ n ih =>
    intro k c hc hk h
    have hr := tp_r m_standings
    have hi : Int32.toInt c = ((i + k : Nat) : Int) := by rw [hc]; exact nI_toInt (by omega)
    refine And.intro (fun t0 => ?_) (fun t0 => ?_)
    · have h := And.left h t0
      have t1 := (fa_le _ _).mp t0
      have hk2 : k = (Int32.toInt m_standings - ((i : Nat) : Int)).toNat := by omega
      subst hk2
      exact hE _ _ hc rfl h
    · have h := And.right h t0
      have t1 := mt (fa_le _ _).mpr t0
      have hs : ∀ o : Int32, o = itr (bd_X10_marks_32 m_standings m_foot x1 x2 m_thrown) a i (k + 1) → wb_X10_marks_32 P m_standings m_foot n x1 x2 o (c + 1) m_thrown → wb_X10_marks_32 Q m_standings m_foot n x1 x2 o (c + 1) m_thrown := by
        intro o eo h9
        have q := ih (k + 1) (c + 1) (by rw [hc]; exact nI_1 _) (by omega)
        rw [← eo] at q
        exact q h9
      rw [itr_s, ← hc, bd_X10_marks_32] at hs
      refine And.intro (And.left h) ?_
      have h := And.right h
      refine ae ?_
      have h := h _ rfl
      refine ae ?_
      have h := h _ rfl
      refine ae ?_
      have h := h _ rfl
      refine And.intro (fun c1 => ?_) (fun c1 => ?_)
      · have h := And.left h c1
        rw [if_pos c1] at hs
        rw [j_X10_marks_66] at hs
        unfold ws_X10_marks_66 at h ⊢
        refine ae ?_
        have h := h _ rfl
        refine ae ?_
        have h := h _ rfl
        have q9 := hs _ rfl
        exact q9 h
      · have h := And.right h c1
        rw [if_neg c1] at hs
        refine ae ?_
        have h := h _ rfl
        rw [j_X10_marks_66] at hs
        unfold ws_X10_marks_66 at h ⊢
        refine ae ?_
        have h := h _ rfl
        refine ae ?_
        have h := h _ rfl
        have q9 := hs _ rfl
        exact q9 h
noncomputable def F_X10_marks (p0 : Int32) (p1 : Int32) (m_standings : Int32) (m_thrown : Int32) (m_foot : Nat → Int32) : Int32 × Int32 := if (F_X10_in p0 0 99) = 0 then ((-1), 0) else (if (F_X10_in p1 0 99) = 0 then ((-1), 0) else (ex_X10_marks_32 (fun o0 o1 => (o0, o1)) m_standings m_foot p0 p1 0 (nI (0 + (Int32.toInt m_standings - ((0 : Nat) : Int)).toNat)) (itr (bd_X10_marks_32 m_standings m_foot p0 p1 0) 0 0 (Int32.toInt m_standings - ((0 : Nat) : Int)).toNat)))
set_option maxHeartbeats 200000 in
set_option maxRecDepth 10000 in
theorem dt_X10_marks {P Q : Int32 → Int32 → Prop} {p0 : Int32} {p1 : Int32} {m_standings : Int32} {m_thrown : Int32} {m_foot : Nat → Int32} (h : wp_X10_marks P p0 p1 m_standings m_thrown m_foot) (hq : ∀ o : Int32 × Int32, o = F_X10_marks p0 p1 m_standings m_thrown m_foot → P o.1 o.2 → Q o.1 o.2) : wp_X10_marks Q p0 p1 m_standings m_thrown m_foot := by
  rw [F_X10_marks] at hq
  refine du_X10_in h ?_
  intro h
  refine And.intro (fun c1 => ?_) (fun c1 => ?_)
  · have h := And.left h c1
    rw [if_pos c1] at hq
    have q9 := hq _ rfl
    dsimp only at q9
    exact q9 h
  · have h := And.right h c1
    rw [if_neg c1] at hq
    refine du_X10_in h ?_
    intro h
    refine And.intro (fun c2 => ?_) (fun c2 => ?_)
    · have h := And.left h c2
      rw [if_neg c2] at hq
      obtain ⟨n3, h⟩ := h
      refine ⟨n3, dl_X10_marks_32 (a := 0) (i := 0) (by decide) ?_ n3 0 0 (by decide) (Nat.zero_le _) h⟩
      intro cc4 s5 ec6 es7 h
      rw [← ec6, ← es7, ex_X10_marks_32] at hq
      have q9 := hq _ rfl
      dsimp only at q9
      exact q9 h
    · have h := And.right h c2
      rw [if_pos c2] at hq
      have q9 := hq _ rfl
      dsimp only at q9
      exact q9 h
theorem du_X10_marks {P Q : Int32 → Int32 → Prop} {p0 : Int32} {p1 : Int32} {m_standings : Int32} {m_thrown : Int32} {m_foot : Nat → Int32} (h : wp_X10_marks P p0 p1 m_standings m_thrown m_foot) (hq : P (F_X10_marks p0 p1 m_standings m_thrown m_foot).1 (F_X10_marks p0 p1 m_standings m_thrown m_foot).2 → Q (F_X10_marks p0 p1 m_standings m_thrown m_foot).1 (F_X10_marks p0 p1 m_standings m_thrown m_foot).2) : wp_X10_marks Q p0 p1 m_standings m_thrown m_foot := dt_X10_marks h (fun o eo => by rw [eo]; exact hq)
theorem dw_X10_marks {Q : Int32 → Int32 → Prop} {p0 : Int32} {p1 : Int32} {m_standings : Int32} {m_thrown : Int32} {m_foot : Nat → Int32} (h : wp_X10_marks (fun o0 o1 => (o0, o1) = F_X10_marks p0 p1 m_standings m_thrown m_foot → Q o0 o1) p0 p1 m_standings m_thrown m_foot) : wp_X10_marks Q p0 p1 m_standings m_thrown m_foot := dt_X10_marks h (fun o eo hp => hp eo)
noncomputable def F_X3_hasStanding (p0 : Int32) (tr_standings : Int32) : Int32 := if p0 < 0 then 0 else (if tr_standings ≤ p0 then 0 else 1)
set_option maxHeartbeats 200000 in
set_option maxRecDepth 10000 in
theorem dt_X3_hasStanding {P Q : Int32 → Prop} {p0 : Int32} {tr_standings : Int32} (h : wp_X3_hasStanding P p0 tr_standings) (hq : ∀ o : Int32, o = F_X3_hasStanding p0 tr_standings → P o → Q o) : wp_X3_hasStanding Q p0 tr_standings := by
  rw [F_X3_hasStanding] at hq
  refine And.intro (fun c1 => ?_) (fun c1 => ?_)
  · have h := And.left h c1
    rw [if_pos c1] at hq
    have q9 := hq _ rfl
    exact q9 h
  · have h := And.right h c1
    rw [if_neg c1] at hq
    refine And.intro (fun c2 => ?_) (fun c2 => ?_)
    · have h := And.left h c2
      rw [if_pos c2] at hq
      have q9 := hq _ rfl
      exact q9 h
    · have h := And.right h c2
      rw [if_neg c2] at hq
      have q9 := hq _ rfl
      exact q9 h
theorem du_X3_hasStanding {P Q : Int32 → Prop} {p0 : Int32} {tr_standings : Int32} (h : wp_X3_hasStanding P p0 tr_standings) (hq : P (F_X3_hasStanding p0 tr_standings) → Q (F_X3_hasStanding p0 tr_standings)) : wp_X3_hasStanding Q p0 tr_standings := dt_X3_hasStanding h (fun o eo => by rw [eo]; exact hq)
noncomputable def F_X3_downSeconds (p0 : Int32) (tr_fork : Nat → Int32) : Int32 := (3 + (((tr_fork p0.toNatClampNeg) + 9) / 10))
set_option maxHeartbeats 200000 in
set_option maxRecDepth 10000 in
theorem dt_X3_downSeconds {P Q : Int32 → Prop} {p0 : Int32} {tr_fork : Nat → Int32} (h : wp_X3_downSeconds P p0 tr_fork) (hq : ∀ o : Int32, o = F_X3_downSeconds p0 tr_fork → P o → Q o) : wp_X3_downSeconds Q p0 tr_fork := by
  rw [F_X3_downSeconds] at hq
  refine And.intro (And.left h) ?_
  have h := And.right h
  refine ae ?_
  have h := h _ rfl
  refine ae ?_
  have h := h _ rfl
  have q9 := hq _ rfl
  exact q9 h
theorem du_X3_downSeconds {P Q : Int32 → Prop} {p0 : Int32} {tr_fork : Nat → Int32} (h : wp_X3_downSeconds P p0 tr_fork) (hq : P (F_X3_downSeconds p0 tr_fork) → Q (F_X3_downSeconds p0 tr_fork)) : wp_X3_downSeconds Q p0 tr_fork := dt_X3_downSeconds h (fun o eo => by rw [eo]; exact hq)
noncomputable def F_X9_standing (p0 : Int32) (p1 : Int32) (tr_standings : Int32) (tr_foot : Nat → Int32) (tr_fork : Nat → Int32) : Option Int32 := if (F_X3_hasStanding p0 tr_standings) = 0 then none else (if p1 = 0 then (some (tr_foot p0.toNatClampNeg)) else (if p1 = 1 then (some (tr_fork p0.toNatClampNeg)) else (if p1 = 2 then (some (F_X3_downSeconds p0 tr_fork)) else none)))
set_option maxHeartbeats 200000 in
set_option maxRecDepth 10000 in
theorem dt_X9_standing {P Q : Int32 → Prop} {Px Qx : Prop} {p0 : Int32} {p1 : Int32} {tr_standings : Int32} {tr_foot : Nat → Int32} {tr_fork : Nat → Int32} (h : wp_X9_standing P Px p0 p1 tr_standings tr_foot tr_fork) (hq : ∀ o : Option Int32, o = F_X9_standing p0 p1 tr_standings tr_foot tr_fork → Option.elim o Px P → Option.elim o Qx Q) : wp_X9_standing Q Qx p0 p1 tr_standings tr_foot tr_fork := by
  rw [F_X9_standing] at hq
  refine du_X3_hasStanding h ?_
  intro h
  refine And.intro (fun c1 => ?_) (fun c1 => ?_)
  · have h := And.left h c1
    rw [if_neg c1] at hq
    refine (And.intro (fun c2 => ?_) (And.intro (fun c3 => ?_) (And.intro (fun c4 => ?_) (fun c2 c3 c4 => ?_))))
    · have h := And.left h c2
      rw [if_pos c2] at hq
      refine And.intro (And.left h) ?_
      have h := And.right h
      have q9 := hq _ rfl
      exact q9 h
    · have h := And.left (And.right h) c3
      rw [if_neg (fun e9 => absurd (e9.symm.trans c3) (by decide)), if_pos c3] at hq
      refine And.intro (And.left h) ?_
      have h := And.right h
      have q9 := hq _ rfl
      exact q9 h
    · have h := And.left (And.right (And.right h)) c4
      rw [if_neg (fun e9 => absurd (e9.symm.trans c4) (by decide)), if_neg (fun e9 => absurd (e9.symm.trans c4) (by decide)), if_pos c4] at hq
      refine du_X3_downSeconds h ?_
      intro h
      have q9 := hq _ rfl
      exact q9 h
    · have h := And.right (And.right (And.right h)) c2 c3 c4
      rw [if_neg c2, if_neg c3, if_neg c4] at hq
      have q9 := hq _ rfl
      exact q9 h
  · have h := And.right h c1
    rw [if_pos c1] at hq
    have q9 := hq _ rfl
    exact q9 h
noncomputable def F_X10_isStanding (p0 : Int32) (m_standings : Int32) : Int32 := (F_X10_in p0 0 (m_standings - 1))
set_option maxHeartbeats 200000 in
set_option maxRecDepth 10000 in
theorem dt_X10_isStanding {P Q : Int32 → Prop} {p0 : Int32} {m_standings : Int32} (h : wp_X10_isStanding P p0 m_standings) (hq : ∀ o : Int32, o = F_X10_isStanding p0 m_standings → P o → Q o) : wp_X10_isStanding Q p0 m_standings := by
  rw [F_X10_isStanding] at hq
  refine ae ?_
  have h := h _ rfl
  refine du_X10_in h ?_
  intro h
  refine And.intro (And.left h) ?_
  have h := And.right h
  have q9 := hq _ rfl
  exact q9 h
theorem du_X10_isStanding {P Q : Int32 → Prop} {p0 : Int32} {m_standings : Int32} (h : wp_X10_isStanding P p0 m_standings) (hq : P (F_X10_isStanding p0 m_standings) → Q (F_X10_isStanding p0 m_standings)) : wp_X10_isStanding Q p0 m_standings := dt_X10_isStanding h (fun o eo => by rw [eo]; exact hq)
theorem dw_X10_isStanding {Q : Int32 → Prop} {p0 : Int32} {m_standings : Int32} (h : wp_X10_isStanding (fun o0 => o0 = F_X10_isStanding p0 m_standings → Q o0) p0 m_standings) : wp_X10_isStanding Q p0 m_standings := dt_X10_isStanding h (fun o eo hp => hp eo)
noncomputable def F_X10_downOf (p0 : Int32) (m_fork : Nat → Int32) : Int32 := (3 + (((m_fork p0.toNatClampNeg) + 9) / 10))
set_option maxHeartbeats 200000 in
set_option maxRecDepth 10000 in
theorem dt_X10_downOf {P Q : Int32 → Prop} {p0 : Int32} {m_fork : Nat → Int32} (h : wp_X10_downOf P p0 m_fork) (hq : ∀ o : Int32, o = F_X10_downOf p0 m_fork → P o → Q o) : wp_X10_downOf Q p0 m_fork := by
  rw [F_X10_downOf] at hq
  refine And.intro (And.left h) ?_
  have h := And.right h
  refine ae ?_
  have h := h _ rfl
  refine ae ?_
  have h := h _ rfl
  have q9 := hq _ rfl
  exact q9 h
theorem du_X10_downOf {P Q : Int32 → Prop} {p0 : Int32} {m_fork : Nat → Int32} (h : wp_X10_downOf P p0 m_fork) (hq : P (F_X10_downOf p0 m_fork) → Q (F_X10_downOf p0 m_fork)) : wp_X10_downOf Q p0 m_fork := dt_X10_downOf h (fun o eo => by rw [eo]; exact hq)
theorem dw_X10_downOf {Q : Int32 → Prop} {p0 : Int32} {m_fork : Nat → Int32} (h : wp_X10_downOf (fun o0 => o0 = F_X10_downOf p0 m_fork → Q o0) p0 m_fork) : wp_X10_downOf Q p0 m_fork := dt_X10_downOf h (fun o eo hp => hp eo)
noncomputable def F_X10_lost (m_thrown : Int32) : Int32 × Int32 := (0, 1)
set_option maxHeartbeats 200000 in
set_option maxRecDepth 10000 in
theorem dt_X10_lost {P Q : Int32 → Int32 → Prop} {m_thrown : Int32} (h : wp_X10_lost P m_thrown) (hq : ∀ o : Int32 × Int32, o = F_X10_lost m_thrown → P o.1 o.2 → Q o.1 o.2) : wp_X10_lost Q m_thrown := by
  rw [F_X10_lost] at hq
  have q9 := hq _ rfl
  dsimp only at q9
  exact q9 h
theorem du_X10_lost {P Q : Int32 → Int32 → Prop} {m_thrown : Int32} (h : wp_X10_lost P m_thrown) (hq : P (F_X10_lost m_thrown).1 (F_X10_lost m_thrown).2 → Q (F_X10_lost m_thrown).1 (F_X10_lost m_thrown).2) : wp_X10_lost Q m_thrown := dt_X10_lost h (fun o eo => by rw [eo]; exact hq)
theorem dw_X10_lost {Q : Int32 → Int32 → Prop} {m_thrown : Int32} (h : wp_X10_lost (fun o0 o1 => (o0, o1) = F_X10_lost m_thrown → Q o0 o1) m_thrown) : wp_X10_lost Q m_thrown := dt_X10_lost h (fun o eo hp => hp eo)
noncomputable def j_X10_standing_22 {R : Type} (po : Int32 → Int32 → R) (m_standings : Int32) (m_foot : Nat → Int32) (m_fork : Nat → Int32) (m_thrown : Int32) : R := po ((F_X10_lost m_thrown).1) ((F_X10_lost m_thrown).2)
noncomputable def F_X10_standing (p0 : Int32) (p1 : Int32) (m_standings : Int32) (m_thrown : Int32) (m_foot : Nat → Int32) (m_fork : Nat → Int32) : Int32 × Int32 := if (F_X10_isStanding p0 m_standings) = 0 then (j_X10_standing_22 (fun o0 o1 => (o0, o1)) m_standings m_foot m_fork 0) else (if (F_X10_in p1 0 2) = 0 then (j_X10_standing_22 (fun o0 o1 => (o0, o1)) m_standings m_foot m_fork 0) else (if p1 = 0 then ((m_foot p0.toNatClampNeg), 0) else (if p1 = 1 then ((m_fork p0.toNatClampNeg), 0) else ((F_X10_downOf p0 m_fork), 0))))
set_option maxHeartbeats 200000 in
set_option maxRecDepth 10000 in
theorem dt_X10_standing {P Q : Int32 → Int32 → Prop} {p0 : Int32} {p1 : Int32} {m_standings : Int32} {m_thrown : Int32} {m_foot : Nat → Int32} {m_fork : Nat → Int32} (h : wp_X10_standing P p0 p1 m_standings m_thrown m_foot m_fork) (hq : ∀ o : Int32 × Int32, o = F_X10_standing p0 p1 m_standings m_thrown m_foot m_fork → P o.1 o.2 → Q o.1 o.2) : wp_X10_standing Q p0 p1 m_standings m_thrown m_foot m_fork := by
  rw [F_X10_standing] at hq
  refine du_X10_isStanding h ?_
  intro h
  refine And.intro (fun c1 => ?_) (fun c1 => ?_)
  · have h := And.left h c1
    rw [if_pos c1] at hq
    rw [j_X10_standing_22] at hq
    unfold ws_X10_standing_22 at h ⊢
    refine du_X10_lost h ?_
    intro h
    have q9 := hq _ rfl
    dsimp only at q9
    exact q9 h
  · have h := And.right h c1
    rw [if_neg c1] at hq
    refine du_X10_in h ?_
    intro h
    refine And.intro (fun c2 => ?_) (fun c2 => ?_)
    · have h := And.left h c2
      rw [if_neg c2] at hq
      refine And.intro (fun c3 => ?_) (fun c3 => ?_)
      · have h := And.left h c3
        rw [if_neg c3] at hq
        refine And.intro (fun c4 => ?_) (fun c4 => ?_)
        · have h := And.left h c4
          rw [if_neg c4] at hq
          refine du_X10_downOf h ?_
          intro h
          have q9 := hq _ rfl
          dsimp only at q9
          exact q9 h
        · have h := And.right h c4
          rw [if_pos c4] at hq
          refine And.intro (And.left h) ?_
          have h := And.right h
          refine ae ?_
          have h := h _ rfl
          have q9 := hq _ rfl
          dsimp only at q9
          exact q9 h
      · have h := And.right h c3
        rw [if_pos c3] at hq
        refine And.intro (And.left h) ?_
        have h := And.right h
        refine ae ?_
        have h := h _ rfl
        have q9 := hq _ rfl
        dsimp only at q9
        exact q9 h
    · have h := And.right h c2
      rw [if_pos c2] at hq
      rw [j_X10_standing_22] at hq
      unfold ws_X10_standing_22 at h ⊢
      refine du_X10_lost h ?_
      intro h
      have q9 := hq _ rfl
      dsimp only at q9
      exact q9 h
theorem du_X10_standing {P Q : Int32 → Int32 → Prop} {p0 : Int32} {p1 : Int32} {m_standings : Int32} {m_thrown : Int32} {m_foot : Nat → Int32} {m_fork : Nat → Int32} (h : wp_X10_standing P p0 p1 m_standings m_thrown m_foot m_fork) (hq : P (F_X10_standing p0 p1 m_standings m_thrown m_foot m_fork).1 (F_X10_standing p0 p1 m_standings m_thrown m_foot m_fork).2 → Q (F_X10_standing p0 p1 m_standings m_thrown m_foot m_fork).1 (F_X10_standing p0 p1 m_standings m_thrown m_foot m_fork).2) : wp_X10_standing Q p0 p1 m_standings m_thrown m_foot m_fork := dt_X10_standing h (fun o eo => by rw [eo]; exact hq)
theorem dw_X10_standing {Q : Int32 → Int32 → Prop} {p0 : Int32} {p1 : Int32} {m_standings : Int32} {m_thrown : Int32} {m_foot : Nat → Int32} {m_fork : Nat → Int32} (h : wp_X10_standing (fun o0 o1 => (o0, o1) = F_X10_standing p0 p1 m_standings m_thrown m_foot m_fork → Q o0 o1) p0 p1 m_standings m_thrown m_foot m_fork) : wp_X10_standing Q p0 p1 m_standings m_thrown m_foot m_fork := dt_X10_standing h (fun o eo hp => hp eo)
noncomputable def F_X3_hasFruit (p0 : Int32) (tr_fruits : Int32) : Int32 := if p0 < 0 then 0 else (if tr_fruits ≤ p0 then 0 else 1)
set_option maxHeartbeats 200000 in
set_option maxRecDepth 10000 in
theorem dt_X3_hasFruit {P Q : Int32 → Prop} {p0 : Int32} {tr_fruits : Int32} (h : wp_X3_hasFruit P p0 tr_fruits) (hq : ∀ o : Int32, o = F_X3_hasFruit p0 tr_fruits → P o → Q o) : wp_X3_hasFruit Q p0 tr_fruits := by
  rw [F_X3_hasFruit] at hq
  refine And.intro (fun c1 => ?_) (fun c1 => ?_)
  · have h := And.left h c1
    rw [if_pos c1] at hq
    have q9 := hq _ rfl
    exact q9 h
  · have h := And.right h c1
    rw [if_neg c1] at hq
    refine And.intro (fun c2 => ?_) (fun c2 => ?_)
    · have h := And.left h c2
      rw [if_pos c2] at hq
      have q9 := hq _ rfl
      exact q9 h
    · have h := And.right h c2
      rw [if_neg c2] at hq
      have q9 := hq _ rfl
      exact q9 h
theorem du_X3_hasFruit {P Q : Int32 → Prop} {p0 : Int32} {tr_fruits : Int32} (h : wp_X3_hasFruit P p0 tr_fruits) (hq : P (F_X3_hasFruit p0 tr_fruits) → Q (F_X3_hasFruit p0 tr_fruits)) : wp_X3_hasFruit Q p0 tr_fruits := dt_X3_hasFruit h (fun o eo => by rw [eo]; exact hq)
noncomputable def F_X3_aside (p0 : Int32) (p1 : Int32) (tr_x : Nat → Int32) (tr_foot : Nat → Int32) : Int32 := if (tr_x p0.toNatClampNeg) ≤ (tr_foot p1.toNatClampNeg) then ((tr_foot p1.toNatClampNeg) - (tr_x p0.toNatClampNeg)) else ((tr_x p0.toNatClampNeg) - (tr_foot p1.toNatClampNeg))
set_option maxHeartbeats 200000 in
set_option maxRecDepth 10000 in
theorem dt_X3_aside {P Q : Int32 → Prop} {p0 : Int32} {p1 : Int32} {tr_x : Nat → Int32} {tr_foot : Nat → Int32} (h : wp_X3_aside P p0 p1 tr_x tr_foot) (hq : ∀ o : Int32, o = F_X3_aside p0 p1 tr_x tr_foot → P o → Q o) : wp_X3_aside Q p0 p1 tr_x tr_foot := by
  rw [F_X3_aside] at hq
  refine And.intro (And.left h) ?_
  have h := And.right h
  refine ae ?_
  have h := h _ rfl
  refine And.intro (And.left h) ?_
  have h := And.right h
  refine And.intro (fun c1 => ?_) (fun c1 => ?_)
  · have h := And.left h c1
    rw [if_pos c1] at hq
    refine And.intro (And.left h) ?_
    have h := And.right h
    refine ae ?_
    have h := h _ rfl
    refine And.intro (And.left h) ?_
    have h := And.right h
    have q9 := hq _ rfl
    exact q9 h
  · have h := And.right h c1
    rw [if_neg c1] at hq
    refine And.intro (And.left h) ?_
    have h := And.right h
    refine ae ?_
    have h := h _ rfl
    refine And.intro (And.left h) ?_
    have h := And.right h
    refine ae ?_
    have h := h _ rfl
    have q9 := hq _ rfl
    exact q9 h
theorem du_X3_aside {P Q : Int32 → Prop} {p0 : Int32} {p1 : Int32} {tr_x : Nat → Int32} {tr_foot : Nat → Int32} (h : wp_X3_aside P p0 p1 tr_x tr_foot) (hq : P (F_X3_aside p0 p1 tr_x tr_foot) → Q (F_X3_aside p0 p1 tr_x tr_foot)) : wp_X3_aside Q p0 p1 tr_x tr_foot := dt_X3_aside h (fun o eo => by rw [eo]; exact hq)
noncomputable def F_X3_above (p0 : Int32) (p1 : Int32) (tr_height : Nat → Int32) (tr_fork : Nat → Int32) : Int32 := if (tr_height p0.toNatClampNeg) ≤ (tr_fork p1.toNatClampNeg) then 0 else ((tr_height p0.toNatClampNeg) - (tr_fork p1.toNatClampNeg))
set_option maxHeartbeats 200000 in
set_option maxRecDepth 10000 in
theorem dt_X3_above {P Q : Int32 → Prop} {p0 : Int32} {p1 : Int32} {tr_height : Nat → Int32} {tr_fork : Nat → Int32} (h : wp_X3_above P p0 p1 tr_height tr_fork) (hq : ∀ o : Int32, o = F_X3_above p0 p1 tr_height tr_fork → P o → Q o) : wp_X3_above Q p0 p1 tr_height tr_fork := by
  rw [F_X3_above] at hq
  refine And.intro (And.left h) ?_
  have h := And.right h
  refine ae ?_
  have h := h _ rfl
  refine And.intro (And.left h) ?_
  have h := And.right h
  refine And.intro (fun c1 => ?_) (fun c1 => ?_)
  · have h := And.left h c1
    rw [if_pos c1] at hq
    have q9 := hq _ rfl
    exact q9 h
  · have h := And.right h c1
    rw [if_neg c1] at hq
    refine And.intro (And.left h) ?_
    have h := And.right h
    refine ae ?_
    have h := h _ rfl
    refine And.intro (And.left h) ?_
    have h := And.right h
    refine ae ?_
    have h := h _ rfl
    have q9 := hq _ rfl
    exact q9 h
theorem du_X3_above {P Q : Int32 → Prop} {p0 : Int32} {p1 : Int32} {tr_height : Nat → Int32} {tr_fork : Nat → Int32} (h : wp_X3_above P p0 p1 tr_height tr_fork) (hq : P (F_X3_above p0 p1 tr_height tr_fork) → Q (F_X3_above p0 p1 tr_height tr_fork)) : wp_X3_above Q p0 p1 tr_height tr_fork := dt_X3_above h (fun o eo => by rw [eo]; exact hq)
noncomputable def F_X3_isWithin (p0 : Int32) (p1 : Int32) (p2 : Int32) (tr_x : Nat → Int32) (tr_height : Nat → Int32) (tr_foot : Nat → Int32) (tr_fork : Nat → Int32) : Int32 := if (p2 * p2) < (((F_X3_aside p0 p1 tr_x tr_foot) * (F_X3_aside p0 p1 tr_x tr_foot)) + ((F_X3_above p0 p1 tr_height tr_fork) * (F_X3_above p0 p1 tr_height tr_fork))) then 0 else 1
set_option maxHeartbeats 200000 in
set_option maxRecDepth 10000 in
theorem dt_X3_isWithin {P Q : Int32 → Prop} {p0 : Int32} {p1 : Int32} {p2 : Int32} {tr_x : Nat → Int32} {tr_height : Nat → Int32} {tr_foot : Nat → Int32} {tr_fork : Nat → Int32} (h : wp_X3_isWithin P p0 p1 p2 tr_x tr_height tr_foot tr_fork) (hq : ∀ o : Int32, o = F_X3_isWithin p0 p1 p2 tr_x tr_height tr_foot tr_fork → P o → Q o) : wp_X3_isWithin Q p0 p1 p2 tr_x tr_height tr_foot tr_fork := by
  rw [F_X3_isWithin] at hq
  refine du_X3_aside h ?_
  intro h
  refine du_X3_above h ?_
  intro h
  refine ae ?_
  have h := h _ rfl
  refine ae ?_
  have h := h _ rfl
  refine And.intro (fun c1 => ?_) (fun c1 => ?_)
  · have h := And.left h c1
    rw [if_pos c1] at hq
    have q9 := hq _ rfl
    exact q9 h
  · have h := And.right h c1
    rw [if_neg c1] at hq
    have q9 := hq _ rfl
    exact q9 h
theorem du_X3_isWithin {P Q : Int32 → Prop} {p0 : Int32} {p1 : Int32} {p2 : Int32} {tr_x : Nat → Int32} {tr_height : Nat → Int32} {tr_foot : Nat → Int32} {tr_fork : Nat → Int32} (h : wp_X3_isWithin P p0 p1 p2 tr_x tr_height tr_foot tr_fork) (hq : P (F_X3_isWithin p0 p1 p2 tr_x tr_height tr_foot tr_fork) → Q (F_X3_isWithin p0 p1 p2 tr_x tr_height tr_foot tr_fork)) : wp_X3_isWithin Q p0 p1 p2 tr_x tr_height tr_foot tr_fork := dt_X3_isWithin h (fun o eo => by rw [eo]; exact hq)
noncomputable def fs_X3_leanNeeded_2 {R : Type} (po : Int32 → R) (tr_x : Nat → Int32) (tr_height : Nat → Int32) (tr_foot : Nat → Int32) (tr_fork : Nat → Int32) (tr_settings : Nat → Int32) (nx : Int32 → Int32 → Int32 → R) (x1 : Int32) (x2 : Int32) (x3 : Int32) : R := if 30 < x3 then (po (-2)) else (if (F_X3_isWithin x1 x2 ((tr_settings (0 : Int32).toNatClampNeg) + x3) tr_x tr_height tr_foot tr_fork) = 0 then (nx x1 x2 (x3 + 1)) else (po x3))
set_option maxHeartbeats 200000 in
set_option maxRecDepth 10000 in
theorem dl_X3_leanNeeded_2 {P Q : Int32 → Prop} {tr_x : Nat → Int32} {tr_height : Nat → Int32} {tr_foot : Nat → Int32} {tr_fork : Nat → Int32} {tr_settings : Nat → Int32} {R : Type} {po : Int32 → R} {d : Int32 → Int32 → Int32 → R} : ∀ (n m : Nat) (x1 : Int32) (x2 : Int32) (x3 : Int32), 0 ≤ Int32.toInt x3 ∧ Int32.toInt x3 ≤ 31 → 31 - Int32.toInt x3 < (m : Int) → wb_X3_leanNeeded_2 P tr_x tr_height tr_foot tr_fork tr_settings n x1 x2 x3 → (∀ (b0 : Int32), po b0 = flp (fs_X3_leanNeeded_2 po tr_x tr_height tr_foot tr_fork tr_settings) d m x1 x2 x3 → P b0 → Q b0) → wb_X3_leanNeeded_2 Q tr_x tr_height tr_foot tr_fork tr_settings n x1 x2 x3 := by
  have l1 : Int32.toInt (1 : Int32) = 1 := by decide
  have l30 : Int32.toInt (30 : Int32) = 30 := by decide
  intro n
  induction n with
  | zero => intro m x1 x2 x3 hv hm h hq; exact False.elim h
  | succ n ih =>
    intro m x1 x2 x3 hv hm h hq
    cases m with
    | zero => exfalso; omega
    | succ m =>
      rw [flp_s, fs_X3_leanNeeded_2] at hq
      have h : ws_X3_leanNeeded_2 P (wb_X3_leanNeeded_2 P tr_x tr_height tr_foot tr_fork tr_settings n) tr_x tr_height tr_foot tr_fork tr_settings x1 x2 x3 := h
      show ws_X3_leanNeeded_2 Q (wb_X3_leanNeeded_2 Q tr_x tr_height tr_foot tr_fork tr_settings n) tr_x tr_height tr_foot tr_fork tr_settings x1 x2 x3
      unfold ws_X3_leanNeeded_2 at h ⊢
      refine And.intro (fun c1 => ?_) (fun c1 => ?_)
      · have h := And.left h c1
        rw [if_pos c1] at hq
        have dc1 := (fa_lt _ _).mp c1
        exact hq _ rfl h
      · have h := And.right h c1
        rw [if_neg c1] at hq
        have dc1 := mt (fa_lt _ _).mpr c1
        refine ae ?_
        have h := h _ rfl
        refine ae ?_
        have h := h _ rfl
        refine du_X3_isWithin h ?_
        intro h
        refine And.intro (fun c2 => ?_) (fun c2 => ?_)
        · have h := And.left h c2
          rw [if_pos c2] at hq
          have dc2 := (fa_eq _ _).mp c2
          refine ae ?_
          have h := h _ rfl
          have f9 := ta_add x3 1 (by omega)
          exact ih m _ _ _ (by omega) (by omega) h hq
        · have h := And.right h c2
          rw [if_neg c2] at hq
          have dc2 := mt (fa_eq _ _).mpr c2
          exact hq _ rfl h
noncomputable def F_X3_leanNeeded (p0 : Int32) (p1 : Int32) (tr_x : Nat → Int32) (tr_height : Nat → Int32) (tr_foot : Nat → Int32) (tr_fork : Nat → Int32) (tr_settings : Nat → Int32) : Int32 := flp (fs_X3_leanNeeded_2 (fun o0 => o0) tr_x tr_height tr_foot tr_fork tr_settings) (fun _ _ _ => 0) 32 p0 p1 0
set_option maxHeartbeats 200000 in
set_option maxRecDepth 10000 in
theorem dt_X3_leanNeeded {P Q : Int32 → Prop} {p0 : Int32} {p1 : Int32} {tr_x : Nat → Int32} {tr_height : Nat → Int32} {tr_foot : Nat → Int32} {tr_fork : Nat → Int32} {tr_settings : Nat → Int32} (h : wp_X3_leanNeeded P p0 p1 tr_x tr_height tr_foot tr_fork tr_settings) (hq : ∀ o : Int32, o = F_X3_leanNeeded p0 p1 tr_x tr_height tr_foot tr_fork tr_settings → P o → Q o) : wp_X3_leanNeeded Q p0 p1 tr_x tr_height tr_foot tr_fork tr_settings := by
  rw [F_X3_leanNeeded] at hq
  obtain ⟨n1, h⟩ := h
  exact ⟨n1, dl_X3_leanNeeded_2 n1 32 _ _ _ (by decide) (by decide) h (fun b0 e9 h9 => hq b0 e9 h9)⟩
theorem du_X3_leanNeeded {P Q : Int32 → Prop} {p0 : Int32} {p1 : Int32} {tr_x : Nat → Int32} {tr_height : Nat → Int32} {tr_foot : Nat → Int32} {tr_fork : Nat → Int32} {tr_settings : Nat → Int32} (h : wp_X3_leanNeeded P p0 p1 tr_x tr_height tr_foot tr_fork tr_settings) (hq : P (F_X3_leanNeeded p0 p1 tr_x tr_height tr_foot tr_fork tr_settings) → Q (F_X3_leanNeeded p0 p1 tr_x tr_height tr_foot tr_fork tr_settings)) : wp_X3_leanNeeded Q p0 p1 tr_x tr_height tr_foot tr_fork tr_settings := dt_X3_leanNeeded h (fun o eo => by rw [eo]; exact hq)
noncomputable def F_X9_leaned (p0 : Int32) (p1 : Int32) (tr_fruits : Int32) (tr_standings : Int32) (tr_x : Nat → Int32) (tr_height : Nat → Int32) (tr_foot : Nat → Int32) (tr_fork : Nat → Int32) (tr_settings : Nat → Int32) : Int32 := if (F_X3_hasFruit p0 tr_fruits) = 0 then (-1) else (if (F_X3_hasStanding p1 tr_standings) = 0 then (-1) else (F_X3_leanNeeded p0 p1 tr_x tr_height tr_foot tr_fork tr_settings))
set_option maxHeartbeats 200000 in
set_option maxRecDepth 10000 in
theorem dt_X9_leaned {P Q : Int32 → Prop} {p0 : Int32} {p1 : Int32} {tr_fruits : Int32} {tr_standings : Int32} {tr_x : Nat → Int32} {tr_height : Nat → Int32} {tr_foot : Nat → Int32} {tr_fork : Nat → Int32} {tr_settings : Nat → Int32} (h : wp_X9_leaned P p0 p1 tr_fruits tr_standings tr_x tr_height tr_foot tr_fork tr_settings) (hq : ∀ o : Int32, o = F_X9_leaned p0 p1 tr_fruits tr_standings tr_x tr_height tr_foot tr_fork tr_settings → P o → Q o) : wp_X9_leaned Q p0 p1 tr_fruits tr_standings tr_x tr_height tr_foot tr_fork tr_settings := by
  rw [F_X9_leaned] at hq
  refine du_X3_hasFruit h ?_
  intro h
  refine And.intro (fun c1 => ?_) (fun c1 => ?_)
  · have h := And.left h c1
    rw [if_pos c1] at hq
    have q9 := hq _ rfl
    exact q9 h
  · have h := And.right h c1
    rw [if_neg c1] at hq
    refine du_X3_hasStanding h ?_
    intro h
    refine And.intro (fun c2 => ?_) (fun c2 => ?_)
    · have h := And.left h c2
      rw [if_neg c2] at hq
      refine du_X3_leanNeeded h ?_
      intro h
      have q9 := hq _ rfl
      exact q9 h
    · have h := And.right h c2
      rw [if_pos c2] at hq
      have q9 := hq _ rfl
      exact q9 h
theorem du_X9_leaned {P Q : Int32 → Prop} {p0 : Int32} {p1 : Int32} {tr_fruits : Int32} {tr_standings : Int32} {tr_x : Nat → Int32} {tr_height : Nat → Int32} {tr_foot : Nat → Int32} {tr_fork : Nat → Int32} {tr_settings : Nat → Int32} (h : wp_X9_leaned P p0 p1 tr_fruits tr_standings tr_x tr_height tr_foot tr_fork tr_settings) (hq : P (F_X9_leaned p0 p1 tr_fruits tr_standings tr_x tr_height tr_foot tr_fork tr_settings) → Q (F_X9_leaned p0 p1 tr_fruits tr_standings tr_x tr_height tr_foot tr_fork tr_settings)) : wp_X9_leaned Q p0 p1 tr_fruits tr_standings tr_x tr_height tr_foot tr_fork tr_settings := dt_X9_leaned h (fun o eo => by rw [eo]; exact hq)
theorem dw_X9_leaned {Q : Int32 → Prop} {p0 : Int32} {p1 : Int32} {tr_fruits : Int32} {tr_standings : Int32} {tr_x : Nat → Int32} {tr_height : Nat → Int32} {tr_foot : Nat → Int32} {tr_fork : Nat → Int32} {tr_settings : Nat → Int32} (h : wp_X9_leaned (fun o0 => o0 = F_X9_leaned p0 p1 tr_fruits tr_standings tr_x tr_height tr_foot tr_fork tr_settings → Q o0) p0 p1 tr_fruits tr_standings tr_x tr_height tr_foot tr_fork tr_settings) : wp_X9_leaned Q p0 p1 tr_fruits tr_standings tr_x tr_height tr_foot tr_fork tr_settings := dt_X9_leaned h (fun o eo hp => hp eo)
noncomputable def F_X10_isFruit (p0 : Int32) (m_fruits : Int32) : Int32 := (F_X10_in p0 0 (m_fruits - 1))
set_option maxHeartbeats 200000 in
set_option maxRecDepth 10000 in
theorem dt_X10_isFruit {P Q : Int32 → Prop} {p0 : Int32} {m_fruits : Int32} (h : wp_X10_isFruit P p0 m_fruits) (hq : ∀ o : Int32, o = F_X10_isFruit p0 m_fruits → P o → Q o) : wp_X10_isFruit Q p0 m_fruits := by
  rw [F_X10_isFruit] at hq
  refine ae ?_
  have h := h _ rfl
  refine du_X10_in h ?_
  intro h
  refine And.intro (And.left h) ?_
  have h := And.right h
  have q9 := hq _ rfl
  exact q9 h
theorem du_X10_isFruit {P Q : Int32 → Prop} {p0 : Int32} {m_fruits : Int32} (h : wp_X10_isFruit P p0 m_fruits) (hq : P (F_X10_isFruit p0 m_fruits) → Q (F_X10_isFruit p0 m_fruits)) : wp_X10_isFruit Q p0 m_fruits := dt_X10_isFruit h (fun o eo => by rw [eo]; exact hq)
theorem dw_X10_isFruit {Q : Int32 → Prop} {p0 : Int32} {m_fruits : Int32} (h : wp_X10_isFruit (fun o0 => o0 = F_X10_isFruit p0 m_fruits → Q o0) p0 m_fruits) : wp_X10_isFruit Q p0 m_fruits := dt_X10_isFruit h (fun o eo hp => hp eo)
noncomputable def F_X10_far (p0 : Int32) (p1 : Int32) (m_x : Nat → Int32) (m_foot : Nat → Int32) : Int32 := (if 0 ≤ ((m_x p0.toNatClampNeg) - (m_foot p1.toNatClampNeg)) then ((m_x p0.toNatClampNeg) - (m_foot p1.toNatClampNeg)) else 0 - ((m_x p0.toNatClampNeg) - (m_foot p1.toNatClampNeg)))
set_option maxHeartbeats 200000 in
set_option maxRecDepth 10000 in
theorem dt_X10_far {P Q : Int32 → Prop} {p0 : Int32} {p1 : Int32} {m_x : Nat → Int32} {m_foot : Nat → Int32} (h : wp_X10_far P p0 p1 m_x m_foot) (hq : ∀ o : Int32, o = F_X10_far p0 p1 m_x m_foot → P o → Q o) : wp_X10_far Q p0 p1 m_x m_foot := by
  rw [F_X10_far] at hq
  refine And.intro (And.left h) ?_
  have h := And.right h
  refine ae ?_
  have h := h _ rfl
  refine And.intro (And.left h) ?_
  have h := And.right h
  refine ae ?_
  have h := h _ rfl
  refine ae ?_
  have h := h _ rfl
  have q9 := hq _ rfl
  exact q9 h
theorem du_X10_far {P Q : Int32 → Prop} {p0 : Int32} {p1 : Int32} {m_x : Nat → Int32} {m_foot : Nat → Int32} (h : wp_X10_far P p0 p1 m_x m_foot) (hq : P (F_X10_far p0 p1 m_x m_foot) → Q (F_X10_far p0 p1 m_x m_foot)) : wp_X10_far Q p0 p1 m_x m_foot := dt_X10_far h (fun o eo => by rw [eo]; exact hq)
theorem dw_X10_far {Q : Int32 → Prop} {p0 : Int32} {p1 : Int32} {m_x : Nat → Int32} {m_foot : Nat → Int32} (h : wp_X10_far (fun o0 => o0 = F_X10_far p0 p1 m_x m_foot → Q o0) p0 p1 m_x m_foot) : wp_X10_far Q p0 p1 m_x m_foot := dt_X10_far h (fun o eo hp => hp eo)
noncomputable def F_X10_above (p0 : Int32) (p1 : Int32) (m_height : Nat → Int32) (m_fork : Nat → Int32) : Int32 := (if 0 < ((m_height p0.toNatClampNeg) - (m_fork p1.toNatClampNeg)) then ((m_height p0.toNatClampNeg) - (m_fork p1.toNatClampNeg)) else 0)
set_option maxHeartbeats 200000 in
set_option maxRecDepth 10000 in
theorem dt_X10_above {P Q : Int32 → Prop} {p0 : Int32} {p1 : Int32} {m_height : Nat → Int32} {m_fork : Nat → Int32} (h : wp_X10_above P p0 p1 m_height m_fork) (hq : ∀ o : Int32, o = F_X10_above p0 p1 m_height m_fork → P o → Q o) : wp_X10_above Q p0 p1 m_height m_fork := by
  rw [F_X10_above] at hq
  refine And.intro (And.left h) ?_
  have h := And.right h
  refine ae ?_
  have h := h _ rfl
  refine And.intro (And.left h) ?_
  have h := And.right h
  refine ae ?_
  have h := h _ rfl
  refine ae ?_
  have h := h _ rfl
  have q9 := hq _ rfl
  exact q9 h
theorem du_X10_above {P Q : Int32 → Prop} {p0 : Int32} {p1 : Int32} {m_height : Nat → Int32} {m_fork : Nat → Int32} (h : wp_X10_above P p0 p1 m_height m_fork) (hq : P (F_X10_above p0 p1 m_height m_fork) → Q (F_X10_above p0 p1 m_height m_fork)) : wp_X10_above Q p0 p1 m_height m_fork := dt_X10_above h (fun o eo => by rw [eo]; exact hq)
theorem dw_X10_above {Q : Int32 → Prop} {p0 : Int32} {p1 : Int32} {m_height : Nat → Int32} {m_fork : Nat → Int32} (h : wp_X10_above (fun o0 => o0 = F_X10_above p0 p1 m_height m_fork → Q o0) p0 p1 m_height m_fork) : wp_X10_above Q p0 p1 m_height m_fork := dt_X10_above h (fun o eo hp => hp eo)
noncomputable def F_X10_isWithin (p0 : Int32) (p1 : Int32) (p2 : Int32) (m_x : Nat → Int32) (m_height : Nat → Int32) (m_foot : Nat → Int32) (m_fork : Nat → Int32) : Int32 := if (p2 * p2) < (((F_X10_far p0 p1 m_x m_foot) * (F_X10_far p0 p1 m_x m_foot)) + ((F_X10_above p0 p1 m_height m_fork) * (F_X10_above p0 p1 m_height m_fork))) then 0 else 1
set_option maxHeartbeats 200000 in
set_option maxRecDepth 10000 in
theorem dt_X10_isWithin {P Q : Int32 → Prop} {p0 : Int32} {p1 : Int32} {p2 : Int32} {m_x : Nat → Int32} {m_height : Nat → Int32} {m_foot : Nat → Int32} {m_fork : Nat → Int32} (h : wp_X10_isWithin P p0 p1 p2 m_x m_height m_foot m_fork) (hq : ∀ o : Int32, o = F_X10_isWithin p0 p1 p2 m_x m_height m_foot m_fork → P o → Q o) : wp_X10_isWithin Q p0 p1 p2 m_x m_height m_foot m_fork := by
  rw [F_X10_isWithin] at hq
  refine du_X10_far h ?_
  intro h
  refine du_X10_far h ?_
  intro h
  refine ae ?_
  have h := h _ rfl
  refine du_X10_above h ?_
  intro h
  refine du_X10_above h ?_
  intro h
  refine ae ?_
  have h := h _ rfl
  refine And.intro (fun c1 => ?_) (fun c1 => ?_)
  · have h := And.left h c1
    rw [if_pos c1] at hq
    have q9 := hq _ rfl
    exact q9 h
  · have h := And.right h c1
    rw [if_neg c1] at hq
    have q9 := hq _ rfl
    exact q9 h
theorem du_X10_isWithin {P Q : Int32 → Prop} {p0 : Int32} {p1 : Int32} {p2 : Int32} {m_x : Nat → Int32} {m_height : Nat → Int32} {m_foot : Nat → Int32} {m_fork : Nat → Int32} (h : wp_X10_isWithin P p0 p1 p2 m_x m_height m_foot m_fork) (hq : P (F_X10_isWithin p0 p1 p2 m_x m_height m_foot m_fork) → Q (F_X10_isWithin p0 p1 p2 m_x m_height m_foot m_fork)) : wp_X10_isWithin Q p0 p1 p2 m_x m_height m_foot m_fork := dt_X10_isWithin h (fun o eo => by rw [eo]; exact hq)
theorem dw_X10_isWithin {Q : Int32 → Prop} {p0 : Int32} {p1 : Int32} {p2 : Int32} {m_x : Nat → Int32} {m_height : Nat → Int32} {m_foot : Nat → Int32} {m_fork : Nat → Int32} (h : wp_X10_isWithin (fun o0 => o0 = F_X10_isWithin p0 p1 p2 m_x m_height m_foot m_fork → Q o0) p0 p1 p2 m_x m_height m_foot m_fork) : wp_X10_isWithin Q p0 p1 p2 m_x m_height m_foot m_fork := dt_X10_isWithin h (fun o eo hp => hp eo)
noncomputable def fs_X10_leanOf_2 {R : Type} (po : Int32 → R) (m_x : Nat → Int32) (m_height : Nat → Int32) (m_foot : Nat → Int32) (m_fork : Nat → Int32) (m_told : Nat → Int32) (nx : Int32 → Int32 → Int32 → R) (x1 : Int32) (x2 : Int32) (x3 : Int32) : R := if 30 < x3 then (po x3) else (if (F_X10_isWithin x1 x2 ((m_told (0 : Int32).toNatClampNeg) + x3) m_x m_height m_foot m_fork) = 0 then (nx x1 x2 (x3 + 1)) else (po x3))
set_option maxHeartbeats 200000 in
set_option maxRecDepth 10000 in
theorem dl_X10_leanOf_2 {P Q : Int32 → Prop} {m_x : Nat → Int32} {m_height : Nat → Int32} {m_foot : Nat → Int32} {m_fork : Nat → Int32} {m_told : Nat → Int32} {R : Type} {po : Int32 → R} {d : Int32 → Int32 → Int32 → R} : ∀ (n m : Nat) (x1 : Int32) (x2 : Int32) (x3 : Int32), 0 ≤ Int32.toInt x3 ∧ Int32.toInt x3 ≤ 31 → 31 - Int32.toInt x3 < (m : Int) → wb_X10_leanOf_2 P m_x m_height m_foot m_fork m_told n x1 x2 x3 → (∀ (b0 : Int32), po b0 = flp (fs_X10_leanOf_2 po m_x m_height m_foot m_fork m_told) d m x1 x2 x3 → P b0 → Q b0) → wb_X10_leanOf_2 Q m_x m_height m_foot m_fork m_told n x1 x2 x3 := by
  have l1 : Int32.toInt (1 : Int32) = 1 := by decide
  have l30 : Int32.toInt (30 : Int32) = 30 := by decide
  intro n
  induction n with
  | zero => intro m x1 x2 x3 hv hm h hq; exact False.elim h
  | succ n ih =>
    intro m x1 x2 x3 hv hm h hq
    cases m with
    | zero => exfalso; omega
    | succ m =>
      rw [flp_s, fs_X10_leanOf_2] at hq
      have h : ws_X10_leanOf_2 P (wb_X10_leanOf_2 P m_x m_height m_foot m_fork m_told n) m_x m_height m_foot m_fork m_told x1 x2 x3 := h
      show ws_X10_leanOf_2 Q (wb_X10_leanOf_2 Q m_x m_height m_foot m_fork m_told n) m_x m_height m_foot m_fork m_told x1 x2 x3
      unfold ws_X10_leanOf_2 at h ⊢
      refine And.intro (fun c1 => ?_) (fun c1 => ?_)
      · have h := And.left h c1
        rw [if_pos c1] at hq
        have dc1 := (fa_lt _ _).mp c1
        exact hq _ rfl h
      · have h := And.right h c1
        rw [if_neg c1] at hq
        have dc1 := mt (fa_lt _ _).mpr c1
        refine ae ?_
        have h := h _ rfl
        refine ae ?_
        have h := h _ rfl
        refine du_X10_isWithin h ?_
        intro h
        refine And.intro (fun c2 => ?_) (fun c2 => ?_)
        · have h := And.left h c2
          rw [if_neg c2] at hq
          have dc2 := mt (fa_eq _ _).mpr c2
          exact hq _ rfl h
        · have h := And.right h c2
          rw [if_pos c2] at hq
          have dc2 := (fa_eq _ _).mp c2
          refine ae ?_
          have h := h _ rfl
          have f9 := ta_add x3 1 (by omega)
          exact ih m _ _ _ (by omega) (by omega) h hq
noncomputable def F_X10_leanOf (p0 : Int32) (p1 : Int32) (m_x : Nat → Int32) (m_height : Nat → Int32) (m_foot : Nat → Int32) (m_fork : Nat → Int32) (m_told : Nat → Int32) : Int32 := flp (fs_X10_leanOf_2 (fun o0 => o0) m_x m_height m_foot m_fork m_told) (fun _ _ _ => 0) 32 p0 p1 0
set_option maxHeartbeats 200000 in
set_option maxRecDepth 10000 in
theorem dt_X10_leanOf {P Q : Int32 → Prop} {p0 : Int32} {p1 : Int32} {m_x : Nat → Int32} {m_height : Nat → Int32} {m_foot : Nat → Int32} {m_fork : Nat → Int32} {m_told : Nat → Int32} (h : wp_X10_leanOf P p0 p1 m_x m_height m_foot m_fork m_told) (hq : ∀ o : Int32, o = F_X10_leanOf p0 p1 m_x m_height m_foot m_fork m_told → P o → Q o) : wp_X10_leanOf Q p0 p1 m_x m_height m_foot m_fork m_told := by
  rw [F_X10_leanOf] at hq
  obtain ⟨n1, h⟩ := h
  exact ⟨n1, dl_X10_leanOf_2 n1 32 _ _ _ (by decide) (by decide) h (fun b0 e9 h9 => hq b0 e9 h9)⟩
theorem du_X10_leanOf {P Q : Int32 → Prop} {p0 : Int32} {p1 : Int32} {m_x : Nat → Int32} {m_height : Nat → Int32} {m_foot : Nat → Int32} {m_fork : Nat → Int32} {m_told : Nat → Int32} (h : wp_X10_leanOf P p0 p1 m_x m_height m_foot m_fork m_told) (hq : P (F_X10_leanOf p0 p1 m_x m_height m_foot m_fork m_told) → Q (F_X10_leanOf p0 p1 m_x m_height m_foot m_fork m_told)) : wp_X10_leanOf Q p0 p1 m_x m_height m_foot m_fork m_told := dt_X10_leanOf h (fun o eo => by rw [eo]; exact hq)
theorem dw_X10_leanOf {Q : Int32 → Prop} {p0 : Int32} {p1 : Int32} {m_x : Nat → Int32} {m_height : Nat → Int32} {m_foot : Nat → Int32} {m_fork : Nat → Int32} {m_told : Nat → Int32} (h : wp_X10_leanOf (fun o0 => o0 = F_X10_leanOf p0 p1 m_x m_height m_foot m_fork m_told → Q o0) p0 p1 m_x m_height m_foot m_fork m_told) : wp_X10_leanOf Q p0 p1 m_x m_height m_foot m_fork m_told := dt_X10_leanOf h (fun o eo hp => hp eo)
noncomputable def F_X10_leaned (p0 : Int32) (p1 : Int32) (m_fruits : Int32) (m_standings : Int32) (m_thrown : Int32) (m_x : Nat → Int32) (m_height : Nat → Int32) (m_foot : Nat → Int32) (m_fork : Nat → Int32) (m_told : Nat → Int32) : Int32 × Int32 := if (F_X10_isFruit p0 m_fruits) = 0 then ((-1), 0) else (if (F_X10_isStanding p1 m_standings) = 0 then ((-1), 0) else (if (F_X10_leanOf p0 p1 m_x m_height m_foot m_fork m_told) ≤ 30 then ((F_X10_leanOf p0 p1 m_x m_height m_foot m_fork m_told), 0) else ((-2), 0)))
set_option maxHeartbeats 200000 in
set_option maxRecDepth 10000 in
theorem dt_X10_leaned {P Q : Int32 → Int32 → Prop} {p0 : Int32} {p1 : Int32} {m_fruits : Int32} {m_standings : Int32} {m_thrown : Int32} {m_x : Nat → Int32} {m_height : Nat → Int32} {m_foot : Nat → Int32} {m_fork : Nat → Int32} {m_told : Nat → Int32} (h : wp_X10_leaned P p0 p1 m_fruits m_standings m_thrown m_x m_height m_foot m_fork m_told) (hq : ∀ o : Int32 × Int32, o = F_X10_leaned p0 p1 m_fruits m_standings m_thrown m_x m_height m_foot m_fork m_told → P o.1 o.2 → Q o.1 o.2) : wp_X10_leaned Q p0 p1 m_fruits m_standings m_thrown m_x m_height m_foot m_fork m_told := by
  rw [F_X10_leaned] at hq
  refine du_X10_isFruit h ?_
  intro h
  refine And.intro (fun c1 => ?_) (fun c1 => ?_)
  · have h := And.left h c1
    rw [if_pos c1] at hq
    have q9 := hq _ rfl
    dsimp only at q9
    exact q9 h
  · have h := And.right h c1
    rw [if_neg c1] at hq
    refine du_X10_isStanding h ?_
    intro h
    refine And.intro (fun c2 => ?_) (fun c2 => ?_)
    · have h := And.left h c2
      rw [if_neg c2] at hq
      refine du_X10_leanOf h ?_
      intro h
      refine And.intro (fun c3 => ?_) (fun c3 => ?_)
      · have h := And.left h c3
        rw [if_pos c3] at hq
        have q9 := hq _ rfl
        dsimp only at q9
        exact q9 h
      · have h := And.right h c3
        rw [if_neg c3] at hq
        have q9 := hq _ rfl
        dsimp only at q9
        exact q9 h
    · have h := And.right h c2
      rw [if_pos c2] at hq
      have q9 := hq _ rfl
      dsimp only at q9
      exact q9 h
theorem du_X10_leaned {P Q : Int32 → Int32 → Prop} {p0 : Int32} {p1 : Int32} {m_fruits : Int32} {m_standings : Int32} {m_thrown : Int32} {m_x : Nat → Int32} {m_height : Nat → Int32} {m_foot : Nat → Int32} {m_fork : Nat → Int32} {m_told : Nat → Int32} (h : wp_X10_leaned P p0 p1 m_fruits m_standings m_thrown m_x m_height m_foot m_fork m_told) (hq : P (F_X10_leaned p0 p1 m_fruits m_standings m_thrown m_x m_height m_foot m_fork m_told).1 (F_X10_leaned p0 p1 m_fruits m_standings m_thrown m_x m_height m_foot m_fork m_told).2 → Q (F_X10_leaned p0 p1 m_fruits m_standings m_thrown m_x m_height m_foot m_fork m_told).1 (F_X10_leaned p0 p1 m_fruits m_standings m_thrown m_x m_height m_foot m_fork m_told).2) : wp_X10_leaned Q p0 p1 m_fruits m_standings m_thrown m_x m_height m_foot m_fork m_told := dt_X10_leaned h (fun o eo => by rw [eo]; exact hq)
theorem dw_X10_leaned {Q : Int32 → Int32 → Prop} {p0 : Int32} {p1 : Int32} {m_fruits : Int32} {m_standings : Int32} {m_thrown : Int32} {m_x : Nat → Int32} {m_height : Nat → Int32} {m_foot : Nat → Int32} {m_fork : Nat → Int32} {m_told : Nat → Int32} (h : wp_X10_leaned (fun o0 o1 => (o0, o1) = F_X10_leaned p0 p1 m_fruits m_standings m_thrown m_x m_height m_foot m_fork m_told → Q o0 o1) p0 p1 m_fruits m_standings m_thrown m_x m_height m_foot m_fork m_told) : wp_X10_leaned Q p0 p1 m_fruits m_standings m_thrown m_x m_height m_foot m_fork m_told := dt_X10_leaned h (fun o eo hp => hp eo)
noncomputable def F_X6_clear (ro_size : Int32) : Int32 := 0
set_option maxHeartbeats 200000 in
set_option maxRecDepth 10000 in
theorem dt_X6_clear {P Q : Int32 → Prop} {ro_size : Int32} (h : wp_X6_clear P ro_size) (hq : ∀ o : Int32, o = F_X6_clear ro_size → P o → Q o) : wp_X6_clear Q ro_size := by
  rw [F_X6_clear] at hq
  have q9 := hq _ rfl
  exact q9 h
theorem du_X6_clear {P Q : Int32 → Prop} {ro_size : Int32} (h : wp_X6_clear P ro_size) (hq : P (F_X6_clear ro_size) → Q (F_X6_clear ro_size)) : wp_X6_clear Q ro_size := dt_X6_clear h (fun o eo => by rw [eo]; exact hq)
noncomputable def F_X6_add (p0 : Int32) (ro_size : Int32) (ro_numbers : Nat → Int32) : Int32 × (Nat → Int32) := if 16 ≤ ro_size then (ro_size, ro_numbers) else ((ro_size + 1), (upd ro_numbers ro_size.toNatClampNeg p0))
set_option maxHeartbeats 200000 in
set_option maxRecDepth 10000 in
theorem dt_X6_add {P Q : Int32 → (Nat → Int32) → Prop} {p0 : Int32} {ro_size : Int32} {ro_numbers : Nat → Int32} (h : wp_X6_add P p0 ro_size ro_numbers) (hq : ∀ o : Int32 × (Nat → Int32), o = F_X6_add p0 ro_size ro_numbers → P o.1 o.2 → Q o.1 o.2) : wp_X6_add Q p0 ro_size ro_numbers := by
  rw [F_X6_add] at hq
  refine And.intro (fun c1 => ?_) (fun c1 => ?_)
  · have h := And.left h c1
    rw [if_pos c1] at hq
    have q9 := hq _ rfl
    dsimp only at q9
    exact q9 h
  · have h := And.right h c1
    rw [if_neg c1] at hq
    refine And.intro (And.left h) ?_
    have h := And.right h
    refine ae ?_
    have h := h _ rfl
    have q9 := hq _ rfl
    dsimp only at q9
    exact q9 h
theorem du_X6_add {P Q : Int32 → (Nat → Int32) → Prop} {p0 : Int32} {ro_size : Int32} {ro_numbers : Nat → Int32} (h : wp_X6_add P p0 ro_size ro_numbers) (hq : P (F_X6_add p0 ro_size ro_numbers).1 (F_X6_add p0 ro_size ro_numbers).2 → Q (F_X6_add p0 ro_size ro_numbers).1 (F_X6_add p0 ro_size ro_numbers).2) : wp_X6_add Q p0 ro_size ro_numbers := dt_X6_add h (fun o eo => by rw [eo]; exact hq)
noncomputable def F_X9_tell (p0 : Int32) (ro_size : Int32) (ro_numbers : Nat → Int32) : Int32 × (Nat → Int32) := ((F_X6_add p0 (F_X6_clear ro_size) ro_numbers).1, (F_X6_add p0 (F_X6_clear ro_size) ro_numbers).2)
set_option maxHeartbeats 200000 in
set_option maxRecDepth 10000 in
theorem dt_X9_tell {P Q : Int32 → (Nat → Int32) → Prop} {p0 : Int32} {ro_size : Int32} {ro_numbers : Nat → Int32} (h : wp_X9_tell P p0 ro_size ro_numbers) (hq : ∀ o : Int32 × (Nat → Int32), o = F_X9_tell p0 ro_size ro_numbers → P o.1 o.2 → Q o.1 o.2) : wp_X9_tell Q p0 ro_size ro_numbers := by
  rw [F_X9_tell] at hq
  refine du_X6_clear h ?_
  intro h
  refine du_X6_add h ?_
  intro h
  have q9 := hq _ rfl
  dsimp only at q9
  exact q9 h
theorem du_X9_tell {P Q : Int32 → (Nat → Int32) → Prop} {p0 : Int32} {ro_size : Int32} {ro_numbers : Nat → Int32} (h : wp_X9_tell P p0 ro_size ro_numbers) (hq : P (F_X9_tell p0 ro_size ro_numbers).1 (F_X9_tell p0 ro_size ro_numbers).2 → Q (F_X9_tell p0 ro_size ro_numbers).1 (F_X9_tell p0 ro_size ro_numbers).2) : wp_X9_tell Q p0 ro_size ro_numbers := dt_X9_tell h (fun o eo => by rw [eo]; exact hq)
theorem dw_X9_tell {Q : Int32 → (Nat → Int32) → Prop} {p0 : Int32} {ro_size : Int32} {ro_numbers : Nat → Int32} (h : wp_X9_tell (fun o0 o1 => (o0, o1) = F_X9_tell p0 ro_size ro_numbers → Q o0 o1) p0 ro_size ro_numbers) : wp_X9_tell Q p0 ro_size ro_numbers := dt_X9_tell h (fun o eo hp => hp eo)
noncomputable def j_X9_nearest_63 {R : Type} (k22 : Int32 → Int32 → Int32 → Int32 → Int32 → (Nat → Int32) → R) (tr_fruits : Int32) (tr_standings : Int32) (tr_x : Nat → Int32) (tr_height : Nat → Int32) (tr_foot : Nat → Int32) (tr_fork : Nat → Int32) (tr_settings : Nat → Int32) (x1 : Int32) (x2 : Int32) (x3 : Int32) (x4 : Int32) (ro_size : Int32) (ro_numbers : Nat → Int32) : R := k22 x1 x2 x3 (x4 + 1) ro_size ro_numbers
noncomputable def bd_X9_nearest_22 (tr_fruits : Int32) (tr_standings : Int32) (tr_x : Nat → Int32) (tr_height : Nat → Int32) (tr_foot : Nat → Int32) (tr_fork : Nat → Int32) (tr_settings : Nat → Int32) (x1 : Int32) (ro_size : Int32) (ro_numbers : Nat → Int32) (c : Int32) (s : Int32 × Int32) : Int32 × Int32 := if (F_X3_leanNeeded x1 c tr_x tr_height tr_foot tr_fork tr_settings) < 0 then (j_X9_nearest_63 (fun q0 q1 q2 q3 q4 q5 => (q1, q2)) tr_fruits tr_standings tr_x tr_height tr_foot tr_fork tr_settings x1 s.1 s.2 c ro_size ro_numbers) else (if s.2 ≤ (F_X3_leanNeeded x1 c tr_x tr_height tr_foot tr_fork tr_settings) then (j_X9_nearest_63 (fun q0 q1 q2 q3 q4 q5 => (q1, q2)) tr_fruits tr_standings tr_x tr_height tr_foot tr_fork tr_settings x1 s.1 s.2 c ro_size ro_numbers) else (j_X9_nearest_63 (fun q0 q1 q2 q3 q4 q5 => (q1, q2)) tr_fruits tr_standings tr_x tr_height tr_foot tr_fork tr_settings x1 c (F_X3_leanNeeded x1 c tr_x tr_height tr_foot tr_fork tr_settings) c ro_size ro_numbers))
noncomputable def ex_X9_nearest_22 {R : Type} (po : Int32 → Int32 → (Nat → Int32) → R) (tr_fruits : Int32) (tr_standings : Int32) (tr_x : Nat → Int32) (tr_height : Nat → Int32) (tr_foot : Nat → Int32) (tr_fork : Nat → Int32) (tr_settings : Nat → Int32) (x1 : Int32) (ro_size : Int32) (ro_numbers : Nat → Int32) (c : Int32) (s : Int32 × Int32) : R := if s.1 < 0 then (po s.1 ro_size ro_numbers) else (po s.1 ((F_X9_tell s.2 ro_size ro_numbers).1) ((F_X9_tell s.2 ro_size ro_numbers).2))
set_option maxHeartbeats 200000 in
set_option maxRecDepth 10000 in
theorem dl_X9_nearest_22 {P Q : Int32 → Int32 → (Nat → Int32) → Prop} {tr_fruits : Int32} {tr_standings : Int32} {tr_x : Nat → Int32} {tr_height : Nat → Int32} {tr_foot : Nat → Int32} {tr_fork : Nat → Int32} {tr_settings : Nat → Int32} {x1 : Int32} {ro_size : Int32} {ro_numbers : Nat → Int32} {a : Int32 × Int32} {i : Nat} (hi0 : i < 2147483648) (hE : ∀ (c : Int32) (s : Int32 × Int32), c = nI (i + (Int32.toInt tr_standings - ((i : Nat) : Int)).toNat) → s = itr (bd_X9_nearest_22 tr_fruits tr_standings tr_x tr_height tr_foot tr_fork tr_settings x1 ro_size ro_numbers) a i (Int32.toInt tr_standings - ((i : Nat) : Int)).toNat → ((s.1 < 0 → P s.1 ro_size ro_numbers) ∧ (¬ s.1 < 0 → wp_X9_tell (fun ro_size_2 ro_numbers_3 => P s.1 ro_size_2 ro_numbers_3) s.2 ro_size ro_numbers)) → ((s.1 < 0 → Q s.1 ro_size ro_numbers) ∧ (¬ s.1 < 0 → wp_X9_tell (fun ro_size_2 ro_numbers_3 => Q s.1 ro_size_2 ro_numbers_3) s.2 ro_size ro_numbers))) : ∀ (n k : Nat) (c : Int32), c = nI (i + k) → k ≤ (Int32.toInt tr_standings - ((i : Nat) : Int)).toNat → wb_X9_nearest_22 P tr_fruits tr_standings tr_x tr_height tr_foot tr_fork tr_settings n x1 (itr (bd_X9_nearest_22 tr_fruits tr_standings tr_x tr_height tr_foot tr_fork tr_settings x1 ro_size ro_numbers) a i k).1 (itr (bd_X9_nearest_22 tr_fruits tr_standings tr_x tr_height tr_foot tr_fork tr_settings x1 ro_size ro_numbers) a i k).2 c ro_size ro_numbers → wb_X9_nearest_22 Q tr_fruits tr_standings tr_x tr_height tr_foot tr_fork tr_settings n x1 (itr (bd_X9_nearest_22 tr_fruits tr_standings tr_x tr_height tr_foot tr_fork tr_settings x1 ro_size ro_numbers) a i k).1 (itr (bd_X9_nearest_22 tr_fruits tr_standings tr_x tr_height tr_foot tr_fork tr_settings x1 ro_size ro_numbers) a i k).2 c ro_size ro_numbers := by
  intro n
  induction n with
  | zero => intro k c hc hk h; exact False.elim h
  | succ n ih =>
    intro k c hc hk h
    have hr := tp_r tr_standings
    have hi : Int32.toInt c = ((i + k : Nat) : Int) := by rw [hc]; exact nI_toInt (by omega)
    refine And.intro (fun t0 => ?_) (fun t0 => ?_)
    · have h := And.left h t0
      have t1 := (fa_le _ _).mp t0
      have hk2 : k = (Int32.toInt tr_standings - ((i : Nat) : Int)).toNat := by omega
      subst hk2
      exact hE _ _ hc rfl h
    · have h := And.right h t0
      have t1 := mt (fa_le _ _).mpr t0
      have hs : ∀ o : Int32 × Int32, o = itr (bd_X9_nearest_22 tr_fruits tr_standings tr_x tr_height tr_foot tr_fork tr_settings x1 ro_size ro_numbers) a i (k + 1) → wb_X9_nearest_22 P tr_fruits tr_standings tr_x tr_height tr_foot tr_fork tr_settings n x1 o.1 o.2 (c + 1) ro_size ro_numbers → wb_X9_nearest_22 Q tr_fruits tr_standings tr_x tr_height tr_foot tr_fork tr_settings n x1 o.1 o.2 (c + 1) ro_size ro_numbers := by
        intro o eo h9
        have q := ih (k + 1) (c + 1) (by rw [hc]; exact nI_1 _) (by omega)
        rw [← eo] at q
        exact q h9
      rw [itr_s, ← hc, bd_X9_nearest_22] at hs
      refine du_X3_leanNeeded h ?_
      intro h
      refine And.intro (fun c1 => ?_) (fun c1 => ?_)
      · have h := And.left h c1
        rw [if_pos c1] at hs
        rw [j_X9_nearest_63] at hs
        unfold ws_X9_nearest_63 at h ⊢
        refine ae ?_
        have h := h _ rfl
        have q9 := hs _ rfl
        dsimp only at q9
        exact q9 h
      · have h := And.right h c1
        rw [if_neg c1] at hs
        refine And.intro (fun c2 => ?_) (fun c2 => ?_)
        · have h := And.left h c2
          rw [if_pos c2] at hs
          rw [j_X9_nearest_63] at hs
          unfold ws_X9_nearest_63 at h ⊢
          refine ae ?_
          have h := h _ rfl
          have q9 := hs _ rfl
          dsimp only at q9
          exact q9 h
        · have h := And.right h c2
          rw [if_neg c2] at hs
          rw [j_X9_nearest_63] at hs
          unfold ws_X9_nearest_63 at h ⊢
          refine ae ?_
          have h := h _ rfl
          have q9 := hs _ rfl
          dsimp only at q9
          exact q9 h
noncomputable def F_X9_nearest (p0 : Int32) (tr_fruits : Int32) (tr_standings : Int32) (tr_x : Nat → Int32) (tr_height : Nat → Int32) (tr_foot : Nat → Int32) (tr_fork : Nat → Int32) (tr_settings : Nat → Int32) (ro_size : Int32) (ro_numbers : Nat → Int32) : Int32 × Int32 × (Nat → Int32) := if (F_X3_hasFruit p0 tr_fruits) = 0 then ((-1), ro_size, ro_numbers) else (ex_X9_nearest_22 (fun o0 o1 o2 => (o0, o1, o2)) tr_fruits tr_standings tr_x tr_height tr_foot tr_fork tr_settings p0 ro_size ro_numbers (nI (0 + (Int32.toInt tr_standings - ((0 : Nat) : Int)).toNat)) (itr (bd_X9_nearest_22 tr_fruits tr_standings tr_x tr_height tr_foot tr_fork tr_settings p0 ro_size ro_numbers) ((-2), 31) 0 (Int32.toInt tr_standings - ((0 : Nat) : Int)).toNat))
set_option maxHeartbeats 200000 in
set_option maxRecDepth 10000 in
theorem dt_X9_nearest {P Q : Int32 → Int32 → (Nat → Int32) → Prop} {p0 : Int32} {tr_fruits : Int32} {tr_standings : Int32} {tr_x : Nat → Int32} {tr_height : Nat → Int32} {tr_foot : Nat → Int32} {tr_fork : Nat → Int32} {tr_settings : Nat → Int32} {ro_size : Int32} {ro_numbers : Nat → Int32} (h : wp_X9_nearest P p0 tr_fruits tr_standings tr_x tr_height tr_foot tr_fork tr_settings ro_size ro_numbers) (hq : ∀ o : Int32 × Int32 × (Nat → Int32), o = F_X9_nearest p0 tr_fruits tr_standings tr_x tr_height tr_foot tr_fork tr_settings ro_size ro_numbers → P o.1 o.2.1 o.2.2 → Q o.1 o.2.1 o.2.2) : wp_X9_nearest Q p0 tr_fruits tr_standings tr_x tr_height tr_foot tr_fork tr_settings ro_size ro_numbers := by
  rw [F_X9_nearest] at hq
  refine du_X3_hasFruit h ?_
  intro h
  refine And.intro (fun c1 => ?_) (fun c1 => ?_)
  · have h := And.left h c1
    rw [if_neg c1] at hq
    obtain ⟨n2, h⟩ := h
    refine ⟨n2, dl_X9_nearest_22 (a := ((-2), 31)) (i := 0) (by decide) ?_ n2 0 0 (by decide) (Nat.zero_le _) h⟩
    intro cc3 s4 ec5 es6 h
    rw [← ec5, ← es6, ex_X9_nearest_22] at hq
    refine And.intro (fun c7 => ?_) (fun c7 => ?_)
    · have h := And.left h c7
      rw [if_pos c7] at hq
      have q9 := hq _ rfl
      dsimp only at q9
      exact q9 h
    · have h := And.right h c7
      rw [if_neg c7] at hq
      refine du_X9_tell h ?_
      intro h
      have q9 := hq _ rfl
      dsimp only at q9
      exact q9 h
  · have h := And.right h c1
    rw [if_pos c1] at hq
    have q9 := hq _ rfl
    dsimp only at q9
    exact q9 h
theorem du_X9_nearest {P Q : Int32 → Int32 → (Nat → Int32) → Prop} {p0 : Int32} {tr_fruits : Int32} {tr_standings : Int32} {tr_x : Nat → Int32} {tr_height : Nat → Int32} {tr_foot : Nat → Int32} {tr_fork : Nat → Int32} {tr_settings : Nat → Int32} {ro_size : Int32} {ro_numbers : Nat → Int32} (h : wp_X9_nearest P p0 tr_fruits tr_standings tr_x tr_height tr_foot tr_fork tr_settings ro_size ro_numbers) (hq : P (F_X9_nearest p0 tr_fruits tr_standings tr_x tr_height tr_foot tr_fork tr_settings ro_size ro_numbers).1 (F_X9_nearest p0 tr_fruits tr_standings tr_x tr_height tr_foot tr_fork tr_settings ro_size ro_numbers).2.1 (F_X9_nearest p0 tr_fruits tr_standings tr_x tr_height tr_foot tr_fork tr_settings ro_size ro_numbers).2.2 → Q (F_X9_nearest p0 tr_fruits tr_standings tr_x tr_height tr_foot tr_fork tr_settings ro_size ro_numbers).1 (F_X9_nearest p0 tr_fruits tr_standings tr_x tr_height tr_foot tr_fork tr_settings ro_size ro_numbers).2.1 (F_X9_nearest p0 tr_fruits tr_standings tr_x tr_height tr_foot tr_fork tr_settings ro_size ro_numbers).2.2) : wp_X9_nearest Q p0 tr_fruits tr_standings tr_x tr_height tr_foot tr_fork tr_settings ro_size ro_numbers := dt_X9_nearest h (fun o eo => by rw [eo]; exact hq)
theorem dw_X9_nearest {Q : Int32 → Int32 → (Nat → Int32) → Prop} {p0 : Int32} {tr_fruits : Int32} {tr_standings : Int32} {tr_x : Nat → Int32} {tr_height : Nat → Int32} {tr_foot : Nat → Int32} {tr_fork : Nat → Int32} {tr_settings : Nat → Int32} {ro_size : Int32} {ro_numbers : Nat → Int32} (h : wp_X9_nearest (fun o0 o1 o2 => (o0, o1, o2) = F_X9_nearest p0 tr_fruits tr_standings tr_x tr_height tr_foot tr_fork tr_settings ro_size ro_numbers → Q o0 o1 o2) p0 tr_fruits tr_standings tr_x tr_height tr_foot tr_fork tr_settings ro_size ro_numbers) : wp_X9_nearest Q p0 tr_fruits tr_standings tr_x tr_height tr_foot tr_fork tr_settings ro_size ro_numbers := dt_X9_nearest h (fun o eo hp => hp eo)
noncomputable def F_X10_tell (p0 : Int32) (m_rowMany : Int32) (m_row : Nat → Int32) : Int32 × (Nat → Int32) := ((m_rowMany + 1), (upd m_row m_rowMany.toNatClampNeg p0))
set_option maxHeartbeats 200000 in
set_option maxRecDepth 10000 in
theorem dt_X10_tell {P Q : Int32 → (Nat → Int32) → Prop} {p0 : Int32} {m_rowMany : Int32} {m_row : Nat → Int32} (h : wp_X10_tell P p0 m_rowMany m_row) (hq : ∀ o : Int32 × (Nat → Int32), o = F_X10_tell p0 m_rowMany m_row → P o.1 o.2 → Q o.1 o.2) : wp_X10_tell Q p0 m_rowMany m_row := by
  rw [F_X10_tell] at hq
  refine And.intro (And.left h) ?_
  have h := And.right h
  refine ae ?_
  have h := h _ rfl
  have q9 := hq _ rfl
  dsimp only at q9
  exact q9 h
theorem du_X10_tell {P Q : Int32 → (Nat → Int32) → Prop} {p0 : Int32} {m_rowMany : Int32} {m_row : Nat → Int32} (h : wp_X10_tell P p0 m_rowMany m_row) (hq : P (F_X10_tell p0 m_rowMany m_row).1 (F_X10_tell p0 m_rowMany m_row).2 → Q (F_X10_tell p0 m_rowMany m_row).1 (F_X10_tell p0 m_rowMany m_row).2) : wp_X10_tell Q p0 m_rowMany m_row := dt_X10_tell h (fun o eo => by rw [eo]; exact hq)
theorem dw_X10_tell {Q : Int32 → (Nat → Int32) → Prop} {p0 : Int32} {m_rowMany : Int32} {m_row : Nat → Int32} (h : wp_X10_tell (fun o0 o1 => (o0, o1) = F_X10_tell p0 m_rowMany m_row → Q o0 o1) p0 m_rowMany m_row) : wp_X10_tell Q p0 m_rowMany m_row := dt_X10_tell h (fun o eo hp => hp eo)
noncomputable def j_X10_nearest_60 {R : Type} (k20 : Int32 → Int32 → Int32 → Int32 → Int32 → (Nat → Int32) → R) (m_fruits : Int32) (m_standings : Int32) (m_x : Nat → Int32) (m_height : Nat → Int32) (m_foot : Nat → Int32) (m_fork : Nat → Int32) (m_told : Nat → Int32) (x1 : Int32) (x2 : Int32) (x3 : Int32) (m_rowMany : Int32) (m_thrown : Int32) (m_row : Nat → Int32) : R := k20 x1 x2 (x3 + 1) m_rowMany m_thrown m_row
noncomputable def j_X10_nearest_58 {R : Type} (k20 : Int32 → Int32 → Int32 → Int32 → Int32 → (Nat → Int32) → R) (m_fruits : Int32) (m_standings : Int32) (m_x : Nat → Int32) (m_height : Nat → Int32) (m_foot : Nat → Int32) (m_fork : Nat → Int32) (m_told : Nat → Int32) (x1 : Int32) (x3 : Int32) (m_rowMany : Int32) (m_thrown : Int32) (m_row : Nat → Int32) : R := j_X10_nearest_60 k20 m_fruits m_standings m_x m_height m_foot m_fork m_told x1 x3 x3 m_rowMany m_thrown m_row
noncomputable def bd_X10_nearest_20 (m_fruits : Int32) (m_standings : Int32) (m_x : Nat → Int32) (m_height : Nat → Int32) (m_foot : Nat → Int32) (m_fork : Nat → Int32) (m_told : Nat → Int32) (x1 : Int32) (m_rowMany : Int32) (m_thrown : Int32) (m_row : Nat → Int32) (c : Int32) (s : Int32) : Int32 := if 30 < (F_X10_leanOf x1 c m_x m_height m_foot m_fork m_told) then (j_X10_nearest_60 (fun q0 q1 q2 q3 q4 q5 => q1) m_fruits m_standings m_x m_height m_foot m_fork m_told x1 s c m_rowMany m_thrown m_row) else (if s < 0 then (j_X10_nearest_58 (fun q0 q1 q2 q3 q4 q5 => q1) m_fruits m_standings m_x m_height m_foot m_fork m_told x1 c m_rowMany m_thrown m_row) else (if (F_X10_leanOf x1 s m_x m_height m_foot m_fork m_told) ≤ (F_X10_leanOf x1 c m_x m_height m_foot m_fork m_told) then (j_X10_nearest_60 (fun q0 q1 q2 q3 q4 q5 => q1) m_fruits m_standings m_x m_height m_foot m_fork m_told x1 s c m_rowMany m_thrown m_row) else (j_X10_nearest_58 (fun q0 q1 q2 q3 q4 q5 => q1) m_fruits m_standings m_x m_height m_foot m_fork m_told x1 c m_rowMany m_thrown m_row)))
noncomputable def ex_X10_nearest_20 {R : Type} (po : Int32 → Int32 → Int32 → (Nat → Int32) → R) (m_fruits : Int32) (m_standings : Int32) (m_x : Nat → Int32) (m_height : Nat → Int32) (m_foot : Nat → Int32) (m_fork : Nat → Int32) (m_told : Nat → Int32) (x1 : Int32) (m_rowMany : Int32) (m_thrown : Int32) (m_row : Nat → Int32) (c : Int32) (s : Int32) : R := if 0 ≤ s then (po s ((F_X10_tell (F_X10_leanOf x1 s m_x m_height m_foot m_fork m_told) 0 m_row).1) m_thrown ((F_X10_tell (F_X10_leanOf x1 s m_x m_height m_foot m_fork m_told) 0 m_row).2)) else (po (-2) m_rowMany m_thrown m_row)
set_option maxHeartbeats 200000 in
set_option maxRecDepth 10000 in
theorem dl_X10_nearest_20 {P Q : Int32 → Int32 → Int32 → (Nat → Int32) → Prop} {m_fruits : Int32} {m_standings : Int32} {m_x : Nat → Int32} {m_height : Nat → Int32} {m_foot : Nat → Int32} {m_fork : Nat → Int32} {m_told : Nat → Int32} {x1 : Int32} {m_rowMany : Int32} {m_thrown : Int32} {m_row : Nat → Int32} {a : Int32} {i : Nat} (hi0 : i < 2147483648) (hE : ∀ (c : Int32) (s : Int32), c = nI (i + (Int32.toInt m_standings - ((i : Nat) : Int)).toNat) → s = itr (bd_X10_nearest_20 m_fruits m_standings m_x m_height m_foot m_fork m_told x1 m_rowMany m_thrown m_row) a i (Int32.toInt m_standings - ((i : Nat) : Int)).toNat → ((0 ≤ s → wp_X10_leanOf (fun r_2 => wp_X10_tell (fun m_rowMany_3 m_row_4 => P s m_rowMany_3 m_thrown m_row_4) r_2 0 m_row) x1 s m_x m_height m_foot m_fork m_told) ∧ (¬ 0 ≤ s → P (-2) m_rowMany m_thrown m_row)) → ((0 ≤ s → wp_X10_leanOf (fun r_2 => wp_X10_tell (fun m_rowMany_3 m_row_4 => Q s m_rowMany_3 m_thrown m_row_4) r_2 0 m_row) x1 s m_x m_height m_foot m_fork m_told) ∧ (¬ 0 ≤ s → Q (-2) m_rowMany m_thrown m_row))) : ∀ (n k : Nat) (c : Int32), c = nI (i + k) → k ≤ (Int32.toInt m_standings - ((i : Nat) : Int)).toNat → wb_X10_nearest_20 P m_fruits m_standings m_x m_height m_foot m_fork m_told n x1 (itr (bd_X10_nearest_20 m_fruits m_standings m_x m_height m_foot m_fork m_told x1 m_rowMany m_thrown m_row) a i k) c m_rowMany m_thrown m_row → wb_X10_nearest_20 Q m_fruits m_standings m_x m_height m_foot m_fork m_told n x1 (itr (bd_X10_nearest_20 m_fruits m_standings m_x m_height m_foot m_fork m_told x1 m_rowMany m_thrown m_row) a i k) c m_rowMany m_thrown m_row := by
  intro n
  induction n with
  | zero => intro k c hc hk h; exact False.elim h
  | succ n ih =>
    intro k c hc hk h
    have hr := tp_r m_standings
    have hi : Int32.toInt c = ((i + k : Nat) : Int) := by rw [hc]; exact nI_toInt (by omega)
    refine And.intro (fun t0 => ?_) (fun t0 => ?_)
    · have h := And.left h t0
      have t1 := (fa_le _ _).mp t0
      have hk2 : k = (Int32.toInt m_standings - ((i : Nat) : Int)).toNat := by omega
      subst hk2
      exact hE _ _ hc rfl h
    · have h := And.right h t0
      have t1 := mt (fa_le _ _).mpr t0
      have hs : ∀ o : Int32, o = itr (bd_X10_nearest_20 m_fruits m_standings m_x m_height m_foot m_fork m_told x1 m_rowMany m_thrown m_row) a i (k + 1) → wb_X10_nearest_20 P m_fruits m_standings m_x m_height m_foot m_fork m_told n x1 o (c + 1) m_rowMany m_thrown m_row → wb_X10_nearest_20 Q m_fruits m_standings m_x m_height m_foot m_fork m_told n x1 o (c + 1) m_rowMany m_thrown m_row := by
        intro o eo h9
        have q := ih (k + 1) (c + 1) (by rw [hc]; exact nI_1 _) (by omega)
        rw [← eo] at q
        exact q h9
      rw [itr_s, ← hc, bd_X10_nearest_20] at hs
      refine du_X10_leanOf h ?_
      intro h
      refine And.intro (fun c1 => ?_) (fun c1 => ?_)
      · have h := And.left h c1
        rw [if_pos c1] at hs
        rw [j_X10_nearest_60] at hs
        unfold ws_X10_nearest_60 at h ⊢
        refine ae ?_
        have h := h _ rfl
        have q9 := hs _ rfl
        exact q9 h
      · have h := And.right h c1
        rw [if_neg c1] at hs
        refine And.intro (fun c2 => ?_) (fun c2 => ?_)
        · have h := And.left h c2
          rw [if_pos c2] at hs
          rw [j_X10_nearest_58] at hs
          unfold ws_X10_nearest_58 at h ⊢
          rw [j_X10_nearest_60] at hs
          unfold ws_X10_nearest_60 at h ⊢
          refine ae ?_
          have h := h _ rfl
          have q9 := hs _ rfl
          exact q9 h
        · have h := And.right h c2
          rw [if_neg c2] at hs
          refine du_X10_leanOf h ?_
          intro h
          refine du_X10_leanOf h ?_
          intro h
          refine And.intro (fun c3 => ?_) (fun c3 => ?_)
          · have h := And.left h c3
            rw [if_pos c3] at hs
            rw [j_X10_nearest_60] at hs
            unfold ws_X10_nearest_60 at h ⊢
            refine ae ?_
            have h := h _ rfl
            have q9 := hs _ rfl
            exact q9 h
          · have h := And.right h c3
            rw [if_neg c3] at hs
            rw [j_X10_nearest_58] at hs
            unfold ws_X10_nearest_58 at h ⊢
            rw [j_X10_nearest_60] at hs
            unfold ws_X10_nearest_60 at h ⊢
            refine ae ?_
            have h := h _ rfl
            have q9 := hs _ rfl
            exact q9 h
noncomputable def F_X10_nearest (p0 : Int32) (m_fruits : Int32) (m_standings : Int32) (m_rowMany : Int32) (m_thrown : Int32) (m_x : Nat → Int32) (m_height : Nat → Int32) (m_foot : Nat → Int32) (m_fork : Nat → Int32) (m_told : Nat → Int32) (m_row : Nat → Int32) : Int32 × Int32 × Int32 × (Nat → Int32) := if (F_X10_isFruit p0 m_fruits) = 0 then ((-1), m_rowMany, 0, m_row) else (ex_X10_nearest_20 (fun o0 o1 o2 o3 => (o0, o1, o2, o3)) m_fruits m_standings m_x m_height m_foot m_fork m_told p0 m_rowMany 0 m_row (nI (0 + (Int32.toInt m_standings - ((0 : Nat) : Int)).toNat)) (itr (bd_X10_nearest_20 m_fruits m_standings m_x m_height m_foot m_fork m_told p0 m_rowMany 0 m_row) (-2) 0 (Int32.toInt m_standings - ((0 : Nat) : Int)).toNat))
set_option maxHeartbeats 200000 in
set_option maxRecDepth 10000 in
theorem dt_X10_nearest {P Q : Int32 → Int32 → Int32 → (Nat → Int32) → Prop} {p0 : Int32} {m_fruits : Int32} {m_standings : Int32} {m_rowMany : Int32} {m_thrown : Int32} {m_x : Nat → Int32} {m_height : Nat → Int32} {m_foot : Nat → Int32} {m_fork : Nat → Int32} {m_told : Nat → Int32} {m_row : Nat → Int32} (h : wp_X10_nearest P p0 m_fruits m_standings m_rowMany m_thrown m_x m_height m_foot m_fork m_told m_row) (hq : ∀ o : Int32 × Int32 × Int32 × (Nat → Int32), o = F_X10_nearest p0 m_fruits m_standings m_rowMany m_thrown m_x m_height m_foot m_fork m_told m_row → P o.1 o.2.1 o.2.2.1 o.2.2.2 → Q o.1 o.2.1 o.2.2.1 o.2.2.2) : wp_X10_nearest Q p0 m_fruits m_standings m_rowMany m_thrown m_x m_height m_foot m_fork m_told m_row := by
  rw [F_X10_nearest] at hq
  refine du_X10_isFruit h ?_
  intro h
  refine And.intro (fun c1 => ?_) (fun c1 => ?_)
  · have h := And.left h c1
    rw [if_neg c1] at hq
    obtain ⟨n2, h⟩ := h
    refine ⟨n2, dl_X10_nearest_20 (a := (-2)) (i := 0) (by decide) ?_ n2 0 0 (by decide) (Nat.zero_le _) h⟩
    intro cc3 s4 ec5 es6 h
    rw [← ec5, ← es6, ex_X10_nearest_20] at hq
    refine And.intro (fun c7 => ?_) (fun c7 => ?_)
    · have h := And.left h c7
      rw [if_pos c7] at hq
      refine du_X10_leanOf h ?_
      intro h
      refine du_X10_tell h ?_
      intro h
      have q9 := hq _ rfl
      dsimp only at q9
      exact q9 h
    · have h := And.right h c7
      rw [if_neg c7] at hq
      have q9 := hq _ rfl
      dsimp only at q9
      exact q9 h
  · have h := And.right h c1
    rw [if_pos c1] at hq
    have q9 := hq _ rfl
    dsimp only at q9
    exact q9 h
theorem du_X10_nearest {P Q : Int32 → Int32 → Int32 → (Nat → Int32) → Prop} {p0 : Int32} {m_fruits : Int32} {m_standings : Int32} {m_rowMany : Int32} {m_thrown : Int32} {m_x : Nat → Int32} {m_height : Nat → Int32} {m_foot : Nat → Int32} {m_fork : Nat → Int32} {m_told : Nat → Int32} {m_row : Nat → Int32} (h : wp_X10_nearest P p0 m_fruits m_standings m_rowMany m_thrown m_x m_height m_foot m_fork m_told m_row) (hq : P (F_X10_nearest p0 m_fruits m_standings m_rowMany m_thrown m_x m_height m_foot m_fork m_told m_row).1 (F_X10_nearest p0 m_fruits m_standings m_rowMany m_thrown m_x m_height m_foot m_fork m_told m_row).2.1 (F_X10_nearest p0 m_fruits m_standings m_rowMany m_thrown m_x m_height m_foot m_fork m_told m_row).2.2.1 (F_X10_nearest p0 m_fruits m_standings m_rowMany m_thrown m_x m_height m_foot m_fork m_told m_row).2.2.2 → Q (F_X10_nearest p0 m_fruits m_standings m_rowMany m_thrown m_x m_height m_foot m_fork m_told m_row).1 (F_X10_nearest p0 m_fruits m_standings m_rowMany m_thrown m_x m_height m_foot m_fork m_told m_row).2.1 (F_X10_nearest p0 m_fruits m_standings m_rowMany m_thrown m_x m_height m_foot m_fork m_told m_row).2.2.1 (F_X10_nearest p0 m_fruits m_standings m_rowMany m_thrown m_x m_height m_foot m_fork m_told m_row).2.2.2) : wp_X10_nearest Q p0 m_fruits m_standings m_rowMany m_thrown m_x m_height m_foot m_fork m_told m_row := dt_X10_nearest h (fun o eo => by rw [eo]; exact hq)
theorem dw_X10_nearest {Q : Int32 → Int32 → Int32 → (Nat → Int32) → Prop} {p0 : Int32} {m_fruits : Int32} {m_standings : Int32} {m_rowMany : Int32} {m_thrown : Int32} {m_x : Nat → Int32} {m_height : Nat → Int32} {m_foot : Nat → Int32} {m_fork : Nat → Int32} {m_told : Nat → Int32} {m_row : Nat → Int32} (h : wp_X10_nearest (fun o0 o1 o2 o3 => (o0, o1, o2, o3) = F_X10_nearest p0 m_fruits m_standings m_rowMany m_thrown m_x m_height m_foot m_fork m_told m_row → Q o0 o1 o2 o3) p0 m_fruits m_standings m_rowMany m_thrown m_x m_height m_foot m_fork m_told m_row) : wp_X10_nearest Q p0 m_fruits m_standings m_rowMany m_thrown m_x m_height m_foot m_fork m_told m_row := dt_X10_nearest h (fun o eo hp => hp eo)
noncomputable def F_X3_reach (p0 : Int32) (p1 : Int32) (tr_settings : Nat → Int32) : Int32 := (((tr_settings (0 : Int32).toNatClampNeg) + (p0 * (tr_settings (1 : Int32).toNatClampNeg))) + (p1 * (tr_settings (2 : Int32).toNatClampNeg)))
set_option maxHeartbeats 200000 in
set_option maxRecDepth 10000 in
theorem dt_X3_reach {P Q : Int32 → Prop} {p0 : Int32} {p1 : Int32} {tr_settings : Nat → Int32} (h : wp_X3_reach P p0 p1 tr_settings) (hq : ∀ o : Int32, o = F_X3_reach p0 p1 tr_settings → P o → Q o) : wp_X3_reach Q p0 p1 tr_settings := by
  rw [F_X3_reach] at hq
  refine ae ?_
  have h := h _ rfl
  refine ae ?_
  have h := h _ rfl
  have q9 := hq _ rfl
  exact q9 h
theorem du_X3_reach {P Q : Int32 → Prop} {p0 : Int32} {p1 : Int32} {tr_settings : Nat → Int32} (h : wp_X3_reach P p0 p1 tr_settings) (hq : P (F_X3_reach p0 p1 tr_settings) → Q (F_X3_reach p0 p1 tr_settings)) : wp_X3_reach Q p0 p1 tr_settings := dt_X3_reach h (fun o eo => by rw [eo]; exact hq)
noncomputable def j_X3_within_32 {R : Type} (k5 : Int32 → Int32 → Int32 → Int32 → R) (tr_fruits : Int32) (tr_x : Nat → Int32) (tr_height : Nat → Int32) (tr_foot : Nat → Int32) (tr_fork : Nat → Int32) (x1 : Int32) (x2 : Int32) (x3 : Int32) (x4 : Int32) : R := k5 x1 x2 x3 (x4 + 1)
noncomputable def bd_X3_within_5 (tr_fruits : Int32) (tr_x : Nat → Int32) (tr_height : Nat → Int32) (tr_foot : Nat → Int32) (tr_fork : Nat → Int32) (x1 : Int32) (x2 : Int32) (c : Int32) (s : Int32) : Int32 := if (F_X3_isWithin c x1 x2 tr_x tr_height tr_foot tr_fork) = 0 then (j_X3_within_32 (fun q0 q1 q2 q3 => q2) tr_fruits tr_x tr_height tr_foot tr_fork x1 x2 s c) else (j_X3_within_32 (fun q0 q1 q2 q3 => q2) tr_fruits tr_x tr_height tr_foot tr_fork x1 x2 (s ||| (1 <<< (c &&& 31))) c)
noncomputable def ex_X3_within_5 {R : Type} (po : Int32 → R) (tr_fruits : Int32) (tr_x : Nat → Int32) (tr_height : Nat → Int32) (tr_foot : Nat → Int32) (tr_fork : Nat → Int32) (x1 : Int32) (x2 : Int32) (c : Int32) (s : Int32) : R := po s
set_option maxHeartbeats 200000 in
set_option maxRecDepth 10000 in
theorem dl_X3_within_5 {P Q : Int32 → Prop} {tr_fruits : Int32} {tr_x : Nat → Int32} {tr_height : Nat → Int32} {tr_foot : Nat → Int32} {tr_fork : Nat → Int32} {x1 : Int32} {x2 : Int32} {a : Int32} {i : Nat} (hi0 : i < 2147483648) (hE : ∀ (c : Int32) (s : Int32), c = nI (i + (Int32.toInt tr_fruits - ((i : Nat) : Int)).toNat) → s = itr (bd_X3_within_5 tr_fruits tr_x tr_height tr_foot tr_fork x1 x2) a i (Int32.toInt tr_fruits - ((i : Nat) : Int)).toNat → (P s) → (Q s)) : ∀ (n k : Nat) (c : Int32), c = nI (i + k) → k ≤ (Int32.toInt tr_fruits - ((i : Nat) : Int)).toNat → wb_X3_within_5 P tr_fruits tr_x tr_height tr_foot tr_fork n x1 x2 (itr (bd_X3_within_5 tr_fruits tr_x tr_height tr_foot tr_fork x1 x2) a i k) c → wb_X3_within_5 Q tr_fruits tr_x tr_height tr_foot tr_fork n x1 x2 (itr (bd_X3_within_5 tr_fruits tr_x tr_height tr_foot tr_fork x1 x2) a i k) c := by
  intro n
  induction n with
  | zero => intro k c hc hk h; exact False.elim h
  | succ n ih =>
    intro k c hc hk h
    have hr := tp_r tr_fruits
    have hi : Int32.toInt c = ((i + k : Nat) : Int) := by rw [hc]; exact nI_toInt (by omega)
    refine And.intro (fun t0 => ?_) (fun t0 => ?_)
    · have h := And.left h t0
      have t1 := (fa_le _ _).mp t0
      have hk2 : k = (Int32.toInt tr_fruits - ((i : Nat) : Int)).toNat := by omega
      subst hk2
      exact hE _ _ hc rfl h
    · have h := And.right h t0
      have t1 := mt (fa_le _ _).mpr t0
      have hs : ∀ o : Int32, o = itr (bd_X3_within_5 tr_fruits tr_x tr_height tr_foot tr_fork x1 x2) a i (k + 1) → wb_X3_within_5 P tr_fruits tr_x tr_height tr_foot tr_fork n x1 x2 o (c + 1) → wb_X3_within_5 Q tr_fruits tr_x tr_height tr_foot tr_fork n x1 x2 o (c + 1) := by
        intro o eo h9
        have q := ih (k + 1) (c + 1) (by rw [hc]; exact nI_1 _) (by omega)
        rw [← eo] at q
        exact q h9
      rw [itr_s, ← hc, bd_X3_within_5] at hs
      refine du_X3_isWithin h ?_
      intro h
      refine And.intro (fun c1 => ?_) (fun c1 => ?_)
      · have h := And.left h c1
        rw [if_pos c1] at hs
        rw [j_X3_within_32] at hs
        unfold ws_X3_within_32 at h ⊢
        refine ae ?_
        have h := h _ rfl
        have q9 := hs _ rfl
        exact q9 h
      · have h := And.right h c1
        rw [if_neg c1] at hs
        refine ae ?_
        have h := h _ rfl
        rw [j_X3_within_32] at hs
        unfold ws_X3_within_32 at h ⊢
        refine ae ?_
        have h := h _ rfl
        have q9 := hs _ rfl
        exact q9 h
noncomputable def F_X3_within (p0 : Int32) (p1 : Int32) (tr_fruits : Int32) (tr_x : Nat → Int32) (tr_height : Nat → Int32) (tr_foot : Nat → Int32) (tr_fork : Nat → Int32) : Int32 := ex_X3_within_5 (fun o0 => o0) tr_fruits tr_x tr_height tr_foot tr_fork p0 p1 (nI (0 + (Int32.toInt tr_fruits - ((0 : Nat) : Int)).toNat)) (itr (bd_X3_within_5 tr_fruits tr_x tr_height tr_foot tr_fork p0 p1) 0 0 (Int32.toInt tr_fruits - ((0 : Nat) : Int)).toNat)
set_option maxHeartbeats 200000 in
set_option maxRecDepth 10000 in
theorem dt_X3_within {P Q : Int32 → Prop} {p0 : Int32} {p1 : Int32} {tr_fruits : Int32} {tr_x : Nat → Int32} {tr_height : Nat → Int32} {tr_foot : Nat → Int32} {tr_fork : Nat → Int32} (h : wp_X3_within P p0 p1 tr_fruits tr_x tr_height tr_foot tr_fork) (hq : ∀ o : Int32, o = F_X3_within p0 p1 tr_fruits tr_x tr_height tr_foot tr_fork → P o → Q o) : wp_X3_within Q p0 p1 tr_fruits tr_x tr_height tr_foot tr_fork := by
  rw [F_X3_within] at hq
  obtain ⟨n1, h⟩ := h
  refine ⟨n1, dl_X3_within_5 (a := 0) (i := 0) (by decide) ?_ n1 0 0 (by decide) (Nat.zero_le _) h⟩
  intro cc2 s3 ec4 es5 h
  rw [← ec4, ← es5, ex_X3_within_5] at hq
  have q9 := hq _ rfl
  exact q9 h
theorem du_X3_within {P Q : Int32 → Prop} {p0 : Int32} {p1 : Int32} {tr_fruits : Int32} {tr_x : Nat → Int32} {tr_height : Nat → Int32} {tr_foot : Nat → Int32} {tr_fork : Nat → Int32} (h : wp_X3_within P p0 p1 tr_fruits tr_x tr_height tr_foot tr_fork) (hq : P (F_X3_within p0 p1 tr_fruits tr_x tr_height tr_foot tr_fork) → Q (F_X3_within p0 p1 tr_fruits tr_x tr_height tr_foot tr_fork)) : wp_X3_within Q p0 p1 tr_fruits tr_x tr_height tr_foot tr_fork := dt_X3_within h (fun o eo => by rw [eo]; exact hq)
noncomputable def F_X9_tell_ (p0 : Int32) (p1 : Int32) (ro_size : Int32) (ro_numbers : Nat → Int32) : Int32 × (Nat → Int32) := ((F_X6_add p1 (F_X9_tell p0 ro_size ro_numbers).1 (F_X9_tell p0 ro_size ro_numbers).2).1, (F_X6_add p1 (F_X9_tell p0 ro_size ro_numbers).1 (F_X9_tell p0 ro_size ro_numbers).2).2)
set_option maxHeartbeats 200000 in
set_option maxRecDepth 10000 in
theorem dt_X9_tell_ {P Q : Int32 → (Nat → Int32) → Prop} {p0 : Int32} {p1 : Int32} {ro_size : Int32} {ro_numbers : Nat → Int32} (h : wp_X9_tell_ P p0 p1 ro_size ro_numbers) (hq : ∀ o : Int32 × (Nat → Int32), o = F_X9_tell_ p0 p1 ro_size ro_numbers → P o.1 o.2 → Q o.1 o.2) : wp_X9_tell_ Q p0 p1 ro_size ro_numbers := by
  rw [F_X9_tell_] at hq
  refine du_X9_tell h ?_
  intro h
  refine du_X6_add h ?_
  intro h
  have q9 := hq _ rfl
  dsimp only at q9
  exact q9 h
theorem du_X9_tell_ {P Q : Int32 → (Nat → Int32) → Prop} {p0 : Int32} {p1 : Int32} {ro_size : Int32} {ro_numbers : Nat → Int32} (h : wp_X9_tell_ P p0 p1 ro_size ro_numbers) (hq : P (F_X9_tell_ p0 p1 ro_size ro_numbers).1 (F_X9_tell_ p0 p1 ro_size ro_numbers).2 → Q (F_X9_tell_ p0 p1 ro_size ro_numbers).1 (F_X9_tell_ p0 p1 ro_size ro_numbers).2) : wp_X9_tell_ Q p0 p1 ro_size ro_numbers := dt_X9_tell_ h (fun o eo => by rw [eo]; exact hq)
theorem dw_X9_tell_ {Q : Int32 → (Nat → Int32) → Prop} {p0 : Int32} {p1 : Int32} {ro_size : Int32} {ro_numbers : Nat → Int32} (h : wp_X9_tell_ (fun o0 o1 => (o0, o1) = F_X9_tell_ p0 p1 ro_size ro_numbers → Q o0 o1) p0 p1 ro_size ro_numbers) : wp_X9_tell_ Q p0 p1 ro_size ro_numbers := dt_X9_tell_ h (fun o eo hp => hp eo)
noncomputable def F_X9_reached (p0 : Int32) (tr_fruits : Int32) (tr_standings : Int32) (tr_x : Nat → Int32) (tr_height : Nat → Int32) (tr_foot : Nat → Int32) (tr_fork : Nat → Int32) (tr_settings : Nat → Int32) (ro_size : Int32) (ro_numbers : Nat → Int32) : Int32 × Int32 × (Nat → Int32) := if (F_X3_hasStanding p0 tr_standings) = 0 then ((-1), ro_size, ro_numbers) else ((F_X3_within p0 (F_X3_reach 0 0 tr_settings) tr_fruits tr_x tr_height tr_foot tr_fork), (F_X9_tell_ (F_X3_within p0 (F_X3_reach 1 0 tr_settings) tr_fruits tr_x tr_height tr_foot tr_fork) (F_X3_within p0 (F_X3_reach 1 1 tr_settings) tr_fruits tr_x tr_height tr_foot tr_fork) ro_size ro_numbers).1, (F_X9_tell_ (F_X3_within p0 (F_X3_reach 1 0 tr_settings) tr_fruits tr_x tr_height tr_foot tr_fork) (F_X3_within p0 (F_X3_reach 1 1 tr_settings) tr_fruits tr_x tr_height tr_foot tr_fork) ro_size ro_numbers).2)
set_option maxHeartbeats 200000 in
set_option maxRecDepth 10000 in
theorem dt_X9_reached {P Q : Int32 → Int32 → (Nat → Int32) → Prop} {p0 : Int32} {tr_fruits : Int32} {tr_standings : Int32} {tr_x : Nat → Int32} {tr_height : Nat → Int32} {tr_foot : Nat → Int32} {tr_fork : Nat → Int32} {tr_settings : Nat → Int32} {ro_size : Int32} {ro_numbers : Nat → Int32} (h : wp_X9_reached P p0 tr_fruits tr_standings tr_x tr_height tr_foot tr_fork tr_settings ro_size ro_numbers) (hq : ∀ o : Int32 × Int32 × (Nat → Int32), o = F_X9_reached p0 tr_fruits tr_standings tr_x tr_height tr_foot tr_fork tr_settings ro_size ro_numbers → P o.1 o.2.1 o.2.2 → Q o.1 o.2.1 o.2.2) : wp_X9_reached Q p0 tr_fruits tr_standings tr_x tr_height tr_foot tr_fork tr_settings ro_size ro_numbers := by
  rw [F_X9_reached] at hq
  refine du_X3_hasStanding h ?_
  intro h
  refine And.intro (fun c1 => ?_) (fun c1 => ?_)
  · have h := And.left h c1
    rw [if_neg c1] at hq
    refine du_X3_reach h ?_
    intro h
    refine du_X3_within h ?_
    intro h
    refine du_X3_reach h ?_
    intro h
    refine du_X3_within h ?_
    intro h
    refine du_X9_tell_ h ?_
    intro h
    refine du_X3_reach h ?_
    intro h
    refine du_X3_within h ?_
    intro h
    have q9 := hq _ rfl
    dsimp only at q9
    exact q9 h
  · have h := And.right h c1
    rw [if_pos c1] at hq
    have q9 := hq _ rfl
    dsimp only at q9
    exact q9 h
theorem du_X9_reached {P Q : Int32 → Int32 → (Nat → Int32) → Prop} {p0 : Int32} {tr_fruits : Int32} {tr_standings : Int32} {tr_x : Nat → Int32} {tr_height : Nat → Int32} {tr_foot : Nat → Int32} {tr_fork : Nat → Int32} {tr_settings : Nat → Int32} {ro_size : Int32} {ro_numbers : Nat → Int32} (h : wp_X9_reached P p0 tr_fruits tr_standings tr_x tr_height tr_foot tr_fork tr_settings ro_size ro_numbers) (hq : P (F_X9_reached p0 tr_fruits tr_standings tr_x tr_height tr_foot tr_fork tr_settings ro_size ro_numbers).1 (F_X9_reached p0 tr_fruits tr_standings tr_x tr_height tr_foot tr_fork tr_settings ro_size ro_numbers).2.1 (F_X9_reached p0 tr_fruits tr_standings tr_x tr_height tr_foot tr_fork tr_settings ro_size ro_numbers).2.2 → Q (F_X9_reached p0 tr_fruits tr_standings tr_x tr_height tr_foot tr_fork tr_settings ro_size ro_numbers).1 (F_X9_reached p0 tr_fruits tr_standings tr_x tr_height tr_foot tr_fork tr_settings ro_size ro_numbers).2.1 (F_X9_reached p0 tr_fruits tr_standings tr_x tr_height tr_foot tr_fork tr_settings ro_size ro_numbers).2.2) : wp_X9_reached Q p0 tr_fruits tr_standings tr_x tr_height tr_foot tr_fork tr_settings ro_size ro_numbers := dt_X9_reached h (fun o eo => by rw [eo]; exact hq)
theorem dw_X9_reached {Q : Int32 → Int32 → (Nat → Int32) → Prop} {p0 : Int32} {tr_fruits : Int32} {tr_standings : Int32} {tr_x : Nat → Int32} {tr_height : Nat → Int32} {tr_foot : Nat → Int32} {tr_fork : Nat → Int32} {tr_settings : Nat → Int32} {ro_size : Int32} {ro_numbers : Nat → Int32} (h : wp_X9_reached (fun o0 o1 o2 => (o0, o1, o2) = F_X9_reached p0 tr_fruits tr_standings tr_x tr_height tr_foot tr_fork tr_settings ro_size ro_numbers → Q o0 o1 o2) p0 tr_fruits tr_standings tr_x tr_height tr_foot tr_fork tr_settings ro_size ro_numbers) : wp_X9_reached Q p0 tr_fruits tr_standings tr_x tr_height tr_foot tr_fork tr_settings ro_size ro_numbers := dt_X9_reached h (fun o eo hp => hp eo)
noncomputable def F_X10_reachBy (p0 : Int32) (p1 : Int32) (m_told : Nat → Int32) : Int32 := (((m_told (0 : Int32).toNatClampNeg) + (p0 * (m_told (1 : Int32).toNatClampNeg))) + (p1 * (m_told (2 : Int32).toNatClampNeg)))
set_option maxHeartbeats 200000 in
set_option maxRecDepth 10000 in
theorem dt_X10_reachBy {P Q : Int32 → Prop} {p0 : Int32} {p1 : Int32} {m_told : Nat → Int32} (h : wp_X10_reachBy P p0 p1 m_told) (hq : ∀ o : Int32, o = F_X10_reachBy p0 p1 m_told → P o → Q o) : wp_X10_reachBy Q p0 p1 m_told := by
  rw [F_X10_reachBy] at hq
  refine ae ?_
  have h := h _ rfl
  refine ae ?_
  have h := h _ rfl
  have q9 := hq _ rfl
  exact q9 h
theorem du_X10_reachBy {P Q : Int32 → Prop} {p0 : Int32} {p1 : Int32} {m_told : Nat → Int32} (h : wp_X10_reachBy P p0 p1 m_told) (hq : P (F_X10_reachBy p0 p1 m_told) → Q (F_X10_reachBy p0 p1 m_told)) : wp_X10_reachBy Q p0 p1 m_told := dt_X10_reachBy h (fun o eo => by rw [eo]; exact hq)
theorem dw_X10_reachBy {Q : Int32 → Prop} {p0 : Int32} {p1 : Int32} {m_told : Nat → Int32} (h : wp_X10_reachBy (fun o0 => o0 = F_X10_reachBy p0 p1 m_told → Q o0) p0 p1 m_told) : wp_X10_reachBy Q p0 p1 m_told := dt_X10_reachBy h (fun o eo hp => hp eo)
noncomputable def j_X10_reachedFrom_41 {R : Type} (k6 : Int32 → Int32 → Int32 → Int32 → Int32 → R) (m_fruits : Int32) (m_x : Nat → Int32) (m_height : Nat → Int32) (m_foot : Nat → Int32) (m_fork : Nat → Int32) (m_told : Nat → Int32) (x1 : Int32) (x2 : Int32) (x3 : Int32) (x5 : Int32) (k0 : Int32) (k1 : Int32) : R := k6 x1 x2 x3 (k0 ||| k1) (x5 + 1)
noncomputable def bd_X10_reachedFrom_6 (m_fruits : Int32) (m_x : Nat → Int32) (m_height : Nat → Int32) (m_foot : Nat → Int32) (m_fork : Nat → Int32) (m_told : Nat → Int32) (x1 : Int32) (x2 : Int32) (x3 : Int32) (c : Int32) (s : Int32) : Int32 := if (F_X10_isWithin c x1 (F_X10_reachBy x2 x3 m_told) m_x m_height m_foot m_fork) = 0 then (j_X10_reachedFrom_41 (fun q0 q1 q2 q3 q4 => q3) m_fruits m_x m_height m_foot m_fork m_told x1 x2 x3 c s 0) else (j_X10_reachedFrom_41 (fun q0 q1 q2 q3 q4 => q3) m_fruits m_x m_height m_foot m_fork m_told x1 x2 x3 c s (1 <<< (c &&& 31)))
noncomputable def ex_X10_reachedFrom_6 {R : Type} (po : Int32 → R) (m_fruits : Int32) (m_x : Nat → Int32) (m_height : Nat → Int32) (m_foot : Nat → Int32) (m_fork : Nat → Int32) (m_told : Nat → Int32) (x1 : Int32) (x2 : Int32) (x3 : Int32) (c : Int32) (s : Int32) : R := po s
set_option maxHeartbeats 200000 in
set_option maxRecDepth 10000 in
theorem dl_X10_reachedFrom_6 {P Q : Int32 → Prop} {m_fruits : Int32} {m_x : Nat → Int32} {m_height : Nat → Int32} {m_foot : Nat → Int32} {m_fork : Nat → Int32} {m_told : Nat → Int32} {x1 : Int32} {x2 : Int32} {x3 : Int32} {a : Int32} {i : Nat} (hi0 : i < 2147483648) (hE : ∀ (c : Int32) (s : Int32), c = nI (i + (Int32.toInt m_fruits - ((i : Nat) : Int)).toNat) → s = itr (bd_X10_reachedFrom_6 m_fruits m_x m_height m_foot m_fork m_told x1 x2 x3) a i (Int32.toInt m_fruits - ((i : Nat) : Int)).toNat → (P s) → (Q s)) : ∀ (n k : Nat) (c : Int32), c = nI (i + k) → k ≤ (Int32.toInt m_fruits - ((i : Nat) : Int)).toNat → wb_X10_reachedFrom_6 P m_fruits m_x m_height m_foot m_fork m_told n x1 x2 x3 (itr (bd_X10_reachedFrom_6 m_fruits m_x m_height m_foot m_fork m_told x1 x2 x3) a i k) c → wb_X10_reachedFrom_6 Q m_fruits m_x m_height m_foot m_fork m_told n x1 x2 x3 (itr (bd_X10_reachedFrom_6 m_fruits m_x m_height m_foot m_fork m_told x1 x2 x3) a i k) c := by
  intro n
  induction n with
  | zero => intro k c hc hk h; exact False.elim h
  | succ n ih =>
    intro k c hc hk h
    have hr := tp_r m_fruits
    have hi : Int32.toInt c = ((i + k : Nat) : Int) := by rw [hc]; exact nI_toInt (by omega)
    refine And.intro (fun t0 => ?_) (fun t0 => ?_)
    · have h := And.left h t0
      have t1 := (fa_le _ _).mp t0
      have hk2 : k = (Int32.toInt m_fruits - ((i : Nat) : Int)).toNat := by omega
      subst hk2
      exact hE _ _ hc rfl h
    · have h := And.right h t0
      have t1 := mt (fa_le _ _).mpr t0
      have hs : ∀ o : Int32, o = itr (bd_X10_reachedFrom_6 m_fruits m_x m_height m_foot m_fork m_told x1 x2 x3) a i (k + 1) → wb_X10_reachedFrom_6 P m_fruits m_x m_height m_foot m_fork m_told n x1 x2 x3 o (c + 1) → wb_X10_reachedFrom_6 Q m_fruits m_x m_height m_foot m_fork m_told n x1 x2 x3 o (c + 1) := by
        intro o eo h9
        have q := ih (k + 1) (c + 1) (by rw [hc]; exact nI_1 _) (by omega)
        rw [← eo] at q
        exact q h9
      rw [itr_s, ← hc, bd_X10_reachedFrom_6] at hs
      refine du_X10_reachBy h ?_
      intro h
      refine du_X10_isWithin h ?_
      intro h
      refine And.intro (fun c1 => ?_) (fun c1 => ?_)
      · have h := And.left h c1
        rw [if_pos c1] at hs
        rw [j_X10_reachedFrom_41] at hs
        unfold ws_X10_reachedFrom_41 at h ⊢
        refine ae ?_
        have h := h _ rfl
        refine ae ?_
        have h := h _ rfl
        have q9 := hs _ rfl
        exact q9 h
      · have h := And.right h c1
        rw [if_neg c1] at hs
        refine ae ?_
        have h := h _ rfl
        rw [j_X10_reachedFrom_41] at hs
        unfold ws_X10_reachedFrom_41 at h ⊢
        refine ae ?_
        have h := h _ rfl
        refine ae ?_
        have h := h _ rfl
        have q9 := hs _ rfl
        exact q9 h
