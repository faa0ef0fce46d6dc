theorem du_X10_readAct {P Q : Int32 → Int32 → (Nat → Int32) → Prop} {p0 : Int32} {m_read : Nat} {m_length : Int32} {m_top : Int32} {m_at : Int32} {m_wrong : Int32} {m_text : Nat → Int32} {m_rule : Nat → Int32} {m_acts : Nat → Int32} (h : wp_X10_readAct P p0 m_read m_length m_top m_at m_wrong m_text m_rule m_acts) (hq : P (F_X10_readAct p0 m_read m_length m_top m_at m_wrong m_text m_rule m_acts).1 (F_X10_readAct p0 m_read m_length m_top m_at m_wrong m_text m_rule m_acts).2.1 (F_X10_readAct p0 m_read m_length m_top m_at m_wrong m_text m_rule m_acts).2.2 → Q (F_X10_readAct p0 m_read m_length m_top m_at m_wrong m_text m_rule m_acts).1 (F_X10_readAct p0 m_read m_length m_top m_at m_wrong m_text m_rule m_acts).2.1 (F_X10_readAct p0 m_read m_length m_top m_at m_wrong m_text m_rule m_acts).2.2) : wp_X10_readAct Q p0 m_read m_length m_top m_at m_wrong m_text m_rule m_acts := dt_X10_readAct h (fun o eo => by rw [eo]; exact hq)
theorem dw_X10_readAct {Q : Int32 → Int32 → (Nat → Int32) → Prop} {p0 : Int32} {m_read : Nat} {m_length : Int32} {m_top : Int32} {m_at : Int32} {m_wrong : Int32} {m_text : Nat → Int32} {m_rule : Nat → Int32} {m_acts : Nat → Int32} (h : wp_X10_readAct (fun o0 o1 o2 => (o0, o1, o2) = F_X10_readAct p0 m_read m_length m_top m_at m_wrong m_text m_rule m_acts → Q o0 o1 o2) p0 m_read m_length m_top m_at m_wrong m_text m_rule m_acts) : wp_X10_readAct Q p0 m_read m_length m_top m_at m_wrong m_text m_rule m_acts := dt_X10_readAct h (fun o eo hp => hp eo)
noncomputable def bd_X10_lay_b2_2 (m_now : Nat → Int32) (x2 : Int32) (c : Int32) (s : (Nat → Int32)) : (Nat → Int32) := (upd s (x2 + c).toNatClampNeg (m_now c.toNatClampNeg))
noncomputable def ex_X10_lay_b2_2 {R : Type} (po : (Nat → Int32) → R) (m_now : Nat → Int32) (x2 : Int32) (c : Int32) (s : (Nat → Int32)) : R := po s
set_option maxHeartbeats 200000 in
set_option maxRecDepth 10000 in
theorem dl_X10_lay_b2_2 {P Q : (Nat → Int32) → Prop} {m_now : Nat → Int32} {x2 : Int32} {a : (Nat → Int32)} {i : Nat} (hi0 : i < 2147483648) (hE : ∀ (c : Int32) (s : (Nat → Int32)), c = nI (i + (Int32.toInt 21 - ((i : Nat) : Int)).toNat) → s = itr (bd_X10_lay_b2_2 m_now x2) a i (Int32.toInt 21 - ((i : Nat) : Int)).toNat → (P s) → (Q s)) : ∀ (n k : Nat) (c : Int32), c = nI (i + k) → k ≤ (Int32.toInt 21 - ((i : Nat) : Int)).toNat → wb_X10_lay_b2_2 P m_now n x2 c (itr (bd_X10_lay_b2_2 m_now x2) a i k) → wb_X10_lay_b2_2 Q m_now n x2 c (itr (bd_X10_lay_b2_2 m_now x2) a i k) := by
  intro n
  induction n with
  | zero => intro k c hc hk h; exact False.elim h
  | succ n ih =>
    intro k c hc hk h
    have hr := tp_r 21
    have hi : Int32.toInt c = ((i + k : Nat) : Int) := by rw [hc]; exact nI_toInt (by omega)
    refine And.intro (fun t0 => ?_) (fun t0 => ?_)
    · have h := And.left h t0
      have t1 := (fa_le _ _).mp t0
      have hk2 : k = (Int32.toInt 21 - ((i : Nat) : Int)).toNat := by omega
      subst hk2
      exact hE _ _ hc rfl h
    · have h := And.right h t0
      have t1 := mt (fa_le _ _).mpr t0
      have hs : ∀ o : (Nat → Int32), o = itr (bd_X10_lay_b2_2 m_now x2) a i (k + 1) → wb_X10_lay_b2_2 P m_now n x2 (c + 1) o → wb_X10_lay_b2_2 Q m_now n x2 (c + 1) o := by
        intro o eo h9
        have q := ih (k + 1) (c + 1) (by rw [hc]; exact nI_1 _) (by omega)
        rw [← eo] at q
        exact q h9
      rw [itr_s, ← hc, bd_X10_lay_b2_2] at hs
      refine ae ?_
      have h := h _ rfl
      refine And.intro (And.left h) ?_
      have h := And.right h
      refine ae ?_
      have h := h _ rfl
      refine And.intro (And.left h) ?_
      have h := And.right h
      refine ae ?_
      have h := h _ rfl
      have q9 := hs _ rfl
      exact q9 h
noncomputable def F_X10_lay_b2 (p2 : Int32) (m_now : Nat → Int32) (m_aside : Nat → Int32) : (Nat → Int32) := ex_X10_lay_b2_2 (fun o0 => o0) m_now p2 (nI (0 + (Int32.toInt 21 - ((0 : Nat) : Int)).toNat)) (itr (bd_X10_lay_b2_2 m_now p2) m_aside 0 (Int32.toInt 21 - ((0 : Nat) : Int)).toNat)
set_option maxHeartbeats 200000 in
set_option maxRecDepth 10000 in
theorem dt_X10_lay_b2 {P Q : (Nat → Int32) → Prop} {p2 : Int32} {m_now : Nat → Int32} {m_aside : Nat → Int32} (h : wp_X10_lay_b2 P p2 m_now m_aside) (hq : ∀ o : (Nat → Int32), o = F_X10_lay_b2 p2 m_now m_aside → P o → Q o) : wp_X10_lay_b2 Q p2 m_now m_aside := by
  rw [F_X10_lay_b2] at hq
  obtain ⟨n1, h⟩ := h
  refine ⟨n1, dl_X10_lay_b2_2 (a := m_aside) (i := 0) (by decide) ?_ n1 0 0 (by decide) (Nat.zero_le _) h⟩
  intro cc2 s3 ec4 es5 h
  rw [← ec4, ← es5, ex_X10_lay_b2_2] at hq
  have q9 := hq _ rfl
  exact q9 h
theorem du_X10_lay_b2 {P Q : (Nat → Int32) → Prop} {p2 : Int32} {m_now : Nat → Int32} {m_aside : Nat → Int32} (h : wp_X10_lay_b2 P p2 m_now m_aside) (hq : P (F_X10_lay_b2 p2 m_now m_aside) → Q (F_X10_lay_b2 p2 m_now m_aside)) : wp_X10_lay_b2 Q p2 m_now m_aside := dt_X10_lay_b2 h (fun o eo => by rw [eo]; exact hq)
theorem dw_X10_lay_b2 {Q : (Nat → Int32) → Prop} {p2 : Int32} {m_now : Nat → Int32} {m_aside : Nat → Int32} (h : wp_X10_lay_b2 (fun o0 => o0 = F_X10_lay_b2 p2 m_now m_aside → Q o0) p2 m_now m_aside) : wp_X10_lay_b2 Q p2 m_now m_aside := dt_X10_lay_b2 h (fun o eo hp => hp eo)
noncomputable def bd_X10_lay_b3_2 (m_aside : Nat → Int32) (x2 : Int32) (c : Int32) (s : (Nat → Int32)) : (Nat → Int32) := (upd s (x2 + c).toNatClampNeg (m_aside c.toNatClampNeg))
noncomputable def ex_X10_lay_b3_2 {R : Type} (po : (Nat → Int32) → R) (m_aside : Nat → Int32) (x2 : Int32) (c : Int32) (s : (Nat → Int32)) : R := po s
set_option maxHeartbeats 200000 in
set_option maxRecDepth 10000 in
theorem dl_X10_lay_b3_2 {P Q : (Nat → Int32) → Prop} {m_aside : Nat → Int32} {x2 : Int32} {a : (Nat → Int32)} {i : Nat} (hi0 : i < 2147483648) (hE : ∀ (c : Int32) (s : (Nat → Int32)), c = nI (i + (Int32.toInt 21 - ((i : Nat) : Int)).toNat) → s = itr (bd_X10_lay_b3_2 m_aside x2) a i (Int32.toInt 21 - ((i : Nat) : Int)).toNat → (P s) → (Q s)) : ∀ (n k : Nat) (c : Int32), c = nI (i + k) → k ≤ (Int32.toInt 21 - ((i : Nat) : Int)).toNat → wb_X10_lay_b3_2 P m_aside n x2 c (itr (bd_X10_lay_b3_2 m_aside x2) a i k) → wb_X10_lay_b3_2 Q m_aside n x2 c (itr (bd_X10_lay_b3_2 m_aside x2) a i k) := by
  intro n
  induction n with
  | zero => intro k c hc hk h; exact False.elim h
  | succ n ih =>
    intro k c hc hk h
    have hr := tp_r 21
    have hi : Int32.toInt c = ((i + k : Nat) : Int) := by rw [hc]; exact nI_toInt (by omega)
    refine And.intro (fun t0 => ?_) (fun t0 => ?_)
    · have h := And.left h t0
      have t1 := (fa_le _ _).mp t0
      have hk2 : k = (Int32.toInt 21 - ((i : Nat) : Int)).toNat := by omega
      subst hk2
      exact hE _ _ hc rfl h
    · have h := And.right h t0
      have t1 := mt (fa_le _ _).mpr t0
      have hs : ∀ o : (Nat → Int32), o = itr (bd_X10_lay_b3_2 m_aside x2) a i (k + 1) → wb_X10_lay_b3_2 P m_aside n x2 (c + 1) o → wb_X10_lay_b3_2 Q m_aside n x2 (c + 1) o := by
        intro o eo h9
        have q := ih (k + 1) (c + 1) (by rw [hc]; exact nI_1 _) (by omega)
        rw [← eo] at q
        exact q h9
      rw [itr_s, ← hc, bd_X10_lay_b3_2] at hs
      refine ae ?_
      have h := h _ rfl
      refine And.intro (And.left h) ?_
      have h := And.right h
      refine ae ?_
      have h := h _ rfl
      refine And.intro (And.left h) ?_
      have h := And.right h
      refine ae ?_
      have h := h _ rfl
      have q9 := hs _ rfl
      exact q9 h
noncomputable def F_X10_lay_b3 (p2 : Int32) (m_undos : Nat → Int32) (m_aside : Nat → Int32) : (Nat → Int32) := ex_X10_lay_b3_2 (fun o0 => o0) m_aside p2 (nI (0 + (Int32.toInt 21 - ((0 : Nat) : Int)).toNat)) (itr (bd_X10_lay_b3_2 m_aside p2) m_undos 0 (Int32.toInt 21 - ((0 : Nat) : Int)).toNat)
set_option maxHeartbeats 200000 in
set_option maxRecDepth 10000 in
theorem dt_X10_lay_b3 {P Q : (Nat → Int32) → Prop} {p2 : Int32} {m_undos : Nat → Int32} {m_aside : Nat → Int32} (h : wp_X10_lay_b3 P p2 m_undos m_aside) (hq : ∀ o : (Nat → Int32), o = F_X10_lay_b3 p2 m_undos m_aside → P o → Q o) : wp_X10_lay_b3 Q p2 m_undos m_aside := by
  rw [F_X10_lay_b3] at hq
  obtain ⟨n1, h⟩ := h
  refine ⟨n1, dl_X10_lay_b3_2 (a := m_undos) (i := 0) (by decide) ?_ n1 0 0 (by decide) (Nat.zero_le _) h⟩
  intro cc2 s3 ec4 es5 h
  rw [← ec4, ← es5, ex_X10_lay_b3_2] at hq
  have q9 := hq _ rfl
  exact q9 h
theorem du_X10_lay_b3 {P Q : (Nat → Int32) → Prop} {p2 : Int32} {m_undos : Nat → Int32} {m_aside : Nat → Int32} (h : wp_X10_lay_b3 P p2 m_undos m_aside) (hq : P (F_X10_lay_b3 p2 m_undos m_aside) → Q (F_X10_lay_b3 p2 m_undos m_aside)) : wp_X10_lay_b3 Q p2 m_undos m_aside := dt_X10_lay_b3 h (fun o eo => by rw [eo]; exact hq)
theorem dw_X10_lay_b3 {Q : (Nat → Int32) → Prop} {p2 : Int32} {m_undos : Nat → Int32} {m_aside : Nat → Int32} (h : wp_X10_lay_b3 (fun o0 => o0 = F_X10_lay_b3 p2 m_undos m_aside → Q o0) p2 m_undos m_aside) : wp_X10_lay_b3 Q p2 m_undos m_aside := dt_X10_lay_b3 h (fun o eo hp => hp eo)
noncomputable def bd_X10_remember_b2_11 (m_aside : Nat → Int32) (m_undoMany : Int32) (c : Int32) (s : (Nat → Int32)) : (Nat → Int32) := (upd s c.toNatClampNeg (s (c + 21).toNatClampNeg))
noncomputable def j_X10_remember_b2_49 {R : Type} (po : Int32 → (Nat → Int32) → R) (m_aside : Nat → Int32) (m_undoMany : Int32) (m_undos : Nat → Int32) : R := po (m_undoMany + 1) (F_X10_lay_b3 (21 * m_undoMany) m_undos m_aside)
noncomputable def ex_X10_remember_b2_11 {R : Type} (po : Int32 → (Nat → Int32) → R) (m_aside : Nat → Int32) (m_undoMany : Int32) (c : Int32) (s : (Nat → Int32)) : R := j_X10_remember_b2_49 po m_aside (m_undoMany - 1) s
set_option maxHeartbeats 200000 in
set_option maxRecDepth 10000 in
theorem dl_X10_remember_b2_11 {P Q : Int32 → (Nat → Int32) → Prop} {m_aside : Nat → Int32} {m_undoMany : Int32} {a : (Nat → Int32)} {i : Nat} (hi0 : i < 2147483648) (hE : ∀ (c : Int32) (s : (Nat → Int32)), c = nI (i + (Int32.toInt 231 - ((i : Nat) : Int)).toNat) → s = itr (bd_X10_remember_b2_11 m_aside m_undoMany) a i (Int32.toInt 231 - ((i : Nat) : Int)).toNat → (∀ v_4 : Int32, v_4 = m_undoMany - 1 → ws_X10_remember_b2_49 P m_aside v_4 s) → (∀ v_4 : Int32, v_4 = m_undoMany - 1 → ws_X10_remember_b2_49 Q m_aside v_4 s)) : ∀ (n k : Nat) (c : Int32), c = nI (i + k) → k ≤ (Int32.toInt 231 - ((i : Nat) : Int)).toNat → wb_X10_remember_b2_11 P m_aside n c m_undoMany (itr (bd_X10_remember_b2_11 m_aside m_undoMany) a i k) → wb_X10_remember_b2_11 Q m_aside n c m_undoMany (itr (bd_X10_remember_b2_11 m_aside m_undoMany) a i k) := by
  intro n
  induction n with
  | zero => intro k c hc hk h; exact False.elim h
  | succ n ih =>
    intro k c hc hk h
    have hr := tp_r 231
    have hi : Int32.toInt c = ((i + k : Nat) : Int) := by rw [hc]; exact nI_toInt (by omega)
    refine And.intro (fun t0 => ?_) (fun t0 => ?_)
    · have h := And.left h t0
      have t1 := (fa_le _ _).mp t0
      have hk2 : k = (Int32.toInt 231 - ((i : Nat) : Int)).toNat := by omega
      subst hk2
      exact hE _ _ hc rfl h
    · have h := And.right h t0
      have t1 := mt (fa_le _ _).mpr t0
      have hs : ∀ o : (Nat → Int32), o = itr (bd_X10_remember_b2_11 m_aside m_undoMany) a i (k + 1) → wb_X10_remember_b2_11 P m_aside n (c + 1) m_undoMany o → wb_X10_remember_b2_11 Q m_aside n (c + 1) m_undoMany o := by
        intro o eo h9
        have q := ih (k + 1) (c + 1) (by rw [hc]; exact nI_1 _) (by omega)
        rw [← eo] at q
        exact q h9
      rw [itr_s, ← hc, bd_X10_remember_b2_11] at hs
      refine ae ?_
      have h := h _ rfl
      refine And.intro (And.left h) ?_
      have h := And.right h
      refine ae ?_
      have h := h _ rfl
      refine And.intro (And.left h) ?_
      have h := And.right h
      refine ae ?_
      have h := h _ rfl
      have q9 := hs _ rfl
      exact q9 h
noncomputable def F_X10_remember_b2 (m_undoMany : Int32) (m_undos : Nat → Int32) (m_aside : Nat → Int32) : Int32 × (Nat → Int32) := if m_undoMany = 12 then (ex_X10_remember_b2_11 (fun o0 o1 => (o0, o1)) m_aside m_undoMany (nI (0 + (Int32.toInt 231 - ((0 : Nat) : Int)).toNat)) (itr (bd_X10_remember_b2_11 m_aside m_undoMany) m_undos 0 (Int32.toInt 231 - ((0 : Nat) : Int)).toNat)) else (j_X10_remember_b2_49 (fun o0 o1 => (o0, o1)) m_aside m_undoMany m_undos)
set_option maxHeartbeats 200000 in
set_option maxRecDepth 10000 in
theorem dt_X10_remember_b2 {P Q : Int32 → (Nat → Int32) → Prop} {m_undoMany : Int32} {m_undos : Nat → Int32} {m_aside : Nat → Int32} (h : wp_X10_remember_b2 P m_undoMany m_undos m_aside) (hq : ∀ o : Int32 × (Nat → Int32), o = F_X10_remember_b2 m_undoMany m_undos m_aside → P o.1 o.2 → Q o.1 o.2) : wp_X10_remember_b2 Q m_undoMany m_undos m_aside := by
  rw [F_X10_remember_b2] at hq
  refine And.intro (fun c1 => ?_) (fun c1 => ?_)
  · have h := And.left h c1
    rw [if_neg c1] at hq
    rw [j_X10_remember_b2_49] at hq
    unfold ws_X10_remember_b2_49 at h ⊢
    refine ae ?_
    have h := h _ rfl
    refine du_X10_lay_b3 h ?_
    intro h
    refine ae ?_
    have h := h _ rfl
    have q9 := hq _ rfl
    dsimp only at q9
    exact q9 h
  · have h := And.right h c1
    rw [if_pos c1] at hq
    obtain ⟨n2, h⟩ := h
    refine ⟨n2, dl_X10_remember_b2_11 (a := m_undos) (i := 0) (by decide) ?_ n2 0 0 (by decide) (Nat.zero_le _) h⟩
    intro cc3 s4 ec5 es6 h
    rw [← ec5, ← es6, ex_X10_remember_b2_11] at hq
    refine ae ?_
    have h := h _ rfl
    rw [j_X10_remember_b2_49] at hq
    unfold ws_X10_remember_b2_49 at h ⊢
    refine ae ?_
    have h := h _ rfl
    refine du_X10_lay_b3 h ?_
    intro h
    refine ae ?_
    have h := h _ rfl
    have q9 := hq _ rfl
    dsimp only at q9
    exact q9 h
theorem du_X10_remember_b2 {P Q : Int32 → (Nat → Int32) → Prop} {m_undoMany : Int32} {m_undos : Nat → Int32} {m_aside : Nat → Int32} (h : wp_X10_remember_b2 P m_undoMany m_undos m_aside) (hq : P (F_X10_remember_b2 m_undoMany m_undos m_aside).1 (F_X10_remember_b2 m_undoMany m_undos m_aside).2 → Q (F_X10_remember_b2 m_undoMany m_undos m_aside).1 (F_X10_remember_b2 m_undoMany m_undos m_aside).2) : wp_X10_remember_b2 Q m_undoMany m_undos m_aside := dt_X10_remember_b2 h (fun o eo => by rw [eo]; exact hq)
theorem dw_X10_remember_b2 {Q : Int32 → (Nat → Int32) → Prop} {m_undoMany : Int32} {m_undos : Nat → Int32} {m_aside : Nat → Int32} (h : wp_X10_remember_b2 (fun o0 o1 => (o0, o1) = F_X10_remember_b2 m_undoMany m_undos m_aside → Q o0 o1) m_undoMany m_undos m_aside) : wp_X10_remember_b2 Q m_undoMany m_undos m_aside := dt_X10_remember_b2 h (fun o eo hp => hp eo)
noncomputable def bd_X10_undo_26 (m_undos : Nat → Int32) (m_thrown : Int32) (m_undoMany : Int32) (c : Int32) (s : (Nat → Int32)) : (Nat → Int32) := (upd s c.toNatClampNeg (m_undos ((21 * m_undoMany) + c).toNatClampNeg))
noncomputable def ex_X10_undo_26 {R : Type} (po : Int32 → Int32 → Int32 → (Nat → Int32) → R) (m_undos : Nat → Int32) (m_thrown : Int32) (m_undoMany : Int32) (c : Int32) (s : (Nat → Int32)) : R := po m_undoMany m_thrown m_undoMany s
set_option maxHeartbeats 200000 in
set_option maxRecDepth 10000 in
theorem dl_X10_undo_26 {P Q : Int32 → Int32 → Int32 → (Nat → Int32) → Prop} {m_undos : Nat → Int32} {m_thrown : Int32} {m_undoMany : Int32} {a : (Nat → Int32)} {i : Nat} (hi0 : i < 2147483648) (hE : ∀ (c : Int32) (s : (Nat → Int32)), c = nI (i + (Int32.toInt 21 - ((i : Nat) : Int)).toNat) → s = itr (bd_X10_undo_26 m_undos m_thrown m_undoMany) a i (Int32.toInt 21 - ((i : Nat) : Int)).toNat → (P m_undoMany m_thrown m_undoMany s) → (Q m_undoMany m_thrown m_undoMany s)) : ∀ (n k : Nat) (c : Int32), c = nI (i + k) → k ≤ (Int32.toInt 21 - ((i : Nat) : Int)).toNat → wb_X10_undo_26 P m_undos n c m_thrown m_undoMany (itr (bd_X10_undo_26 m_undos m_thrown m_undoMany) a i k) → wb_X10_undo_26 Q m_undos n c m_thrown m_undoMany (itr (bd_X10_undo_26 m_undos m_thrown m_undoMany) a i k) := by
  intro n
  induction n with
  | zero => intro k c hc hk h; exact False.elim h
  | succ n ih =>
    intro k c hc hk h
    have hr := tp_r 21
    have hi : Int32.toInt c = ((i + k : Nat) : Int) := by rw [hc]; exact nI_toInt (by omega)
    refine And.intro (fun t0 => ?_) (fun t0 => ?_)
    · have h := And.left h t0
      have t1 := (fa_le _ _).mp t0
      have hk2 : k = (Int32.toInt 21 - ((i : Nat) : Int)).toNat := by omega
      subst hk2
      exact hE _ _ hc rfl h
    · have h := And.right h t0
      have t1 := mt (fa_le _ _).mpr t0
      have hs : ∀ o : (Nat → Int32), o = itr (bd_X10_undo_26 m_undos m_thrown m_undoMany) a i (k + 1) → wb_X10_undo_26 P m_undos n (c + 1) m_thrown m_undoMany o → wb_X10_undo_26 Q m_undos n (c + 1) m_thrown m_undoMany o := by
        intro o eo h9
        have q := ih (k + 1) (c + 1) (by rw [hc]; exact nI_1 _) (by omega)
        rw [← eo] at q
        exact q h9
      rw [itr_s, ← hc, bd_X10_undo_26] at hs
      refine ae ?_
      have h := h _ rfl
      refine ae ?_
      have h := h _ rfl
      refine And.intro (And.left h) ?_
      have h := And.right h
      refine ae ?_
      have h := h _ rfl
      refine And.intro (And.left h) ?_
      have h := And.right h
      refine ae ?_
      have h := h _ rfl
      have q9 := hs _ rfl
      exact q9 h
noncomputable def F_X10_undo (m_thrown : Int32) (m_undoMany : Int32) (m_now : Nat → Int32) (m_undos : Nat → Int32) : Int32 × Int32 × Int32 × (Nat → Int32) := if m_undoMany = 0 then ((-1), 0, m_undoMany, m_now) else (ex_X10_undo_26 (fun o0 o1 o2 o3 => (o0, o1, o2, o3)) m_undos 0 (m_undoMany - 1) (nI (0 + (Int32.toInt 21 - ((0 : Nat) : Int)).toNat)) (itr (bd_X10_undo_26 m_undos 0 (m_undoMany - 1)) m_now 0 (Int32.toInt 21 - ((0 : Nat) : Int)).toNat))
set_option maxHeartbeats 200000 in
set_option maxRecDepth 10000 in
theorem dt_X10_undo {P Q : Int32 → Int32 → Int32 → (Nat → Int32) → Prop} {m_thrown : Int32} {m_undoMany : Int32} {m_now : Nat → Int32} {m_undos : Nat → Int32} (h : wp_X10_undo P m_thrown m_undoMany m_now m_undos) (hq : ∀ o : Int32 × Int32 × Int32 × (Nat → Int32), o = F_X10_undo m_thrown m_undoMany m_now m_undos → P o.1 o.2.1 o.2.2.1 o.2.2.2 → Q o.1 o.2.1 o.2.2.1 o.2.2.2) : wp_X10_undo Q m_thrown m_undoMany m_now m_undos := by
  rw [F_X10_undo] at hq
  refine And.intro (fun c1 => ?_) (fun c1 => ?_)
  · have h := And.left h c1
    rw [if_neg c1] at hq
    refine ae ?_
    have h := h _ rfl
    obtain ⟨n2, h⟩ := h
    refine ⟨n2, dl_X10_undo_26 (a := m_now) (i := 0) (by decide) ?_ n2 0 0 (by decide) (Nat.zero_le _) h⟩
    intro cc3 s4 ec5 es6 h
    rw [← ec5, ← es6, ex_X10_undo_26] at hq
    have q9 := hq _ rfl
    dsimp only at q9
    exact q9 h
  · have h := And.right h c1
    rw [if_pos c1] at hq
    have q9 := hq _ rfl
    dsimp only at q9
    exact q9 h
theorem du_X10_undo {P Q : Int32 → Int32 → Int32 → (Nat → Int32) → Prop} {m_thrown : Int32} {m_undoMany : Int32} {m_now : Nat → Int32} {m_undos : Nat → Int32} (h : wp_X10_undo P m_thrown m_undoMany m_now m_undos) (hq : P (F_X10_undo m_thrown m_undoMany m_now m_undos).1 (F_X10_undo m_thrown m_undoMany m_now m_undos).2.1 (F_X10_undo m_thrown m_undoMany m_now m_undos).2.2.1 (F_X10_undo m_thrown m_undoMany m_now m_undos).2.2.2 → Q (F_X10_undo m_thrown m_undoMany m_now m_undos).1 (F_X10_undo m_thrown m_undoMany m_now m_undos).2.1 (F_X10_undo m_thrown m_undoMany m_now m_undos).2.2.1 (F_X10_undo m_thrown m_undoMany m_now m_undos).2.2.2) : wp_X10_undo Q m_thrown m_undoMany m_now m_undos := dt_X10_undo h (fun o eo => by rw [eo]; exact hq)
theorem dw_X10_undo {Q : Int32 → Int32 → Int32 → (Nat → Int32) → Prop} {m_thrown : Int32} {m_undoMany : Int32} {m_now : Nat → Int32} {m_undos : Nat → Int32} (h : wp_X10_undo (fun o0 o1 o2 o3 => (o0, o1, o2, o3) = F_X10_undo m_thrown m_undoMany m_now m_undos → Q o0 o1 o2 o3) m_thrown m_undoMany m_now m_undos) : wp_X10_undo Q m_thrown m_undoMany m_now m_undos := dt_X10_undo h (fun o eo hp => hp eo)
noncomputable def j_X10_from_69 {R : Type} (k29 : Int32 → Int32 → Int32 → Int32 → Int32 → R) (m_fruits : Int32) (m_standings : Int32) (m_now : Nat → Int32) (m_x : Nat → Int32) (m_height : Nat → Int32) (m_foot : Nat → Int32) (m_fork : Nat → Int32) (m_told : Nat → Int32) (x1 : Int32) (x2 : Int32) (x4 : Int32) (k0 : Int32) (k1 : Int32) (m_thrown : Int32) : R := k29 x1 x2 (k0 ||| k1) (x4 + 1) m_thrown
noncomputable def bd_X10_from_29 (m_fruits : Int32) (m_standings : Int32) (m_now : Nat → Int32) (m_x : Nat → Int32) (m_height : Nat → Int32) (m_foot : Nat → Int32) (m_fork : Nat → Int32) (m_told : Nat → Int32) (x1 : Int32) (x2 : Int32) (m_thrown : Int32) (c : Int32) (s : Int32) : Int32 := if (F_X10_isWithin x1 c (F_X10_reachBy (m_now (18 : Int32).toNatClampNeg) x2 m_told) m_x m_height m_foot m_fork) = 0 then (j_X10_from_69 (fun q0 q1 q2 q3 q4 => q2) m_fruits m_standings m_now m_x m_height m_foot m_fork m_told x1 x2 c s 0 m_thrown) else (j_X10_from_69 (fun q0 q1 q2 q3 q4 => q2) m_fruits m_standings m_now m_x m_height m_foot m_fork m_told x1 x2 c s (1 <<< (c &&& 31)) m_thrown)
noncomputable def ex_X10_from_29 {R : Type} (po : Int32 → Int32 → R) (m_fruits : Int32) (m_standings : Int32) (m_now : Nat → Int32) (m_x : Nat → Int32) (m_height : Nat → Int32) (m_foot : Nat → Int32) (m_fork : Nat → Int32) (m_told : Nat → Int32) (x1 : Int32) (x2 : Int32) (m_thrown : Int32) (c : Int32) (s : Int32) : R := po s m_thrown
set_option maxHeartbeats 200000 in
set_option maxRecDepth 10000 in
theorem dl_X10_from_29 {P Q : Int32 → Int32 → Prop} {m_fruits : Int32} {m_standings : Int32} {m_now : Nat → Int32} {m_x : Nat → Int32} {m_height : Nat → Int32} {m_foot : Nat → Int32} {m_fork : Nat → Int32} {m_told : Nat → Int32} {x1 : Int32} {x2 : Int32} {m_thrown : Int32} {a : Int32} {i : Nat} (hi0 : i < 2147483648) (hE : ∀ (c : Int32) (s : Int32), c = nI (i + (Int32.toInt m_standings - ((i : Nat) : Int)).toNat) → s = itr (bd_X10_from_29 m_fruits m_standings m_now m_x m_height m_foot m_fork m_told x1 x2 m_thrown) a i (Int32.toInt m_standings - ((i : Nat) : Int)).toNat → (P s m_thrown) → (Q s m_thrown)) : ∀ (n k : Nat) (c : Int32), c = nI (i + k) → k ≤ (Int32.toInt m_standings - ((i : Nat) : Int)).toNat → wb_X10_from_29 P m_fruits m_standings m_now m_x m_height m_foot m_fork m_told n x1 x2 (itr (bd_X10_from_29 m_fruits m_standings m_now m_x m_height m_foot m_fork m_told x1 x2 m_thrown) a i k) c m_thrown → wb_X10_from_29 Q m_fruits m_standings m_now m_x m_height m_foot m_fork m_told n x1 x2 (itr (bd_X10_from_29 m_fruits m_standings m_now m_x m_height m_foot m_fork m_told x1 x2 m_thrown) a i k) c m_thrown := by
  intro n
  induction n with
  | zero => intro k c hc hk h; exact False.elim h
  | succ n ih =>
    intro k c hc hk h
    have hr := tp_r m_standings
    have hi : Int32.toInt c = ((i + k : Nat) : Int) := by rw [hc]; exact nI_toInt (by omega)
    refine And.intro (fun t0 => ?_) (fun t0 => ?_)
    · have h := And.left h t0
      have t1 := (fa_le _ _).mp t0
      have hk2 : k = (Int32.toInt m_standings - ((i : Nat) : Int)).toNat := by omega
      subst hk2
      exact hE _ _ hc rfl h
    · have h := And.right h t0
      have t1 := mt (fa_le _ _).mpr t0
      have hs : ∀ o : Int32, o = itr (bd_X10_from_29 m_fruits m_standings m_now m_x m_height m_foot m_fork m_told x1 x2 m_thrown) a i (k + 1) → wb_X10_from_29 P m_fruits m_standings m_now m_x m_height m_foot m_fork m_told n x1 x2 o (c + 1) m_thrown → wb_X10_from_29 Q m_fruits m_standings m_now m_x m_height m_foot m_fork m_told n x1 x2 o (c + 1) m_thrown := by
        intro o eo h9
        have q := ih (k + 1) (c + 1) (by rw [hc]; exact nI_1 _) (by omega)
        rw [← eo] at q
        exact q h9
      rw [itr_s, ← hc, bd_X10_from_29] at hs
      refine ae ?_
      have h := h _ rfl
      refine du_X10_reachBy h ?_
      intro h
      refine du_X10_isWithin h ?_
      intro h
      refine And.intro (fun c1 => ?_) (fun c1 => ?_)
      · have h := And.left h c1
        rw [if_pos c1] at hs
        rw [j_X10_from_69] at hs
        unfold ws_X10_from_69 at h ⊢
        refine ae ?_
        have h := h _ rfl
        refine ae ?_
        have h := h _ rfl
        have q9 := hs _ rfl
        exact q9 h
      · have h := And.right h c1
        rw [if_neg c1] at hs
        refine ae ?_
        have h := h _ rfl
        rw [j_X10_from_69] at hs
        unfold ws_X10_from_69 at h ⊢
        refine ae ?_
        have h := h _ rfl
        refine ae ?_
        have h := h _ rfl
        have q9 := hs _ rfl
        exact q9 h
noncomputable def F_X10_from (p0 : Int32) (p1 : Int32) (m_fruits : Int32) (m_standings : Int32) (m_thrown : Int32) (m_now : Nat → Int32) (m_x : Nat → Int32) (m_height : Nat → Int32) (m_foot : Nat → Int32) (m_fork : Nat → Int32) (m_told : Nat → Int32) : Int32 × Int32 := if (F_X10_isFruit p0 m_fruits) = 0 then ((-1), 0) else (if (F_X10_in p1 0 1) = 0 then ((-1), 0) else (ex_X10_from_29 (fun o0 o1 => (o0, o1)) m_fruits m_standings m_now m_x m_height m_foot m_fork m_told p0 p1 0 (nI (0 + (Int32.toInt m_standings - ((0 : Nat) : Int)).toNat)) (itr (bd_X10_from_29 m_fruits m_standings m_now m_x m_height m_foot m_fork m_told p0 p1 0) 0 0 (Int32.toInt m_standings - ((0 : Nat) : Int)).toNat)))
set_option maxHeartbeats 200000 in
set_option maxRecDepth 10000 in
theorem dt_X10_from {P Q : Int32 → Int32 → Prop} {p0 : Int32} {p1 : Int32} {m_fruits : Int32} {m_standings : Int32} {m_thrown : Int32} {m_now : Nat → Int32} {m_x : Nat → Int32} {m_height : Nat → Int32} {m_foot : Nat → Int32} {m_fork : Nat → Int32} {m_told : Nat → Int32} (h : wp_X10_from P p0 p1 m_fruits m_standings m_thrown m_now m_x m_height m_foot m_fork m_told) (hq : ∀ o : Int32 × Int32, o = F_X10_from p0 p1 m_fruits m_standings m_thrown m_now m_x m_height m_foot m_fork m_told → P o.1 o.2 → Q o.1 o.2) : wp_X10_from Q p0 p1 m_fruits m_standings m_thrown m_now m_x m_height m_foot m_fork m_told := by
  rw [F_X10_from] at hq
  refine du_X10_isFruit h ?_
  intro h
  refine And.intro (fun c1 => ?_) (fun c1 => ?_)
  · have h := And.left h c1
    rw [if_pos c1] at hq
    have q9 := hq _ rfl
    dsimp only at q9
    exact q9 h
  · have h := And.right h c1
    rw [if_neg c1] at hq
    refine du_X10_in h ?_
    intro h
    refine And.intro (fun c2 => ?_) (fun c2 => ?_)
    · have h := And.left h c2
      rw [if_neg c2] at hq
      obtain ⟨n3, h⟩ := h
      refine ⟨n3, dl_X10_from_29 (a := 0) (i := 0) (by decide) ?_ n3 0 0 (by decide) (Nat.zero_le _) h⟩
      intro cc4 s5 ec6 es7 h
      rw [← ec6, ← es7, ex_X10_from_29] at hq
      have q9 := hq _ rfl
      dsimp only at q9
      exact q9 h
    · have h := And.right h c2
      rw [if_pos c2] at hq
      have q9 := hq _ rfl
      dsimp only at q9
      exact q9 h
theorem du_X10_from {P Q : Int32 → Int32 → Prop} {p0 : Int32} {p1 : Int32} {m_fruits : Int32} {m_standings : Int32} {m_thrown : Int32} {m_now : Nat → Int32} {m_x : Nat → Int32} {m_height : Nat → Int32} {m_foot : Nat → Int32} {m_fork : Nat → Int32} {m_told : Nat → Int32} (h : wp_X10_from P p0 p1 m_fruits m_standings m_thrown m_now m_x m_height m_foot m_fork m_told) (hq : P (F_X10_from p0 p1 m_fruits m_standings m_thrown m_now m_x m_height m_foot m_fork m_told).1 (F_X10_from p0 p1 m_fruits m_standings m_thrown m_now m_x m_height m_foot m_fork m_told).2 → Q (F_X10_from p0 p1 m_fruits m_standings m_thrown m_now m_x m_height m_foot m_fork m_told).1 (F_X10_from p0 p1 m_fruits m_standings m_thrown m_now m_x m_height m_foot m_fork m_told).2) : wp_X10_from Q p0 p1 m_fruits m_standings m_thrown m_now m_x m_height m_foot m_fork m_told := dt_X10_from h (fun o eo => by rw [eo]; exact hq)
theorem dw_X10_from {Q : Int32 → Int32 → Prop} {p0 : Int32} {p1 : Int32} {m_fruits : Int32} {m_standings : Int32} {m_thrown : Int32} {m_now : Nat → Int32} {m_x : Nat → Int32} {m_height : Nat → Int32} {m_foot : Nat → Int32} {m_fork : Nat → Int32} {m_told : Nat → Int32} (h : wp_X10_from (fun o0 o1 => (o0, o1) = F_X10_from p0 p1 m_fruits m_standings m_thrown m_now m_x m_height m_foot m_fork m_told → Q o0 o1) p0 p1 m_fruits m_standings m_thrown m_now m_x m_height m_foot m_fork m_told) : wp_X10_from Q p0 p1 m_fruits m_standings m_thrown m_now m_x m_height m_foot m_fork m_told := dt_X10_from h (fun o eo hp => hp eo)
noncomputable def F_X10_worthOf (p0 : Int32) (p1 : Int32) (m_worth : Nat → Int32) : Int32 := if (F_X10_has p1 p0) = 0 then (m_worth p0.toNatClampNeg) else ((m_worth p0.toNatClampNeg) / 2)
set_option maxHeartbeats 200000 in
set_option maxRecDepth 10000 in
theorem dt_X10_worthOf {P Q : Int32 → Prop} {p0 : Int32} {p1 : Int32} {m_worth : Nat → Int32} (h : wp_X10_worthOf P p0 p1 m_worth) (hq : ∀ o : Int32, o = F_X10_worthOf p0 p1 m_worth → P o → Q o) : wp_X10_worthOf Q p0 p1 m_worth := by
  rw [F_X10_worthOf] at hq
  refine du_X10_has h ?_
  intro h
  refine And.intro (fun c1 => ?_) (fun c1 => ?_)
  · have h := And.left h c1
    rw [if_pos c1] at hq
    refine And.intro (And.left h) ?_
    have h := And.right h
    have q9 := hq _ rfl
    exact q9 h
  · have h := And.right h c1
    rw [if_neg c1] at hq
    refine And.intro (And.left h) ?_
    have h := And.right h
    refine ae ?_
    have h := h _ rfl
    refine ae ?_
    have h := h _ rfl
    have q9 := hq _ rfl
    exact q9 h
theorem du_X10_worthOf {P Q : Int32 → Prop} {p0 : Int32} {p1 : Int32} {m_worth : Nat → Int32} (h : wp_X10_worthOf P p0 p1 m_worth) (hq : P (F_X10_worthOf p0 p1 m_worth) → Q (F_X10_worthOf p0 p1 m_worth)) : wp_X10_worthOf Q p0 p1 m_worth := dt_X10_worthOf h (fun o eo => by rw [eo]; exact hq)
theorem dw_X10_worthOf {Q : Int32 → Prop} {p0 : Int32} {p1 : Int32} {m_worth : Nat → Int32} (h : wp_X10_worthOf (fun o0 => o0 = F_X10_worthOf p0 p1 m_worth → Q o0) p0 p1 m_worth) : wp_X10_worthOf Q p0 p1 m_worth := dt_X10_worthOf h (fun o eo hp => hp eo)
noncomputable def j_X10_worthOfAll_35 {R : Type} (k5 : Int32 → Int32 → Int32 → Int32 → R) (m_fruits : Int32) (m_worth : Nat → Int32) (x1 : Int32) (x2 : Int32) (x4 : Int32) (k0 : Int32) (k1 : Int32) : R := k5 x1 x2 (k0 + k1) (x4 + 1)
noncomputable def bd_X10_worthOfAll_5 (m_fruits : Int32) (m_worth : Nat → Int32) (x1 : Int32) (x2 : Int32) (c : Int32) (s : Int32) : Int32 := if (F_X10_has x1 c) = 0 then (j_X10_worthOfAll_35 (fun q0 q1 q2 q3 => q2) m_fruits m_worth x1 x2 c s 0) else (j_X10_worthOfAll_35 (fun q0 q1 q2 q3 => q2) m_fruits m_worth x1 x2 c s (F_X10_worthOf c x2 m_worth))
noncomputable def ex_X10_worthOfAll_5 {R : Type} (po : Int32 → R) (m_fruits : Int32) (m_worth : Nat → Int32) (x1 : Int32) (x2 : Int32) (c : Int32) (s : Int32) : R := po s
set_option maxHeartbeats 200000 in
set_option maxRecDepth 10000 in
theorem dl_X10_worthOfAll_5 {P Q : Int32 → Prop} {m_fruits : Int32} {m_worth : Nat → Int32} {x1 : Int32} {x2 : Int32} {a : Int32} {i : Nat} (hi0 : i < 2147483648) (hE : ∀ (c : Int32) (s : Int32), c = nI (i + (Int32.toInt m_fruits - ((i : Nat) : Int)).toNat) → s = itr (bd_X10_worthOfAll_5 m_fruits m_worth x1 x2) a i (Int32.toInt m_fruits - ((i : Nat) : Int)).toNat → (P s) → (Q s)) : ∀ (n k : Nat) (c : Int32), c = nI (i + k) → k ≤ (Int32.toInt m_fruits - ((i : Nat) : Int)).toNat → wb_X10_worthOfAll_5 P m_fruits m_worth n x1 x2 (itr (bd_X10_worthOfAll_5 m_fruits m_worth x1 x2) a i k) c → wb_X10_worthOfAll_5 Q m_fruits m_worth n x1 x2 (itr (bd_X10_worthOfAll_5 m_fruits m_worth x1 x2) a i k) c := by
  intro n
  induction n with
  | zero => intro k c hc hk h; exact False.elim h
  | succ n ih =>
    intro k c hc hk h
    have hr := tp_r m_fruits
    have hi : Int32.toInt c = ((i + k : Nat) : Int) := by rw [hc]; exact nI_toInt (by omega)
    refine And.intro (fun t0 => ?_) (fun t0 => ?_)
    · have h := And.left h t0
      have t1 := (fa_le _ _).mp t0
      have hk2 : k = (Int32.toInt m_fruits - ((i : Nat) : Int)).toNat := by omega
      subst hk2
      exact hE _ _ hc rfl h
    · have h := And.right h t0
      have t1 := mt (fa_le _ _).mpr t0
      have hs : ∀ o : Int32, o = itr (bd_X10_worthOfAll_5 m_fruits m_worth x1 x2) a i (k + 1) → wb_X10_worthOfAll_5 P m_fruits m_worth n x1 x2 o (c + 1) → wb_X10_worthOfAll_5 Q m_fruits m_worth n x1 x2 o (c + 1) := by
        intro o eo h9
        have q := ih (k + 1) (c + 1) (by rw [hc]; exact nI_1 _) (by omega)
        rw [← eo] at q
        exact q h9
      rw [itr_s, ← hc, bd_X10_worthOfAll_5] at hs
      refine du_X10_has h ?_
      intro h
      refine And.intro (fun c1 => ?_) (fun c1 => ?_)
      · have h := And.left h c1
        rw [if_pos c1] at hs
        rw [j_X10_worthOfAll_35] at hs
        unfold ws_X10_worthOfAll_35 at h ⊢
        refine ae ?_
        have h := h _ rfl
        refine ae ?_
        have h := h _ rfl
        have q9 := hs _ rfl
        exact q9 h
      · have h := And.right h c1
        rw [if_neg c1] at hs
        refine du_X10_worthOf h ?_
        intro h
        rw [j_X10_worthOfAll_35] at hs
        unfold ws_X10_worthOfAll_35 at h ⊢
        refine ae ?_
        have h := h _ rfl
        refine ae ?_
        have h := h _ rfl
        have q9 := hs _ rfl
        exact q9 h
noncomputable def F_X10_worthOfAll (p0 : Int32) (p1 : Int32) (m_fruits : Int32) (m_worth : Nat → Int32) : Int32 := ex_X10_worthOfAll_5 (fun o0 => o0) m_fruits m_worth p0 p1 (nI (0 + (Int32.toInt m_fruits - ((0 : Nat) : Int)).toNat)) (itr (bd_X10_worthOfAll_5 m_fruits m_worth p0 p1) 0 0 (Int32.toInt m_fruits - ((0 : Nat) : Int)).toNat)
set_option maxHeartbeats 200000 in
set_option maxRecDepth 10000 in
theorem dt_X10_worthOfAll {P Q : Int32 → Prop} {p0 : Int32} {p1 : Int32} {m_fruits : Int32} {m_worth : Nat → Int32} (h : wp_X10_worthOfAll P p0 p1 m_fruits m_worth) (hq : ∀ o : Int32, o = F_X10_worthOfAll p0 p1 m_fruits m_worth → P o → Q o) : wp_X10_worthOfAll Q p0 p1 m_fruits m_worth := by
  rw [F_X10_worthOfAll] at hq
  obtain ⟨n1, h⟩ := h
  refine ⟨n1, dl_X10_worthOfAll_5 (a := 0) (i := 0) (by decide) ?_ n1 0 0 (by decide) (Nat.zero_le _) h⟩
  intro cc2 s3 ec4 es5 h
  rw [← ec4, ← es5, ex_X10_worthOfAll_5] at hq
  have q9 := hq _ rfl
  exact q9 h
theorem du_X10_worthOfAll {P Q : Int32 → Prop} {p0 : Int32} {p1 : Int32} {m_fruits : Int32} {m_worth : Nat → Int32} (h : wp_X10_worthOfAll P p0 p1 m_fruits m_worth) (hq : P (F_X10_worthOfAll p0 p1 m_fruits m_worth) → Q (F_X10_worthOfAll p0 p1 m_fruits m_worth)) : wp_X10_worthOfAll Q p0 p1 m_fruits m_worth := dt_X10_worthOfAll h (fun o eo => by rw [eo]; exact hq)
theorem dw_X10_worthOfAll {Q : Int32 → Prop} {p0 : Int32} {p1 : Int32} {m_fruits : Int32} {m_worth : Nat → Int32} (h : wp_X10_worthOfAll (fun o0 => o0 = F_X10_worthOfAll p0 p1 m_fruits m_worth → Q o0) p0 p1 m_fruits m_worth) : wp_X10_worthOfAll Q p0 p1 m_fruits m_worth := dt_X10_worthOfAll h (fun o eo hp => hp eo)
noncomputable def bd_X10_never_17 (m_fruits : Int32) (m_standings : Int32) (m_now : Nat → Int32) (m_x : Nat → Int32) (m_height : Nat → Int32) (m_worth : Nat → Int32) (m_foot : Nat → Int32) (m_fork : Nat → Int32) (m_told : Nat → Int32) (m_rowMany : Int32) (m_thrown : Int32) (m_row : Nat → Int32) (c : Int32) (s : Int32) : Int32 := (s &&& ((F_X10_reachedFrom c 1 1 m_fruits m_x m_height m_foot m_fork m_told) ^^^ (-1)))
noncomputable def ex_X10_never_17 {R : Type} (po : Int32 → Int32 → Int32 → (Nat → Int32) → R) (m_fruits : Int32) (m_standings : Int32) (m_now : Nat → Int32) (m_x : Nat → Int32) (m_height : Nat → Int32) (m_worth : Nat → Int32) (m_foot : Nat → Int32) (m_fork : Nat → Int32) (m_told : Nat → Int32) (m_rowMany : Int32) (m_thrown : Int32) (m_row : Nat → Int32) (c : Int32) (s : Int32) : R := po s ((F_X10_tell (F_X10_worthOfAll s (m_now (16 : Int32).toNatClampNeg) m_fruits m_worth) 0 m_row).1) m_thrown ((F_X10_tell (F_X10_worthOfAll s (m_now (16 : Int32).toNatClampNeg) m_fruits m_worth) 0 m_row).2)
set_option maxHeartbeats 200000 in
set_option maxRecDepth 10000 in
theorem dl_X10_never_17 {P Q : Int32 → Int32 → Int32 → (Nat → Int32) → Prop} {m_fruits : Int32} {m_standings : Int32} {m_now : Nat → Int32} {m_x : Nat → Int32} {m_height : Nat → Int32} {m_worth : Nat → Int32} {m_foot : Nat → Int32} {m_fork : Nat → Int32} {m_told : Nat → Int32} {m_rowMany : Int32} {m_thrown : Int32} {m_row : Nat → Int32} {a : Int32} {i : Nat} (hi0 : i < 2147483648) (hE : ∀ (c : Int32) (s : Int32), c = nI (i + (Int32.toInt m_standings - ((i : Nat) : Int)).toNat) → s = itr (bd_X10_never_17 m_fruits m_standings m_now m_x m_height m_worth m_foot m_fork m_told m_rowMany m_thrown m_row) a i (Int32.toInt m_standings - ((i : Nat) : Int)).toNat → (∀ v_2 : Int32, v_2 = m_now (16 : Int32).toNatClampNeg → wp_X10_worthOfAll (fun r_3 => wp_X10_tell (fun m_rowMany_4 m_row_5 => P s m_rowMany_4 m_thrown m_row_5) r_3 0 m_row) s v_2 m_fruits m_worth) → (∀ v_2 : Int32, v_2 = m_now (16 : Int32).toNatClampNeg → wp_X10_worthOfAll (fun r_3 => wp_X10_tell (fun m_rowMany_4 m_row_5 => Q s m_rowMany_4 m_thrown m_row_5) r_3 0 m_row) s v_2 m_fruits m_worth)) : ∀ (n k : Nat) (c : Int32), c = nI (i + k) → k ≤ (Int32.toInt m_standings - ((i : Nat) : Int)).toNat → wb_X10_never_17 P m_fruits m_standings m_now m_x m_height m_worth m_foot m_fork m_told n (itr (bd_X10_never_17 m_fruits m_standings m_now m_x m_height m_worth m_foot m_fork m_told m_rowMany m_thrown m_row) a i k) c m_rowMany m_thrown m_row → wb_X10_never_17 Q m_fruits m_standings m_now m_x m_height m_worth m_foot m_fork m_told n (itr (bd_X10_never_17 m_fruits m_standings m_now m_x m_height m_worth m_foot m_fork m_told m_rowMany m_thrown m_row) a i k) c m_rowMany m_thrown m_row := by
  intro n
  induction n with
  | zero => intro k c hc hk h; exact False.elim h
  | succ n ih =>
    intro k c hc hk h
    have hr := tp_r m_standings
    have hi : Int32.toInt c = ((i + k : Nat) : Int) := by rw [hc]; exact nI_toInt (by omega)
    refine And.intro (fun t0 => ?_) (fun t0 => ?_)
    · have h := And.left h t0
      have t1 := (fa_le _ _).mp t0
      have hk2 : k = (Int32.toInt m_standings - ((i : Nat) : Int)).toNat := by omega
      subst hk2
      exact hE _ _ hc rfl h
    · have h := And.right h t0
      have t1 := mt (fa_le _ _).mpr t0
      have hs : ∀ o : Int32, o = itr (bd_X10_never_17 m_fruits m_standings m_now m_x m_height m_worth m_foot m_fork m_told m_rowMany m_thrown m_row) a i (k + 1) → wb_X10_never_17 P m_fruits m_standings m_now m_x m_height m_worth m_foot m_fork m_told n o (c + 1) m_rowMany m_thrown m_row → wb_X10_never_17 Q m_fruits m_standings m_now m_x m_height m_worth m_foot m_fork m_told n o (c + 1) m_rowMany m_thrown m_row := by
        intro o eo h9
        have q := ih (k + 1) (c + 1) (by rw [hc]; exact nI_1 _) (by omega)
        rw [← eo] at q
        exact q h9
      rw [itr_s, ← hc, bd_X10_never_17] at hs
      refine du_X10_reachedFrom h ?_
      intro h
      refine ae ?_
      have h := h _ rfl
      refine ae ?_
      have h := h _ rfl
      have q9 := hs _ rfl
      exact q9 h
noncomputable def F_X10_never (m_fruits : Int32) (m_standings : Int32) (m_rowMany : Int32) (m_thrown : Int32) (m_now : Nat → Int32) (m_x : Nat → Int32) (m_height : Nat → Int32) (m_worth : Nat → Int32) (m_foot : Nat → Int32) (m_fork : Nat → Int32) (m_told : Nat → Int32) (m_row : Nat → Int32) : Int32 × Int32 × Int32 × (Nat → Int32) := ex_X10_never_17 (fun o0 o1 o2 o3 => (o0, o1, o2, o3)) m_fruits m_standings m_now m_x m_height m_worth m_foot m_fork m_told m_rowMany 0 m_row (nI (0 + (Int32.toInt m_standings - ((0 : Nat) : Int)).toNat)) (itr (bd_X10_never_17 m_fruits m_standings m_now m_x m_height m_worth m_foot m_fork m_told m_rowMany 0 m_row) (F_X10_which 0 m_fruits m_now) 0 (Int32.toInt m_standings - ((0 : Nat) : Int)).toNat)
set_option maxHeartbeats 200000 in
set_option maxRecDepth 10000 in
theorem dt_X10_never {P Q : Int32 → Int32 → Int32 → (Nat → Int32) → Prop} {m_fruits : Int32} {m_standings : Int32} {m_rowMany : Int32} {m_thrown : Int32} {m_now : Nat → Int32} {m_x : Nat → Int32} {m_height : Nat → Int32} {m_worth : Nat → Int32} {m_foot : Nat → Int32} {m_fork : Nat → Int32} {m_told : Nat → Int32} {m_row : Nat → Int32} (h : wp_X10_never P m_fruits m_standings m_rowMany m_thrown m_now m_x m_height m_worth m_foot m_fork m_told m_row) (hq : ∀ o : Int32 × Int32 × Int32 × (Nat → Int32), o = F_X10_never m_fruits m_standings m_rowMany m_thrown m_now m_x m_height m_worth m_foot m_fork m_told m_row → P o.1 o.2.1 o.2.2.1 o.2.2.2 → Q o.1 o.2.1 o.2.2.1 o.2.2.2) : wp_X10_never Q m_fruits m_standings m_rowMany m_thrown m_now m_x m_height m_worth m_foot m_fork m_told m_row := by
  rw [F_X10_never] at hq
  refine du_X10_which h ?_
  intro h
  obtain ⟨n1, h⟩ := h
  refine ⟨n1, dl_X10_never_17 (a := (F_X10_which 0 m_fruits m_now)) (i := 0) (by decide) ?_ n1 0 0 (by decide) (Nat.zero_le _) h⟩
  intro cc2 s3 ec4 es5 h
  rw [← ec4, ← es5, ex_X10_never_17] at hq
  refine ae ?_
  have h := h _ rfl
  refine du_X10_worthOfAll h ?_
  intro h
  refine du_X10_tell h ?_
  intro h
  have q9 := hq _ rfl
  dsimp only at q9
  exact q9 h
theorem du_X10_never {P Q : Int32 → Int32 → Int32 → (Nat → Int32) → Prop} {m_fruits : Int32} {m_standings : Int32} {m_rowMany : Int32} {m_thrown : Int32} {m_now : Nat → Int32} {m_x : Nat → Int32} {m_height : Nat → Int32} {m_worth : Nat → Int32} {m_foot : Nat → Int32} {m_fork : Nat → Int32} {m_told : Nat → Int32} {m_row : Nat → Int32} (h : wp_X10_never P m_fruits m_standings m_rowMany m_thrown m_now m_x m_height m_worth m_foot m_fork m_told m_row) (hq : P (F_X10_never m_fruits m_standings m_rowMany m_thrown m_now m_x m_height m_worth m_foot m_fork m_told m_row).1 (F_X10_never m_fruits m_standings m_rowMany m_thrown m_now m_x m_height m_worth m_foot m_fork m_told m_row).2.1 (F_X10_never m_fruits m_standings m_rowMany m_thrown m_now m_x m_height m_worth m_foot m_fork m_told m_row).2.2.1 (F_X10_never m_fruits m_standings m_rowMany m_thrown m_now m_x m_height m_worth m_foot m_fork m_told m_row).2.2.2 → Q (F_X10_never m_fruits m_standings m_rowMany m_thrown m_now m_x m_height m_worth m_foot m_fork m_told m_row).1 (F_X10_never m_fruits m_standings m_rowMany m_thrown m_now m_x m_height m_worth m_foot m_fork m_told m_row).2.1 (F_X10_never m_fruits m_standings m_rowMany m_thrown m_now m_x m_height m_worth m_foot m_fork m_told m_row).2.2.1 (F_X10_never m_fruits m_standings m_rowMany m_thrown m_now m_x m_height m_worth m_foot m_fork m_told m_row).2.2.2) : wp_X10_never Q m_fruits m_standings m_rowMany m_thrown m_now m_x m_height m_worth m_foot m_fork m_told m_row := dt_X10_never h (fun o eo => by rw [eo]; exact hq)
theorem dw_X10_never {Q : Int32 → Int32 → Int32 → (Nat → Int32) → Prop} {m_fruits : Int32} {m_standings : Int32} {m_rowMany : Int32} {m_thrown : Int32} {m_now : Nat → Int32} {m_x : Nat → Int32} {m_height : Nat → Int32} {m_worth : Nat → Int32} {m_foot : Nat → Int32} {m_fork : Nat → Int32} {m_told : Nat → Int32} {m_row : Nat → Int32} (h : wp_X10_never (fun o0 o1 o2 o3 => (o0, o1, o2, o3) = F_X10_never m_fruits m_standings m_rowMany m_thrown m_now m_x m_height m_worth m_foot m_fork m_told m_row → Q o0 o1 o2 o3) m_fruits m_standings m_rowMany m_thrown m_now m_x m_height m_worth m_foot m_fork m_told m_row) : wp_X10_never Q m_fruits m_standings m_rowMany m_thrown m_now m_x m_height m_worth m_foot m_fork m_told m_row := dt_X10_never h (fun o eo hp => hp eo)
noncomputable def F_X10_allStandings (m_standings : Int32) : Int32 := ((1 <<< (m_standings &&& 31)) - 1)
set_option maxHeartbeats 200000 in
set_option maxRecDepth 10000 in
theorem dt_X10_allStandings {P Q : Int32 → Prop} {m_standings : Int32} (h : wp_X10_allStandings P m_standings) (hq : ∀ o : Int32, o = F_X10_allStandings m_standings → P o → Q o) : wp_X10_allStandings Q m_standings := by
  rw [F_X10_allStandings] at hq
  refine ae ?_
  have h := h _ rfl
  have q9 := hq _ rfl
  exact q9 h
theorem du_X10_allStandings {P Q : Int32 → Prop} {m_standings : Int32} (h : wp_X10_allStandings P m_standings) (hq : P (F_X10_allStandings m_standings) → Q (F_X10_allStandings m_standings)) : wp_X10_allStandings Q m_standings := dt_X10_allStandings h (fun o eo => by rw [eo]; exact hq)
theorem dw_X10_allStandings {Q : Int32 → Prop} {m_standings : Int32} (h : wp_X10_allStandings (fun o0 => o0 = F_X10_allStandings m_standings → Q o0) m_standings) : wp_X10_allStandings Q m_standings := dt_X10_allStandings h (fun o eo hp => hp eo)
noncomputable def j_X10_handOf_31 {R : Type} (k4 : Int32 → Int32 → Int32 → R) (m_standings : Int32) (m_hand : Nat → Int32) (x1 : Int32) (x3 : Int32) (k0 : Int32) (k1 : Int32) : R := k4 x1 (k0 ||| k1) (x3 + 1)
noncomputable def bd_X10_handOf_4 (m_standings : Int32) (m_hand : Nat → Int32) (x1 : Int32) (c : Int32) (s : Int32) : Int32 := if (F_X10_has x1 c) = 0 then (j_X10_handOf_31 (fun q0 q1 q2 => q1) m_standings m_hand x1 c s 0) else (j_X10_handOf_31 (fun q0 q1 q2 => q1) m_standings m_hand x1 c s (m_hand c.toNatClampNeg))
noncomputable def ex_X10_handOf_4 {R : Type} (po : Int32 → R) (m_standings : Int32) (m_hand : Nat → Int32) (x1 : Int32) (c : Int32) (s : Int32) : R := po s
set_option maxHeartbeats 200000 in
set_option maxRecDepth 10000 in
theorem dl_X10_handOf_4 {P Q : Int32 → Prop} {m_standings : Int32} {m_hand : Nat → Int32} {x1 : Int32} {a : Int32} {i : Nat} (hi0 : i < 2147483648) (hE : ∀ (c : Int32) (s : Int32), c = nI (i + (Int32.toInt m_standings - ((i : Nat) : Int)).toNat) → s = itr (bd_X10_handOf_4 m_standings m_hand x1) a i (Int32.toInt m_standings - ((i : Nat) : Int)).toNat → (P s) → (Q s)) : ∀ (n k : Nat) (c : Int32), c = nI (i + k) → k ≤ (Int32.toInt m_standings - ((i : Nat) : Int)).toNat → wb_X10_handOf_4 P m_standings m_hand n x1 (itr (bd_X10_handOf_4 m_standings m_hand x1) a i k) c → wb_X10_handOf_4 Q m_standings m_hand n x1 (itr (bd_X10_handOf_4 m_standings m_hand x1) a i k) c := by
  intro n
  induction n with
  | zero => intro k c hc hk h; exact False.elim h
  | succ n ih =>
    intro k c hc hk h
    have hr := tp_r m_standings
    have hi : Int32.toInt c = ((i + k : Nat) : Int) := by rw [hc]; exact nI_toInt (by omega)
    refine And.intro (fun t0 => ?_) (fun t0 => ?_)
    · have h := And.left h t0
      have t1 := (fa_le _ _).mp t0
      have hk2 : k = (Int32.toInt m_standings - ((i : Nat) : Int)).toNat := by omega
      subst hk2
      exact hE _ _ hc rfl h
    · have h := And.right h t0
      have t1 := mt (fa_le _ _).mpr t0
      have hs : ∀ o : Int32, o = itr (bd_X10_handOf_4 m_standings m_hand x1) a i (k + 1) → wb_X10_handOf_4 P m_standings m_hand n x1 o (c + 1) → wb_X10_handOf_4 Q m_standings m_hand n x1 o (c + 1) := by
        intro o eo h9
        have q := ih (k + 1) (c + 1) (by rw [hc]; exact nI_1 _) (by omega)
        rw [← eo] at q
        exact q h9
      rw [itr_s, ← hc, bd_X10_handOf_4] at hs
      refine du_X10_has h ?_
      intro h
      refine And.intro (fun c1 => ?_) (fun c1 => ?_)
      · have h := And.left h c1
        rw [if_pos c1] at hs
        rw [j_X10_handOf_31] at hs
        unfold ws_X10_handOf_31 at h ⊢
        refine ae ?_
        have h := h _ rfl
        refine ae ?_
        have h := h _ rfl
        have q9 := hs _ rfl
        exact q9 h
      · have h := And.right h c1
        rw [if_neg c1] at hs
        refine And.intro (And.left h) ?_
        have h := And.right h
        refine ae ?_
        have h := h _ rfl
        rw [j_X10_handOf_31] at hs
        unfold ws_X10_handOf_31 at h ⊢
        refine ae ?_
        have h := h _ rfl
        refine ae ?_
        have h := h _ rfl
        have q9 := hs _ rfl
        exact q9 h
noncomputable def F_X10_handOf (p0 : Int32) (m_standings : Int32) (m_hand : Nat → Int32) : Int32 := ex_X10_handOf_4 (fun o0 => o0) m_standings m_hand p0 (nI (0 + (Int32.toInt m_standings - ((0 : Nat) : Int)).toNat)) (itr (bd_X10_handOf_4 m_standings m_hand p0) 0 0 (Int32.toInt m_standings - ((0 : Nat) : Int)).toNat)
set_option maxHeartbeats 200000 in
set_option maxRecDepth 10000 in
theorem dt_X10_handOf {P Q : Int32 → Prop} {p0 : Int32} {m_standings : Int32} {m_hand : Nat → Int32} (h : wp_X10_handOf P p0 m_standings m_hand) (hq : ∀ o : Int32, o = F_X10_handOf p0 m_standings m_hand → P o → Q o) : wp_X10_handOf Q p0 m_standings m_hand := by
  rw [F_X10_handOf] at hq
  obtain ⟨n1, h⟩ := h
  refine ⟨n1, dl_X10_handOf_4 (a := 0) (i := 0) (by decide) ?_ n1 0 0 (by decide) (Nat.zero_le _) h⟩
  intro cc2 s3 ec4 es5 h
  rw [← ec4, ← es5, ex_X10_handOf_4] at hq
  have q9 := hq _ rfl
  exact q9 h
theorem du_X10_handOf {P Q : Int32 → Prop} {p0 : Int32} {m_standings : Int32} {m_hand : Nat → Int32} (h : wp_X10_handOf P p0 m_standings m_hand) (hq : P (F_X10_handOf p0 m_standings m_hand) → Q (F_X10_handOf p0 m_standings m_hand)) : wp_X10_handOf Q p0 m_standings m_hand := dt_X10_handOf h (fun o eo => by rw [eo]; exact hq)
theorem dw_X10_handOf {Q : Int32 → Prop} {p0 : Int32} {m_standings : Int32} {m_hand : Nat → Int32} (h : wp_X10_handOf (fun o0 => o0 = F_X10_handOf p0 m_standings m_hand → Q o0) p0 m_standings m_hand) : wp_X10_handOf Q p0 m_standings m_hand := dt_X10_handOf h (fun o eo hp => hp eo)
noncomputable def bd_X10_layHands__2 (m_fruits : Int32) (m_standings : Int32) (m_now : Nat → Int32) (m_x : Nat → Int32) (m_height : Nat → Int32) (m_ripe : Nat → Int32) (m_foot : Nat → Int32) (m_fork : Nat → Int32) (m_told : Nat → Int32) (x1 : Int32) (m_wanted : Int32) (c : Int32) (s : (Nat → Int32)) : (Nat → Int32) := (upd s c.toNatClampNeg (F_X10_reachedFrom c x1 0 m_fruits m_x m_height m_foot m_fork m_told))
noncomputable def ex_X10_layHands__2 {R : Type} (po : Int32 → (Nat → Int32) → R) (m_fruits : Int32) (m_standings : Int32) (m_now : Nat → Int32) (m_x : Nat → Int32) (m_height : Nat → Int32) (m_ripe : Nat → Int32) (m_foot : Nat → Int32) (m_fork : Nat → Int32) (m_told : Nat → Int32) (x1 : Int32) (m_wanted : Int32) (c : Int32) (s : (Nat → Int32)) : R := po (((F_X10_which 0 m_fruits m_now) &&& (F_X10_ripeOnes (m_now (19 : Int32).toNatClampNeg) m_fruits m_ripe)) &&& (F_X10_handOf (F_X10_allStandings m_standings) m_standings s)) s
set_option maxHeartbeats 200000 in
set_option maxRecDepth 10000 in
theorem dl_X10_layHands__2 {P Q : Int32 → (Nat → Int32) → Prop} {m_fruits : Int32} {m_standings : Int32} {m_now : Nat → Int32} {m_x : Nat → Int32} {m_height : Nat → Int32} {m_ripe : Nat → Int32} {m_foot : Nat → Int32} {m_fork : Nat → Int32} {m_told : Nat → Int32} {x1 : Int32} {m_wanted : Int32} {a : (Nat → Int32)} {i : Nat} (hi0 : i < 2147483648) (hE : ∀ (c : Int32) (s : (Nat → Int32)), c = nI (i + (Int32.toInt m_standings - ((i : Nat) : Int)).toNat) → s = itr (bd_X10_layHands__2 m_fruits m_standings m_now m_x m_height m_ripe m_foot m_fork m_told x1 m_wanted) a i (Int32.toInt m_standings - ((i : Nat) : Int)).toNat → (wp_X10_which (fun r_1 => ∀ v_2 : Int32, v_2 = m_now (19 : Int32).toNatClampNeg → wp_X10_ripeOnes (fun r_3 => ∀ v_4 : Int32, v_4 = r_1 &&& r_3 → wp_X10_allStandings (fun r_5 => wp_X10_handOf (fun r_6 => ∀ v_7 : Int32, v_7 = v_4 &&& r_6 → P v_7 s) r_5 m_standings s) m_standings) v_2 m_fruits m_ripe) 0 m_fruits m_now) → (wp_X10_which (fun r_1 => ∀ v_2 : Int32, v_2 = m_now (19 : Int32).toNatClampNeg → wp_X10_ripeOnes (fun r_3 => ∀ v_4 : Int32, v_4 = r_1 &&& r_3 → wp_X10_allStandings (fun r_5 => wp_X10_handOf (fun r_6 => ∀ v_7 : Int32, v_7 = v_4 &&& r_6 → Q v_7 s) r_5 m_standings s) m_standings) v_2 m_fruits m_ripe) 0 m_fruits m_now)) : ∀ (n k : Nat) (c : Int32), c = nI (i + k) → k ≤ (Int32.toInt m_standings - ((i : Nat) : Int)).toNat → wb_X10_layHands__2 P m_fruits m_standings m_now m_x m_height m_ripe m_foot m_fork m_told n x1 c m_wanted (itr (bd_X10_layHands__2 m_fruits m_standings m_now m_x m_height m_ripe m_foot m_fork m_told x1 m_wanted) a i k) → wb_X10_layHands__2 Q m_fruits m_standings m_now m_x m_height m_ripe m_foot m_fork m_told n x1 c m_wanted (itr (bd_X10_layHands__2 m_fruits m_standings m_now m_x m_height m_ripe m_foot m_fork m_told x1 m_wanted) a i k) := by
  intro n
  induction n with
  | zero => intro k c hc hk h; exact False.elim h
  | succ n ih =>
    intro k c hc hk h
    have hr := tp_r m_standings
    have hi : Int32.toInt c = ((i + k : Nat) : Int) := by rw [hc]; exact nI_toInt (by omega)
    refine And.intro (fun t0 => ?_) (fun t0 => ?_)
    · have h := And.left h t0
      have t1 := (fa_le _ _).mp t0
      have hk2 : k = (Int32.toInt m_standings - ((i : Nat) : Int)).toNat := by omega
      subst hk2
      exact hE _ _ hc rfl h
    · have h := And.right h t0
      have t1 := mt (fa_le _ _).mpr t0
      have hs : ∀ o : (Nat → Int32), o = itr (bd_X10_layHands__2 m_fruits m_standings m_now m_x m_height m_ripe m_foot m_fork m_told x1 m_wanted) a i (k + 1) → wb_X10_layHands__2 P m_fruits m_standings m_now m_x m_height m_ripe m_foot m_fork m_told n x1 (c + 1) m_wanted o → wb_X10_layHands__2 Q m_fruits m_standings m_now m_x m_height m_ripe m_foot m_fork m_told n x1 (c + 1) m_wanted o := by
        intro o eo h9
        have q := ih (k + 1) (c + 1) (by rw [hc]; exact nI_1 _) (by omega)
        rw [← eo] at q
        exact q h9
      rw [itr_s, ← hc, bd_X10_layHands__2] at hs
      refine du_X10_reachedFrom h ?_
      intro h
      refine And.intro (And.left h) ?_
      have h := And.right h
      refine ae ?_
      have h := h _ rfl
      have q9 := hs _ rfl
      exact q9 h
noncomputable def F_X10_layHands_ (p0 : Int32) (m_fruits : Int32) (m_standings : Int32) (m_wanted : Int32) (m_now : Nat → Int32) (m_x : Nat → Int32) (m_height : Nat → Int32) (m_ripe : Nat → Int32) (m_foot : Nat → Int32) (m_fork : Nat → Int32) (m_told : Nat → Int32) (m_hand : Nat → Int32) : Int32 × (Nat → Int32) := ex_X10_layHands__2 (fun o0 o1 => (o0, o1)) m_fruits m_standings m_now m_x m_height m_ripe m_foot m_fork m_told p0 m_wanted (nI (0 + (Int32.toInt m_standings - ((0 : Nat) : Int)).toNat)) (itr (bd_X10_layHands__2 m_fruits m_standings m_now m_x m_height m_ripe m_foot m_fork m_told p0 m_wanted) m_hand 0 (Int32.toInt m_standings - ((0 : Nat) : Int)).toNat)
set_option maxHeartbeats 200000 in
set_option maxRecDepth 10000 in
theorem dt_X10_layHands_ {P Q : Int32 → (Nat → Int32) → Prop} {p0 : Int32} {m_fruits : Int32} {m_standings : Int32} {m_wanted : Int32} {m_now : Nat → Int32} {m_x : Nat → Int32} {m_height : Nat → Int32} {m_ripe : Nat → Int32} {m_foot : Nat → Int32} {m_fork : Nat → Int32} {m_told : Nat → Int32} {m_hand : Nat → Int32} (h : wp_X10_layHands_ P p0 m_fruits m_standings m_wanted m_now m_x m_height m_ripe m_foot m_fork m_told m_hand) (hq : ∀ o : Int32 × (Nat → Int32), o = F_X10_layHands_ p0 m_fruits m_standings m_wanted m_now m_x m_height m_ripe m_foot m_fork m_told m_hand → P o.1 o.2 → Q o.1 o.2) : wp_X10_layHands_ Q p0 m_fruits m_standings m_wanted m_now m_x m_height m_ripe m_foot m_fork m_told m_hand := by
  rw [F_X10_layHands_] at hq
  obtain ⟨n1, h⟩ := h
  refine ⟨n1, dl_X10_layHands__2 (a := m_hand) (i := 0) (by decide) ?_ n1 0 0 (by decide) (Nat.zero_le _) h⟩
  intro cc2 s3 ec4 es5 h
  rw [← ec4, ← es5, ex_X10_layHands__2] at hq
  refine du_X10_which h ?_
  intro h
  refine ae ?_
  have h := h _ rfl
  refine du_X10_ripeOnes h ?_
  intro h
  refine ae ?_
  have h := h _ rfl
  refine du_X10_allStandings h ?_
  intro h
  refine du_X10_handOf h ?_
  intro h
  refine ae ?_
  have h := h _ rfl
  have q9 := hq _ rfl
  dsimp only at q9
  exact q9 h
theorem du_X10_layHands_ {P Q : Int32 → (Nat → Int32) → Prop} {p0 : Int32} {m_fruits : Int32} {m_standings : Int32} {m_wanted : Int32} {m_now : Nat → Int32} {m_x : Nat → Int32} {m_height : Nat → Int32} {m_ripe : Nat → Int32} {m_foot : Nat → Int32} {m_fork : Nat → Int32} {m_told : Nat → Int32} {m_hand : Nat → Int32} (h : wp_X10_layHands_ P p0 m_fruits m_standings m_wanted m_now m_x m_height m_ripe m_foot m_fork m_told m_hand) (hq : P (F_X10_layHands_ p0 m_fruits m_standings m_wanted m_now m_x m_height m_ripe m_foot m_fork m_told m_hand).1 (F_X10_layHands_ p0 m_fruits m_standings m_wanted m_now m_x m_height m_ripe m_foot m_fork m_told m_hand).2 → Q (F_X10_layHands_ p0 m_fruits m_standings m_wanted m_now m_x m_height m_ripe m_foot m_fork m_told m_hand).1 (F_X10_layHands_ p0 m_fruits m_standings m_wanted m_now m_x m_height m_ripe m_foot m_fork m_told m_hand).2) : wp_X10_layHands_ Q p0 m_fruits m_standings m_wanted m_now m_x m_height m_ripe m_foot m_fork m_told m_hand := dt_X10_layHands_ h (fun o eo => by rw [eo]; exact hq)
theorem dw_X10_layHands_ {Q : Int32 → (Nat → Int32) → Prop} {p0 : Int32} {m_fruits : Int32} {m_standings : Int32} {m_wanted : Int32} {m_now : Nat → Int32} {m_x : Nat → Int32} {m_height : Nat → Int32} {m_ripe : Nat → Int32} {m_foot : Nat → Int32} {m_fork : Nat → Int32} {m_told : Nat → Int32} {m_hand : Nat → Int32} (h : wp_X10_layHands_ (fun o0 o1 => (o0, o1) = F_X10_layHands_ p0 m_fruits m_standings m_wanted m_now m_x m_height m_ripe m_foot m_fork m_told m_hand → Q o0 o1) p0 m_fruits m_standings m_wanted m_now m_x m_height m_ripe m_foot m_fork m_told m_hand) : wp_X10_layHands_ Q p0 m_fruits m_standings m_wanted m_now m_x m_height m_ripe m_foot m_fork m_told m_hand := dt_X10_layHands_ h (fun o eo hp => hp eo)
noncomputable def F_X10_layHands (m_fruits : Int32) (m_standings : Int32) (m_wanted : Int32) (m_now : Nat → Int32) (m_x : Nat → Int32) (m_height : Nat → Int32) (m_ripe : Nat → Int32) (m_foot : Nat → Int32) (m_fork : Nat → Int32) (m_told : Nat → Int32) (m_hand : Nat → Int32) : Int32 × (Nat → Int32) := ((F_X10_layHands_ (m_now (18 : Int32).toNatClampNeg) m_fruits m_standings m_wanted m_now m_x m_height m_ripe m_foot m_fork m_told m_hand).1, (F_X10_layHands_ (m_now (18 : Int32).toNatClampNeg) m_fruits m_standings m_wanted m_now m_x m_height m_ripe m_foot m_fork m_told m_hand).2)
set_option maxHeartbeats 200000 in
set_option maxRecDepth 10000 in
theorem dt_X10_layHands {P Q : Int32 → (Nat → Int32) → Prop} {m_fruits : Int32} {m_standings : Int32} {m_wanted : Int32} {m_now : Nat → Int32} {m_x : Nat → Int32} {m_height : Nat → Int32} {m_ripe : Nat → Int32} {m_foot : Nat → Int32} {m_fork : Nat → Int32} {m_told : Nat → Int32} {m_hand : Nat → Int32} (h : wp_X10_layHands P m_fruits m_standings m_wanted m_now m_x m_height m_ripe m_foot m_fork m_told m_hand) (hq : ∀ o : Int32 × (Nat → Int32), o = F_X10_layHands m_fruits m_standings m_wanted m_now m_x m_height m_ripe m_foot m_fork m_told m_hand → P o.1 o.2 → Q o.1 o.2) : wp_X10_layHands Q m_fruits m_standings m_wanted m_now m_x m_height m_ripe m_foot m_fork m_told m_hand := by
  rw [F_X10_layHands] at hq
  refine ae ?_
  have h := h _ rfl
  refine du_X10_layHands_ h ?_
  intro h
  have q9 := hq _ rfl
  dsimp only at q9
  exact q9 h
theorem du_X10_layHands {P Q : Int32 → (Nat → Int32) → Prop} {m_fruits : Int32} {m_standings : Int32} {m_wanted : Int32} {m_now : Nat → Int32} {m_x : Nat → Int32} {m_height : Nat → Int32} {m_ripe : Nat → Int32} {m_foot : Nat → Int32} {m_fork : Nat → Int32} {m_told : Nat → Int32} {m_hand : Nat → Int32} (h : wp_X10_layHands P m_fruits m_standings m_wanted m_now m_x m_height m_ripe m_foot m_fork m_told m_hand) (hq : P (F_X10_layHands m_fruits m_standings m_wanted m_now m_x m_height m_ripe m_foot m_fork m_told m_hand).1 (F_X10_layHands m_fruits m_standings m_wanted m_now m_x m_height m_ripe m_foot m_fork m_told m_hand).2 → Q (F_X10_layHands m_fruits m_standings m_wanted m_now m_x m_height m_ripe m_foot m_fork m_told m_hand).1 (F_X10_layHands m_fruits m_standings m_wanted m_now m_x m_height m_ripe m_foot m_fork m_told m_hand).2) : wp_X10_layHands Q m_fruits m_standings m_wanted m_now m_x m_height m_ripe m_foot m_fork m_told m_hand := dt_X10_layHands h (fun o eo => by rw [eo]; exact hq)
theorem dw_X10_layHands {Q : Int32 → (Nat → Int32) → Prop} {m_fruits : Int32} {m_standings : Int32} {m_wanted : Int32} {m_now : Nat → Int32} {m_x : Nat → Int32} {m_height : Nat → Int32} {m_ripe : Nat → Int32} {m_foot : Nat → Int32} {m_fork : Nat → Int32} {m_told : Nat → Int32} {m_hand : Nat → Int32} (h : wp_X10_layHands (fun o0 o1 => (o0, o1) = F_X10_layHands m_fruits m_standings m_wanted m_now m_x m_height m_ripe m_foot m_fork m_told m_hand → Q o0 o1) m_fruits m_standings m_wanted m_now m_x m_height m_ripe m_foot m_fork m_told m_hand) : wp_X10_layHands Q m_fruits m_standings m_wanted m_now m_x m_height m_ripe m_foot m_fork m_told m_hand := dt_X10_layHands h (fun o eo hp => hp eo)
noncomputable def F_X10_both (p0 : Int32) (p1 : Int32) (m_fruits : Int32) (m_standings : Int32) (m_rowMany : Int32) (m_thrown : Int32) (m_wanted : Int32) (m_now : Nat → Int32) (m_x : Nat → Int32) (m_height : Nat → Int32) (m_ripe : Nat → Int32) (m_foot : Nat → Int32) (m_fork : Nat → Int32) (m_told : Nat → Int32) (m_row : Nat → Int32) (m_hand : Nat → Int32) : Int32 × Int32 × Int32 × Int32 × (Nat → Int32) × (Nat → Int32) := if (F_X10_isStanding p0 m_standings) = 0 then ((-1), m_rowMany, 0, m_wanted, m_row, m_hand) else (if (F_X10_isStanding p1 m_standings) = 0 then ((-1), m_rowMany, 0, m_wanted, m_row, m_hand) else (if p0 = p1 then ((-1), m_rowMany, 0, m_wanted, m_row, m_hand) else ((((F_X10_layHands m_fruits m_standings m_wanted m_now m_x m_height m_ripe m_foot m_fork m_told m_hand).1 &&& ((F_X10_layHands m_fruits m_standings m_wanted m_now m_x m_height m_ripe m_foot m_fork m_told m_hand).2 p0.toNatClampNeg)) &&& ((F_X10_layHands m_fruits m_standings m_wanted m_now m_x m_height m_ripe m_foot m_fork m_told m_hand).2 p1.toNatClampNeg)), (F_X10_tell (((F_X10_layHands m_fruits m_standings m_wanted m_now m_x m_height m_ripe m_foot m_fork m_told m_hand).1 &&& ((F_X10_layHands m_fruits m_standings m_wanted m_now m_x m_height m_ripe m_foot m_fork m_told m_hand).2 p1.toNatClampNeg)) &&& (((F_X10_layHands m_fruits m_standings m_wanted m_now m_x m_height m_ripe m_foot m_fork m_told m_hand).2 p0.toNatClampNeg) ^^^ (-1))) (F_X10_tell (((F_X10_layHands m_fruits m_standings m_wanted m_now m_x m_height m_ripe m_foot m_fork m_told m_hand).1 &&& ((F_X10_layHands m_fruits m_standings m_wanted m_now m_x m_height m_ripe m_foot m_fork m_told m_hand).2 p0.toNatClampNeg)) &&& (((F_X10_layHands m_fruits m_standings m_wanted m_now m_x m_height m_ripe m_foot m_fork m_told m_hand).2 p1.toNatClampNeg) ^^^ (-1))) 0 m_row).1 (F_X10_tell (((F_X10_layHands m_fruits m_standings m_wanted m_now m_x m_height m_ripe m_foot m_fork m_told m_hand).1 &&& ((F_X10_layHands m_fruits m_standings m_wanted m_now m_x m_height m_ripe m_foot m_fork m_told m_hand).2 p0.toNatClampNeg)) &&& (((F_X10_layHands m_fruits m_standings m_wanted m_now m_x m_height m_ripe m_foot m_fork m_told m_hand).2 p1.toNatClampNeg) ^^^ (-1))) 0 m_row).2).1, 0, (F_X10_layHands m_fruits m_standings m_wanted m_now m_x m_height m_ripe m_foot m_fork m_told m_hand).1, (F_X10_tell (((F_X10_layHands m_fruits m_standings m_wanted m_now m_x m_height m_ripe m_foot m_fork m_told m_hand).1 &&& ((F_X10_layHands m_fruits m_standings m_wanted m_now m_x m_height m_ripe m_foot m_fork m_told m_hand).2 p1.toNatClampNeg)) &&& (((F_X10_layHands m_fruits m_standings m_wanted m_now m_x m_height m_ripe m_foot m_fork m_told m_hand).2 p0.toNatClampNeg) ^^^ (-1))) (F_X10_tell (((F_X10_layHands m_fruits m_standings m_wanted m_now m_x m_height m_ripe m_foot m_fork m_told m_hand).1 &&& ((F_X10_layHands m_fruits m_standings m_wanted m_now m_x m_height m_ripe m_foot m_fork m_told m_hand).2 p0.toNatClampNeg)) &&& (((F_X10_layHands m_fruits m_standings m_wanted m_now m_x m_height m_ripe m_foot m_fork m_told m_hand).2 p1.toNatClampNeg) ^^^ (-1))) 0 m_row).1 (F_X10_tell (((F_X10_layHands m_fruits m_standings m_wanted m_now m_x m_height m_ripe m_foot m_fork m_told m_hand).1 &&& ((F_X10_layHands m_fruits m_standings m_wanted m_now m_x m_height m_ripe m_foot m_fork m_told m_hand).2 p0.toNatClampNeg)) &&& (((F_X10_layHands m_fruits m_standings m_wanted m_now m_x m_height m_ripe m_foot m_fork m_told m_hand).2 p1.toNatClampNeg) ^^^ (-1))) 0 m_row).2).2, (F_X10_layHands m_fruits m_standings m_wanted m_now m_x m_height m_ripe m_foot m_fork m_told m_hand).2)))
set_option maxHeartbeats 200000 in
set_option maxRecDepth 10000 in
theorem dt_X10_both {P Q : Int32 → Int32 → Int32 → Int32 → (Nat → Int32) → (Nat → Int32) → Prop} {p0 : Int32} {p1 : Int32} {m_fruits : Int32} {m_standings : Int32} {m_rowMany : Int32} {m_thrown : Int32} {m_wanted : Int32} {m_now : Nat → Int32} {m_x : Nat → Int32} {m_height : Nat → Int32} {m_ripe : Nat → Int32} {m_foot : Nat → Int32} {m_fork : Nat → Int32} {m_told : Nat → Int32} {m_row : Nat → Int32} {m_hand : Nat → Int32} (h : wp_X10_both P p0 p1 m_fruits m_standings m_rowMany m_thrown m_wanted m_now m_x m_height m_ripe m_foot m_fork m_told m_row m_hand) (hq : ∀ o : Int32 × Int32 × Int32 × Int32 × (Nat → Int32) × (Nat → Int32), o = F_X10_both p0 p1 m_fruits m_standings m_rowMany m_thrown m_wanted m_now m_x m_height m_ripe m_foot m_fork m_told m_row m_hand → P o.1 o.2.1 o.2.2.1 o.2.2.2.1 o.2.2.2.2.1 o.2.2.2.2.2 → Q o.1 o.2.1 o.2.2.1 o.2.2.2.1 o.2.2.2.2.1 o.2.2.2.2.2) : wp_X10_both Q p0 p1 m_fruits m_standings m_rowMany m_thrown m_wanted m_now m_x m_height m_ripe m_foot m_fork m_told m_row m_hand := by
  rw [F_X10_both] at hq
  refine du_X10_isStanding h ?_
  intro h
  refine And.intro (fun c1 => ?_) (fun c1 => ?_)
  · have h := And.left h c1
    rw [if_pos c1] at hq
    have q9 := hq _ rfl
    dsimp only at q9
    exact q9 h
  · have h := And.right h c1
    rw [if_neg c1] at hq
    refine du_X10_isStanding h ?_
    intro h
    refine And.intro (fun c2 => ?_) (fun c2 => ?_)
    · have h := And.left h c2
      rw [if_pos c2] at hq
      have q9 := hq _ rfl
      dsimp only at q9
      exact q9 h
    · have h := And.right h c2
      rw [if_neg c2] at hq
      refine And.intro (fun c3 => ?_) (fun c3 => ?_)
      · have h := And.left h c3
        rw [if_neg c3] at hq
        refine du_X10_layHands h ?_
        intro h
        refine And.intro (And.left h) ?_
        have h := And.right h
        refine ae ?_
        have h := h _ rfl
        refine And.intro (And.left h) ?_
        have h := And.right h
        refine ae ?_
        have h := h _ rfl
        refine ae ?_
        have h := h _ rfl
        refine du_X10_tell h ?_
        intro h
        refine And.intro (And.left h) ?_
        have h := And.right h
        refine ae ?_
        have h := h _ rfl
        refine And.intro (And.left h) ?_
        have h := And.right h
        refine ae ?_
        have h := h _ rfl
        refine ae ?_
        have h := h _ rfl
        refine du_X10_tell h ?_
        intro h
        refine And.intro (And.left h) ?_
        have h := And.right h
        refine ae ?_
        have h := h _ rfl
        refine And.intro (And.left h) ?_
        have h := And.right h
        have q9 := hq _ rfl
        dsimp only at q9
        exact q9 h
      · have h := And.right h c3
        rw [if_pos c3] at hq
        have q9 := hq _ rfl
        dsimp only at q9
        exact q9 h
theorem du_X10_both {P Q : Int32 → Int32 → Int32 → Int32 → (Nat → Int32) → (Nat → Int32) → Prop} {p0 : Int32} {p1 : Int32} {m_fruits : Int32} {m_standings : Int32} {m_rowMany : Int32} {m_thrown : Int32} {m_wanted : Int32} {m_now : Nat → Int32} {m_x : Nat → Int32} {m_height : Nat → Int32} {m_ripe : Nat → Int32} {m_foot : Nat → Int32} {m_fork : Nat → Int32} {m_told : Nat → Int32} {m_row : Nat → Int32} {m_hand : Nat → Int32} (h : wp_X10_both P p0 p1 m_fruits m_standings m_rowMany m_thrown m_wanted m_now m_x m_height m_ripe m_foot m_fork m_told m_row m_hand) (hq : P (F_X10_both p0 p1 m_fruits m_standings m_rowMany m_thrown m_wanted m_now m_x m_height m_ripe m_foot m_fork m_told m_row m_hand).1 (F_X10_both p0 p1 m_fruits m_standings m_rowMany m_thrown m_wanted m_now m_x m_height m_ripe m_foot m_fork m_told m_row m_hand).2.1 (F_X10_both p0 p1 m_fruits m_standings m_rowMany m_thrown m_wanted m_now m_x m_height m_ripe m_foot m_fork m_told m_row m_hand).2.2.1 (F_X10_both p0 p1 m_fruits m_standings m_rowMany m_thrown m_wanted m_now m_x m_height m_ripe m_foot m_fork m_told m_row m_hand).2.2.2.1 (F_X10_both p0 p1 m_fruits m_standings m_rowMany m_thrown m_wanted m_now m_x m_height m_ripe m_foot m_fork m_told m_row m_hand).2.2.2.2.1 (F_X10_both p0 p1 m_fruits m_standings m_rowMany m_thrown m_wanted m_now m_x m_height m_ripe m_foot m_fork m_told m_row m_hand).2.2.2.2.2 → Q (F_X10_both p0 p1 m_fruits m_standings m_rowMany m_thrown m_wanted m_now m_x m_height m_ripe m_foot m_fork m_told m_row m_hand).1 (F_X10_both p0 p1 m_fruits m_standings m_rowMany m_thrown m_wanted m_now m_x m_height m_ripe m_foot m_fork m_told m_row m_hand).2.1 (F_X10_both p0 p1 m_fruits m_standings m_rowMany m_thrown m_wanted m_now m_x m_height m_ripe m_foot m_fork m_told m_row m_hand).2.2.1 (F_X10_both p0 p1 m_fruits m_standings m_rowMany m_thrown m_wanted m_now m_x m_height m_ripe m_foot m_fork m_told m_row m_hand).2.2.2.1 (F_X10_both p0 p1 m_fruits m_standings m_rowMany m_thrown m_wanted m_now m_x m_height m_ripe m_foot m_fork m_told m_row m_hand).2.2.2.2.1 (F_X10_both p0 p1 m_fruits m_standings m_rowMany m_thrown m_wanted m_now m_x m_height m_ripe m_foot m_fork m_told m_row m_hand).2.2.2.2.2) : wp_X10_both Q p0 p1 m_fruits m_standings m_rowMany m_thrown m_wanted m_now m_x m_height m_ripe m_foot m_fork m_told m_row m_hand := dt_X10_both h (fun o eo => by rw [eo]; exact hq)
theorem dw_X10_both {Q : Int32 → Int32 → Int32 → Int32 → (Nat → Int32) → (Nat → Int32) → Prop} {p0 : Int32} {p1 : Int32} {m_fruits : Int32} {m_standings : Int32} {m_rowMany : Int32} {m_thrown : Int32} {m_wanted : Int32} {m_now : Nat → Int32} {m_x : Nat → Int32} {m_height : Nat → Int32} {m_ripe : Nat → Int32} {m_foot : Nat → Int32} {m_fork : Nat → Int32} {m_told : Nat → Int32} {m_row : Nat → Int32} {m_hand : Nat → Int32} (h : wp_X10_both (fun o0 o1 o2 o3 o4 o5 => (o0, o1, o2, o3, o4, o5) = F_X10_both p0 p1 m_fruits m_standings m_rowMany m_thrown m_wanted m_now m_x m_height m_ripe m_foot m_fork m_told m_row m_hand → Q o0 o1 o2 o3 o4 o5) p0 p1 m_fruits m_standings m_rowMany m_thrown m_wanted m_now m_x m_height m_ripe m_foot m_fork m_told m_row m_hand) : wp_X10_both Q p0 p1 m_fruits m_standings m_rowMany m_thrown m_wanted m_now m_x m_height m_ripe m_foot m_fork m_told m_row m_hand := dt_X10_both h (fun o eo hp => hp eo)
noncomputable def j_J6_numberOfTrailingZeros_0f7a4_74 {R : Type} (po : Int32 → R) (x0 : Int32) (x1 : Int32) : R := po (x1 + ((x0.toUInt32 >>> ((1 : Int32).toUInt32 &&& Int32.toUInt32 31)).toInt32))
noncomputable def j_J6_numberOfTrailingZeros_0f7a4_62 {R : Type} (po : Int32 → R) (x0 : Int32) (x1 : Int32) : R := if x0 ≤ 4 then (j_J6_numberOfTrailingZeros_0f7a4_74 po x0 x1) else (j_J6_numberOfTrailingZeros_0f7a4_74 po ((x0.toUInt32 >>> ((2 : Int32).toUInt32 &&& Int32.toUInt32 31)).toInt32) (x1 + 2))
noncomputable def j_J6_numberOfTrailingZeros_0f7a4_49 {R : Type} (po : Int32 → R) (x0 : Int32) (x1 : Int32) : R := if x0 ≤ 16 then (j_J6_numberOfTrailingZeros_0f7a4_62 po x0 x1) else (j_J6_numberOfTrailingZeros_0f7a4_62 po ((x0.toUInt32 >>> ((4 : Int32).toUInt32 &&& Int32.toUInt32 31)).toInt32) (x1 + 4))
noncomputable def j_J6_numberOfTrailingZeros_0f7a4_34 {R : Type} (po : Int32 → R) (x0 : Int32) (x1 : Int32) : R := if x0 ≤ 256 then (j_J6_numberOfTrailingZeros_0f7a4_49 po x0 x1) else (j_J6_numberOfTrailingZeros_0f7a4_49 po ((x0.toUInt32 >>> ((8 : Int32).toUInt32 &&& Int32.toUInt32 31)).toInt32) (x1 + 8))
noncomputable def F_J6_numberOfTrailingZeros_0f7a4 (p0 : Int32) : Int32 := if 0 < ((p0 ^^^ (-1)) &&& (p0 - 1)) then (if ((p0 ^^^ (-1)) &&& (p0 - 1)) ≤ 65536 then (j_J6_numberOfTrailingZeros_0f7a4_34 (fun o0 => o0) ((p0 ^^^ (-1)) &&& (p0 - 1)) 1) else (j_J6_numberOfTrailingZeros_0f7a4_34 (fun o0 => o0) ((((p0 ^^^ (-1)) &&& (p0 - 1)).toUInt32 >>> ((16 : Int32).toUInt32 &&& Int32.toUInt32 31)).toInt32) (1 + 16))) else (((p0 ^^^ (-1)) &&& (p0 - 1)) &&& 32)
set_option maxHeartbeats 200000 in
set_option maxRecDepth 10000 in
theorem dt_J6_numberOfTrailingZeros_0f7a4 {P Q : Int32 → Prop} {p0 : Int32} (h : wp_J6_numberOfTrailingZeros_0f7a4 P p0) (hq : ∀ o : Int32, o = F_J6_numberOfTrailingZeros_0f7a4 p0 → P o → Q o) : wp_J6_numberOfTrailingZeros_0f7a4 Q p0 := by
  rw [F_J6_numberOfTrailingZeros_0f7a4] at hq
  refine ae ?_
  have h := h _ rfl
  refine ae ?_
  have h := h _ rfl
  refine And.intro (fun c1 => ?_) (fun c1 => ?_)
  · have h := And.left h c1
    rw [if_pos c1] at hq
    refine And.intro (fun c2 => ?_) (fun c2 => ?_)
    · have h := And.left h c2
      rw [if_pos c2] at hq
      rw [j_J6_numberOfTrailingZeros_0f7a4_34] at hq
      unfold ws_J6_numberOfTrailingZeros_0f7a4_34 at h ⊢
      refine And.intro (fun c3 => ?_) (fun c3 => ?_)
      · have h := And.left h c3
        rw [if_pos c3] at hq
        rw [j_J6_numberOfTrailingZeros_0f7a4_49] at hq
        unfold ws_J6_numberOfTrailingZeros_0f7a4_49 at h ⊢
        refine And.intro (fun c4 => ?_) (fun c4 => ?_)
        · have h := And.left h c4
          rw [if_pos c4] at hq
          rw [j_J6_numberOfTrailingZeros_0f7a4_62] at hq
          unfold ws_J6_numberOfTrailingZeros_0f7a4_62 at h ⊢
          refine And.intro (fun c5 => ?_) (fun c5 => ?_)
          · have h := And.left h c5
            rw [if_pos c5] at hq
            rw [j_J6_numberOfTrailingZeros_0f7a4_74] at hq
            unfold ws_J6_numberOfTrailingZeros_0f7a4_74 at h ⊢
            have q9 := hq _ rfl
            exact q9 h
          · have h := And.right h c5
            rw [if_neg c5] at hq
            refine ae ?_
            have h := h _ rfl
            refine ae ?_
            have h := h _ rfl
            rw [j_J6_numberOfTrailingZeros_0f7a4_74] at hq
            unfold ws_J6_numberOfTrailingZeros_0f7a4_74 at h ⊢
            have q9 := hq _ rfl
            exact q9 h
        · have h := And.right h c4
          rw [if_neg c4] at hq
          refine ae ?_
          have h := h _ rfl
          refine ae ?_
          have h := h _ rfl
          rw [j_J6_numberOfTrailingZeros_0f7a4_62] at hq
          unfold ws_J6_numberOfTrailingZeros_0f7a4_62 at h ⊢
          refine And.intro (fun c6 => ?_) (fun c6 => ?_)
          · have h := And.left h c6
            rw [if_pos c6] at hq
            rw [j_J6_numberOfTrailingZeros_0f7a4_74] at hq
            unfold ws_J6_numberOfTrailingZeros_0f7a4_74 at h ⊢
            have q9 := hq _ rfl
            exact q9 h
          · have h := And.right h c6
            rw [if_neg c6] at hq
            refine ae ?_
            have h := h _ rfl
            refine ae ?_
            have h := h _ rfl
            rw [j_J6_numberOfTrailingZeros_0f7a4_74] at hq
            unfold ws_J6_numberOfTrailingZeros_0f7a4_74 at h ⊢
            have q9 := hq _ rfl
            exact q9 h
      · have h := And.right h c3
        rw [if_neg c3] at hq
        refine ae ?_
        have h := h _ rfl
        refine ae ?_
        have h := h _ rfl
        rw [j_J6_numberOfTrailingZeros_0f7a4_49] at hq
        unfold ws_J6_numberOfTrailingZeros_0f7a4_49 at h ⊢
        refine And.intro (fun c7 => ?_) (fun c7 => ?_)
        · have h := And.left h c7
          rw [if_pos c7] at hq
          rw [j_J6_numberOfTrailingZeros_0f7a4_62] at hq
          unfold ws_J6_numberOfTrailingZeros_0f7a4_62 at h ⊢
          refine And.intro (fun c8 => ?_) (fun c8 => ?_)
          · have h := And.left h c8
            rw [if_pos c8] at hq
            rw [j_J6_numberOfTrailingZeros_0f7a4_74] at hq
            unfold ws_J6_numberOfTrailingZeros_0f7a4_74 at h ⊢
            have q9 := hq _ rfl
            exact q9 h
          · have h := And.right h c8
            rw [if_neg c8] at hq
            refine ae ?_
            have h := h _ rfl
            refine ae ?_
            have h := h _ rfl
            rw [j_J6_numberOfTrailingZeros_0f7a4_74] at hq
            unfold ws_J6_numberOfTrailingZeros_0f7a4_74 at h ⊢
            have q9 := hq _ rfl
            exact q9 h
        · have h := And.right h c7
          rw [if_neg c7] at hq
          refine ae ?_
          have h := h _ rfl
          refine ae ?_
          have h := h _ rfl
          rw [j_J6_numberOfTrailingZeros_0f7a4_62] at hq
          unfold ws_J6_numberOfTrailingZeros_0f7a4_62 at h ⊢
          refine And.intro (fun c9 => ?_) (fun c9 => ?_)
          · have h := And.left h c9
            rw [if_pos c9] at hq
            rw [j_J6_numberOfTrailingZeros_0f7a4_74] at hq
            unfold ws_J6_numberOfTrailingZeros_0f7a4_74 at h ⊢
            have q9 := hq _ rfl
            exact q9 h
          · have h := And.right h c9
            rw [if_neg c9] at hq
            refine ae ?_
            have h := h _ rfl
            refine ae ?_
            have h := h _ rfl
            rw [j_J6_numberOfTrailingZeros_0f7a4_74] at hq
            unfold ws_J6_numberOfTrailingZeros_0f7a4_74 at h ⊢
            have q9 := hq _ rfl
            exact q9 h
    · have h := And.right h c2
      rw [if_neg c2] at hq
      refine ae ?_
      have h := h _ rfl
      refine ae ?_
      have h := h _ rfl
      rw [j_J6_numberOfTrailingZeros_0f7a4_34] at hq
      unfold ws_J6_numberOfTrailingZeros_0f7a4_34 at h ⊢
      refine And.intro (fun c10 => ?_) (fun c10 => ?_)
      · have h := And.left h c10
        rw [if_pos c10] at hq
        rw [j_J6_numberOfTrailingZeros_0f7a4_49] at hq
        unfold ws_J6_numberOfTrailingZeros_0f7a4_49 at h ⊢
        refine And.intro (fun c11 => ?_) (fun c11 => ?_)
        · have h := And.left h c11
          rw [if_pos c11] at hq
          rw [j_J6_numberOfTrailingZeros_0f7a4_62] at hq
          unfold ws_J6_numberOfTrailingZeros_0f7a4_62 at h ⊢
          refine And.intro (fun c12 => ?_) (fun c12 => ?_)
          · have h := And.left h c12
            rw [if_pos c12] at hq
            rw [j_J6_numberOfTrailingZeros_0f7a4_74] at hq
            unfold ws_J6_numberOfTrailingZeros_0f7a4_74 at h ⊢
            have q9 := hq _ rfl
            exact q9 h
          · have h := And.right h c12
            rw [if_neg c12] at hq
            refine ae ?_
            have h := h _ rfl
            refine ae ?_
            have h := h _ rfl
            rw [j_J6_numberOfTrailingZeros_0f7a4_74] at hq
            unfold ws_J6_numberOfTrailingZeros_0f7a4_74 at h ⊢
            have q9 := hq _ rfl
            exact q9 h
        · have h := And.right h c11
          rw [if_neg c11] at hq
          refine ae ?_
          have h := h _ rfl
          refine ae ?_
          have h := h _ rfl
          rw [j_J6_numberOfTrailingZeros_0f7a4_62] at hq
          unfold ws_J6_numberOfTrailingZeros_0f7a4_62 at h ⊢
          refine And.intro (fun c13 => ?_) (fun c13 => ?_)
          · have h := And.left h c13
            rw [if_pos c13] at hq
            rw [j_J6_numberOfTrailingZeros_0f7a4_74] at hq
            unfold ws_J6_numberOfTrailingZeros_0f7a4_74 at h ⊢
            have q9 := hq _ rfl
            exact q9 h
          · have h := And.right h c13
            rw [if_neg c13] at hq
            refine ae ?_
            have h := h _ rfl
            refine ae ?_
            have h := h _ rfl
            rw [j_J6_numberOfTrailingZeros_0f7a4_74] at hq
            unfold ws_J6_numberOfTrailingZeros_0f7a4_74 at h ⊢
            have q9 := hq _ rfl
            exact q9 h
      · have h := And.right h c10
        rw [if_neg c10] at hq
        refine ae ?_
        have h := h _ rfl
        refine ae ?_
        have h := h _ rfl
        rw [j_J6_numberOfTrailingZeros_0f7a4_49] at hq
        unfold ws_J6_numberOfTrailingZeros_0f7a4_49 at h ⊢
        refine And.intro (fun c14 => ?_) (fun c14 => ?_)
        · have h := And.left h c14
          rw [if_pos c14] at hq
          rw [j_J6_numberOfTrailingZeros_0f7a4_62] at hq
          unfold ws_J6_numberOfTrailingZeros_0f7a4_62 at h ⊢
          refine And.intro (fun c15 => ?_) (fun c15 => ?_)
          · have h := And.left h c15
            rw [if_pos c15] at hq
            rw [j_J6_numberOfTrailingZeros_0f7a4_74] at hq
            unfold ws_J6_numberOfTrailingZeros_0f7a4_74 at h ⊢
            have q9 := hq _ rfl
            exact q9 h
          · have h := And.right h c15
            rw [if_neg c15] at hq
            refine ae ?_
            have h := h _ rfl
            refine ae ?_
            have h := h _ rfl
            rw [j_J6_numberOfTrailingZeros_0f7a4_74] at hq
            unfold ws_J6_numberOfTrailingZeros_0f7a4_74 at h ⊢
            have q9 := hq _ rfl
            exact q9 h
        · have h := And.right h c14
          rw [if_neg c14] at hq
          refine ae ?_
          have h := h _ rfl
          refine ae ?_
          have h := h _ rfl
          rw [j_J6_numberOfTrailingZeros_0f7a4_62] at hq
          unfold ws_J6_numberOfTrailingZeros_0f7a4_62 at h ⊢
          refine And.intro (fun c16 => ?_) (fun c16 => ?_)
          · have h := And.left h c16
            rw [if_pos c16] at hq
            rw [j_J6_numberOfTrailingZeros_0f7a4_74] at hq
            unfold ws_J6_numberOfTrailingZeros_0f7a4_74 at h ⊢
            have q9 := hq _ rfl
            exact q9 h
          · have h := And.right h c16
            rw [if_neg c16] at hq
            refine ae ?_
            have h := h _ rfl
            refine ae ?_
            have h := h _ rfl
            rw [j_J6_numberOfTrailingZeros_0f7a4_74] at hq
            unfold ws_J6_numberOfTrailingZeros_0f7a4_74 at h ⊢
            have q9 := hq _ rfl
            exact q9 h
  · have h := And.right h c1
    rw [if_neg c1] at hq
    have q9 := hq _ rfl
    exact q9 h
theorem du_J6_numberOfTrailingZeros_0f7a4 {P Q : Int32 → Prop} {p0 : Int32} (h : wp_J6_numberOfTrailingZeros_0f7a4 P p0) (hq : P (F_J6_numberOfTrailingZeros_0f7a4 p0) → Q (F_J6_numberOfTrailingZeros_0f7a4 p0)) : wp_J6_numberOfTrailingZeros_0f7a4 Q p0 := dt_J6_numberOfTrailingZeros_0f7a4 h (fun o eo => by rw [eo]; exact hq)
noncomputable def F_X10_isRowAhead (p0 : Int32) (p1 : Int32) : Int32 := (F_X10_has p0 (F_J6_numberOfTrailingZeros_0f7a4 (p0 ^^^ p1)))
set_option maxHeartbeats 200000 in
set_option maxRecDepth 10000 in
theorem dt_X10_isRowAhead {P Q : Int32 → Prop} {p0 : Int32} {p1 : Int32} (h : wp_X10_isRowAhead P p0 p1) (hq : ∀ o : Int32, o = F_X10_isRowAhead p0 p1 → P o → Q o) : wp_X10_isRowAhead Q p0 p1 := by
  rw [F_X10_isRowAhead] at hq
  refine ae ?_
  have h := h _ rfl
  refine du_J6_numberOfTrailingZeros_0f7a4 h ?_
  intro h
  refine du_X10_has h ?_
  intro h
  refine And.intro (And.left h) ?_
  have h := And.right h
  have q9 := hq _ rfl
  exact q9 h
theorem du_X10_isRowAhead {P Q : Int32 → Prop} {p0 : Int32} {p1 : Int32} (h : wp_X10_isRowAhead P p0 p1) (hq : P (F_X10_isRowAhead p0 p1) → Q (F_X10_isRowAhead p0 p1)) : wp_X10_isRowAhead Q p0 p1 := dt_X10_isRowAhead h (fun o eo => by rw [eo]; exact hq)
theorem dw_X10_isRowAhead {Q : Int32 → Prop} {p0 : Int32} {p1 : Int32} (h : wp_X10_isRowAhead (fun o0 => o0 = F_X10_isRowAhead p0 p1 → Q o0) p0 p1) : wp_X10_isRowAhead Q p0 p1 := dt_X10_isRowAhead h (fun o eo hp => hp eo)
noncomputable def j_X10_cover_67 {R : Type} (k4 : Int32 → Int32 → Int32 → R) (m_standings : Int32) (m_hand : Nat → Int32) (x1 : Int32) (x2 : Int32) (x3 : Int32) : R := k4 x1 x2 (x3 + 1)
noncomputable def j_X10_cover_65 {R : Type} (k4 : Int32 → Int32 → Int32 → R) (m_standings : Int32) (m_hand : Nat → Int32) (x1 : Int32) (x3 : Int32) : R := j_X10_cover_67 k4 m_standings m_hand x1 x3 x3
noncomputable def j_X10_cover_45 {R : Type} (k4 : Int32 → Int32 → Int32 → R) (m_standings : Int32) (m_hand : Nat → Int32) (x1 : Int32) (x2 : Int32) (x3 : Int32) (k0 : Int32) : R := if k0 < 0 then (j_X10_cover_65 k4 m_standings m_hand x1 x3) else (if k0 = 0 then (if (F_X10_isRowAhead x3 x2) = 0 then (j_X10_cover_67 k4 m_standings m_hand x1 x2 x3) else (j_X10_cover_65 k4 m_standings m_hand x1 x3)) else (j_X10_cover_67 k4 m_standings m_hand x1 x2 x3))
noncomputable def bd_X10_cover_4 (m_standings : Int32) (m_hand : Nat → Int32) (x1 : Int32) (c : Int32) (s : Int32) : Int32 := if (x1 &&& ((F_X10_handOf c m_standings m_hand) ^^^ (-1))) = 0 then (if s = (-1) then (j_X10_cover_45 (fun q0 q1 q2 => q1) m_standings m_hand x1 s c (-1)) else (j_X10_cover_45 (fun q0 q1 q2 => q1) m_standings m_hand x1 s c ((F_J6_bitCount_0f7a4 c) - (F_J6_bitCount_0f7a4 s)))) else (j_X10_cover_67 (fun q0 q1 q2 => q1) m_standings m_hand x1 s c)
noncomputable def ex_X10_cover_4 {R : Type} (po : Int32 → R) (m_standings : Int32) (m_hand : Nat → Int32) (x1 : Int32) (c : Int32) (s : Int32) : R := po s
set_option maxHeartbeats 200000 in
set_option maxRecDepth 10000 in
theorem dl_X10_cover_4 {P Q : Int32 → Prop} {m_standings : Int32} {m_hand : Nat → Int32} {x1 : Int32} {a : Int32} {i : Nat} (hi0 : i < 2147483648) (hz0 : Int32.toInt (F_X10_allStandings m_standings) < 2147483647) (hE : ∀ (c : Int32) (s : Int32), c = nI (i + (Int32.toInt (F_X10_allStandings m_standings) + 1 - ((i : Nat) : Int)).toNat) → s = itr (bd_X10_cover_4 m_standings m_hand x1) a i (Int32.toInt (F_X10_allStandings m_standings) + 1 - ((i : Nat) : Int)).toNat → (P s) → (Q s)) : ∀ (n k : Nat) (c : Int32), c = nI (i + k) → k ≤ (Int32.toInt (F_X10_allStandings m_standings) + 1 - ((i : Nat) : Int)).toNat → wb_X10_cover_4 P m_standings m_hand n x1 (itr (bd_X10_cover_4 m_standings m_hand x1) a i k) c → wb_X10_cover_4 Q m_standings m_hand n x1 (itr (bd_X10_cover_4 m_standings m_hand x1) a i k) c := by
  intro n
  induction n with
  | zero => intro k c hc hk h; exact False.elim h
  | succ n ih =>
    intro k c hc hk h
    have hr := tp_r (F_X10_allStandings m_standings)
    have hi : Int32.toInt c = ((i + k : Nat) : Int) := by rw [hc]; exact nI_toInt (by omega)
    have h : ws_X10_cover_4 P (wb_X10_cover_4 P m_standings m_hand n) m_standings m_hand x1 (itr (bd_X10_cover_4 m_standings m_hand x1) a i k) c := h
    show ws_X10_cover_4 Q (wb_X10_cover_4 Q m_standings m_hand n) m_standings m_hand x1 (itr (bd_X10_cover_4 m_standings m_hand x1) a i k) c
    unfold ws_X10_cover_4 at h ⊢
    refine du_X10_allStandings h ?_
    intro h
    refine And.intro (fun t0 => ?_) (fun t0 => ?_)
    · have h := And.left h t0
      have t1 := (fa_lt _ _).mp t0
      have hk2 : k = (Int32.toInt (F_X10_allStandings m_standings) + 1 - ((i : Nat) : Int)).toNat := by omega
      subst hk2
      exact hE _ _ hc rfl h
    · have h := And.right h t0
      have t1 := mt (fa_lt _ _).mpr t0
      have hs : ∀ o : Int32, o = itr (bd_X10_cover_4 m_standings m_hand x1) a i (k + 1) → wb_X10_cover_4 P m_standings m_hand n x1 o (c + 1) → wb_X10_cover_4 Q m_standings m_hand n x1 o (c + 1) := by
        intro o eo h9
        have q := ih (k + 1) (c + 1) (by rw [hc]; exact nI_1 _) (by omega)
        rw [← eo] at q
        exact q h9
      rw [itr_s, ← hc, bd_X10_cover_4] at hs
      refine du_X10_handOf h ?_
      intro h
      refine And.intro (fun c1 => ?_) (fun c1 => ?_)
      · have h := And.left h c1
        rw [if_pos c1] at hs
        refine And.intro (fun c2 => ?_) (fun c2 => ?_)
        · have h := And.left h c2
          rw [if_neg c2] at hs
          refine du_J6_bitCount_0f7a4 h ?_
          intro h
          refine du_J6_bitCount_0f7a4 h ?_
          intro h
          refine ae ?_
          have h := h _ rfl
          rw [j_X10_cover_45] at hs
          unfold ws_X10_cover_45 at h ⊢
          refine And.intro (fun c3 => ?_) (fun c3 => ?_)
          · have h := And.left h c3
            rw [if_pos c3] at hs
            rw [j_X10_cover_65] at hs
            unfold ws_X10_cover_65 at h ⊢
            rw [j_X10_cover_67] at hs
            unfold ws_X10_cover_67 at h ⊢
            refine ae ?_
            have h := h _ rfl
            have q9 := hs _ rfl
            exact q9 h
          · have h := And.right h c3
            rw [if_neg c3] at hs
            refine And.intro (fun c4 => ?_) (fun c4 => ?_)
            · have h := And.left h c4
              rw [if_neg c4] at hs
              rw [j_X10_cover_67] at hs
              unfold ws_X10_cover_67 at h ⊢
              refine ae ?_
              have h := h _ rfl
              have q9 := hs _ rfl
              exact q9 h
            · have h := And.right h c4
              rw [if_pos c4] at hs
              refine du_X10_isRowAhead h ?_
              intro h
              refine And.intro (fun c5 => ?_) (fun c5 => ?_)
              · have h := And.left h c5
                rw [if_pos c5] at hs
                rw [j_X10_cover_67] at hs
                unfold ws_X10_cover_67 at h ⊢
                refine ae ?_
                have h := h _ rfl
                have q9 := hs _ rfl
                exact q9 h
              · have h := And.right h c5
                rw [if_neg c5] at hs
                rw [j_X10_cover_65] at hs
                unfold ws_X10_cover_65 at h ⊢
                rw [j_X10_cover_67] at hs
                unfold ws_X10_cover_67 at h ⊢
                refine ae ?_
                have h := h _ rfl
                have q9 := hs _ rfl
                exact q9 h
        · have h := And.right h c2
          rw [if_pos c2] at hs
          rw [j_X10_cover_45] at hs
          unfold ws_X10_cover_45 at h ⊢
          refine And.intro (fun c6 => ?_) (fun c6 => ?_)
          · have h := And.left h c6
            rw [if_pos c6] at hs
            rw [j_X10_cover_65] at hs
            unfold ws_X10_cover_65 at h ⊢
            rw [j_X10_cover_67] at hs
            unfold ws_X10_cover_67 at h ⊢
            refine ae ?_
            have h := h _ rfl
            have q9 := hs _ rfl
            exact q9 h
          · have h := And.right h c6
            rw [if_neg c6] at hs
            refine And.intro (fun c7 => ?_) (fun c7 => ?_)
            · have h := And.left h c7
              rw [if_neg c7] at hs
              rw [j_X10_cover_67] at hs
              unfold ws_X10_cover_67 at h ⊢
              refine ae ?_
              have h := h _ rfl
              have q9 := hs _ rfl
              exact q9 h
            · have h := And.right h c7
              rw [if_pos c7] at hs
              refine du_X10_isRowAhead h ?_
              intro h
              refine And.intro (fun c8 => ?_) (fun c8 => ?_)
              · have h := And.left h c8
                rw [if_pos c8] at hs
                rw [j_X10_cover_67] at hs
                unfold ws_X10_cover_67 at h ⊢
                refine ae ?_
                have h := h _ rfl
                have q9 := hs _ rfl
                exact q9 h
              · have h := And.right h c8
                rw [if_neg c8] at hs
                rw [j_X10_cover_65] at hs
                unfold ws_X10_cover_65 at h ⊢
                rw [j_X10_cover_67] at hs
                unfold ws_X10_cover_67 at h ⊢
                refine ae ?_
                have h := h _ rfl
                have q9 := hs _ rfl
                exact q9 h
      · have h := And.right h c1
        rw [if_neg c1] at hs
        rw [j_X10_cover_67] at hs
        unfold ws_X10_cover_67 at h ⊢
        refine ae ?_
        have h := h _ rfl
        have q9 := hs _ rfl
        exact q9 h
noncomputable def F_X10_cover (p0 : Int32) (m_standings : Int32) (m_hand : Nat → Int32) : Int32 := ex_X10_cover_4 (fun o0 => o0) m_standings m_hand p0 (nI (0 + (Int32.toInt (F_X10_allStandings m_standings) + 1 - ((0 : Nat) : Int)).toNat)) (itr (bd_X10_cover_4 m_standings m_hand p0) (-1) 0 (Int32.toInt (F_X10_allStandings m_standings) + 1 - ((0 : Nat) : Int)).toNat)
set_option maxHeartbeats 200000 in
set_option maxRecDepth 10000 in
theorem dt_X10_cover {P Q : Int32 → Prop} {p0 : Int32} {m_standings : Int32} {m_hand : Nat → Int32} (hy0 : Int32.toInt (F_X10_allStandings m_standings) < 2147483647) (h : wp_X10_cover P p0 m_standings m_hand) (hq : ∀ o : Int32, o = F_X10_cover p0 m_standings m_hand → P o → Q o) : wp_X10_cover Q p0 m_standings m_hand := by
  rw [F_X10_cover] at hq
  obtain ⟨n1, h⟩ := h
  refine ⟨n1, dl_X10_cover_4 (a := (-1)) (i := 0) (by decide) hy0 ?_ n1 0 0 (by decide) (Nat.zero_le _) h⟩
  intro cc2 s3 ec4 es5 h
  rw [← ec4, ← es5, ex_X10_cover_4] at hq
  have q9 := hq _ rfl
  exact q9 h
theorem du_X10_cover {P Q : Int32 → Prop} {p0 : Int32} {m_standings : Int32} {m_hand : Nat → Int32} (hy0 : Int32.toInt (F_X10_allStandings m_standings) < 2147483647) (h : wp_X10_cover P p0 m_standings m_hand) (hq : P (F_X10_cover p0 m_standings m_hand) → Q (F_X10_cover p0 m_standings m_hand)) : wp_X10_cover Q p0 m_standings m_hand := dt_X10_cover hy0 h (fun o eo => by rw [eo]; exact hq)
theorem dw_X10_cover {Q : Int32 → Prop} {p0 : Int32} {m_standings : Int32} {m_hand : Nat → Int32} (hy0 : Int32.toInt (F_X10_allStandings m_standings) < 2147483647) (h : wp_X10_cover (fun o0 => o0 = F_X10_cover p0 m_standings m_hand → Q o0) p0 m_standings m_hand) : wp_X10_cover Q p0 m_standings m_hand := dt_X10_cover hy0 h (fun o eo hp => hp eo)
noncomputable def j_X10_tellCover_34 {R : Type} (k13 : Int32 → Int32 → Int32 → (Nat → Int32) → R) (m_standings : Int32) (m_hand : Nat → Int32) (x2 : Int32) (x3 : Int32) (m_rowMany : Int32) (m_row : Nat → Int32) : R := k13 x2 (x3 + 1) m_rowMany m_row
noncomputable def bd_X10_tellCover_13 (m_standings : Int32) (m_hand : Nat → Int32) (x2 : Int32) (c : Int32) (s : Int32 × (Nat → Int32)) : Int32 × (Nat → Int32) := if (F_X10_has x2 c) = 0 then (j_X10_tellCover_34 (fun q0 q1 q2 q3 => (q2, q3)) m_standings m_hand x2 c s.1 s.2) else (j_X10_tellCover_34 (fun q0 q1 q2 q3 => (q2, q3)) m_standings m_hand x2 c ((F_X10_tell c s.1 s.2).1) ((F_X10_tell c s.1 s.2).2))
noncomputable def ex_X10_tellCover_13 {R : Type} (po : Int32 → Int32 → (Nat → Int32) → R) (m_standings : Int32) (m_hand : Nat → Int32) (x2 : Int32) (c : Int32) (s : Int32 × (Nat → Int32)) : R := po (F_J6_bitCount_0f7a4 x2) s.1 s.2
set_option maxHeartbeats 200000 in
set_option maxRecDepth 10000 in
theorem dl_X10_tellCover_13 {P Q : Int32 → Int32 → (Nat → Int32) → Prop} {m_standings : Int32} {m_hand : Nat → Int32} {x2 : Int32} {a : Int32 × (Nat → Int32)} {i : Nat} (hi0 : i < 2147483648) (hE : ∀ (c : Int32) (s : Int32 × (Nat → Int32)), c = nI (i + (Int32.toInt m_standings - ((i : Nat) : Int)).toNat) → s = itr (bd_X10_tellCover_13 m_standings m_hand x2) a i (Int32.toInt m_standings - ((i : Nat) : Int)).toNat → (wp_J6_bitCount_0f7a4 (fun r_2 => P r_2 s.1 s.2) x2) → (wp_J6_bitCount_0f7a4 (fun r_2 => Q r_2 s.1 s.2) x2)) : ∀ (n k : Nat) (c : Int32), c = nI (i + k) → k ≤ (Int32.toInt m_standings - ((i : Nat) : Int)).toNat → wb_X10_tellCover_13 P m_standings m_hand n x2 c (itr (bd_X10_tellCover_13 m_standings m_hand x2) a i k).1 (itr (bd_X10_tellCover_13 m_standings m_hand x2) a i k).2 → wb_X10_tellCover_13 Q m_standings m_hand n x2 c (itr (bd_X10_tellCover_13 m_standings m_hand x2) a i k).1 (itr (bd_X10_tellCover_13 m_standings m_hand x2) a i k).2 := by
  intro n
  induction n with
  | zero => intro k c hc hk h; exact False.elim h
  | succ n ih =>
    intro k c hc hk h
    have hr := tp_r m_standings
    have hi : Int32.toInt c = ((i + k : Nat) : Int) := by rw [hc]; exact nI_toInt (by omega)
    refine And.intro (fun t0 => ?_) (fun t0 => ?_)
    · have h := And.left h t0
      have t1 := (fa_le _ _).mp t0
      have hk2 : k = (Int32.toInt m_standings - ((i : Nat) : Int)).toNat := by omega
      subst hk2
      exact hE _ _ hc rfl h
    · have h := And.right h t0
      have t1 := mt (fa_le _ _).mpr t0
      have hs : ∀ o : Int32 × (Nat → Int32), o = itr (bd_X10_tellCover_13 m_standings m_hand x2) a i (k + 1) → wb_X10_tellCover_13 P m_standings m_hand n x2 (c + 1) o.1 o.2 → wb_X10_tellCover_13 Q m_standings m_hand n x2 (c + 1) o.1 o.2 := by
        intro o eo h9
        have q := ih (k + 1) (c + 1) (by rw [hc]; exact nI_1 _) (by omega)
        rw [← eo] at q
        exact q h9
      rw [itr_s, ← hc, bd_X10_tellCover_13] at hs
      refine du_X10_has h ?_
      intro h
      refine And.intro (fun c1 => ?_) (fun c1 => ?_)
      · have h := And.left h c1
        rw [if_pos c1] at hs
        rw [j_X10_tellCover_34] at hs
        unfold ws_X10_tellCover_34 at h ⊢
        refine ae ?_
        have h := h _ rfl
        have q9 := hs _ rfl
        dsimp only at q9
        exact q9 h
      · have h := And.right h c1
        rw [if_neg c1] at hs
        refine du_X10_tell h ?_
        intro h
        rw [j_X10_tellCover_34] at hs
        unfold ws_X10_tellCover_34 at h ⊢
        refine ae ?_
        have h := h _ rfl
        have q9 := hs _ rfl
        dsimp only at q9
        exact q9 h
noncomputable def F_X10_tellCover (p0 : Int32) (m_standings : Int32) (m_rowMany : Int32) (m_row : Nat → Int32) (m_hand : Nat → Int32) : Int32 × Int32 × (Nat → Int32) := ex_X10_tellCover_13 (fun o0 o1 o2 => (o0, o1, o2)) m_standings m_hand (F_X10_cover p0 m_standings m_hand) (nI (0 + (Int32.toInt m_standings - ((0 : Nat) : Int)).toNat)) (itr (bd_X10_tellCover_13 m_standings m_hand (F_X10_cover p0 m_standings m_hand)) (0, m_row) 0 (Int32.toInt m_standings - ((0 : Nat) : Int)).toNat)
set_option maxHeartbeats 200000 in
set_option maxRecDepth 10000 in
theorem dt_X10_tellCover {P Q : Int32 → Int32 → (Nat → Int32) → Prop} {p0 : Int32} {m_standings : Int32} {m_rowMany : Int32} {m_row : Nat → Int32} {m_hand : Nat → Int32} (hy0 : Int32.toInt (F_X10_allStandings m_standings) < 2147483647) (h : wp_X10_tellCover P p0 m_standings m_rowMany m_row m_hand) (hq : ∀ o : Int32 × Int32 × (Nat → Int32), o = F_X10_tellCover p0 m_standings m_rowMany m_row m_hand → P o.1 o.2.1 o.2.2 → Q o.1 o.2.1 o.2.2) : wp_X10_tellCover Q p0 m_standings m_rowMany m_row m_hand := by
  rw [F_X10_tellCover] at hq
  refine du_X10_cover hy0 h ?_
  intro h
  obtain ⟨n1, h⟩ := h
  refine ⟨n1, dl_X10_tellCover_13 (a := (0, m_row)) (i := 0) (by decide) ?_ n1 0 0 (by decide) (Nat.zero_le _) h⟩
  intro cc2 s3 ec4 es5 h
  rw [← ec4, ← es5, ex_X10_tellCover_13] at hq
  refine du_J6_bitCount_0f7a4 h ?_
  intro h
  have q9 := hq _ rfl
  dsimp only at q9
  exact q9 h
theorem du_X10_tellCover {P Q : Int32 → Int32 → (Nat → Int32) → Prop} {p0 : Int32} {m_standings : Int32} {m_rowMany : Int32} {m_row : Nat → Int32} {m_hand : Nat → Int32} (hy0 : Int32.toInt (F_X10_allStandings m_standings) < 2147483647) (h : wp_X10_tellCover P p0 m_standings m_rowMany m_row m_hand) (hq : P (F_X10_tellCover p0 m_standings m_rowMany m_row m_hand).1 (F_X10_tellCover p0 m_standings m_rowMany m_row m_hand).2.1 (F_X10_tellCover p0 m_standings m_rowMany m_row m_hand).2.2 → Q (F_X10_tellCover p0 m_standings m_rowMany m_row m_hand).1 (F_X10_tellCover p0 m_standings m_rowMany m_row m_hand).2.1 (F_X10_tellCover p0 m_standings m_rowMany m_row m_hand).2.2) : wp_X10_tellCover Q p0 m_standings m_rowMany m_row m_hand := dt_X10_tellCover hy0 h (fun o eo => by rw [eo]; exact hq)
theorem dw_X10_tellCover {Q : Int32 → Int32 → (Nat → Int32) → Prop} {p0 : Int32} {m_standings : Int32} {m_rowMany : Int32} {m_row : Nat → Int32} {m_hand : Nat → Int32} (hy0 : Int32.toInt (F_X10_allStandings m_standings) < 2147483647) (h : wp_X10_tellCover (fun o0 o1 o2 => (o0, o1, o2) = F_X10_tellCover p0 m_standings m_rowMany m_row m_hand → Q o0 o1 o2) p0 m_standings m_rowMany m_row m_hand) : wp_X10_tellCover Q p0 m_standings m_rowMany m_row m_hand := dt_X10_tellCover hy0 h (fun o eo hp => hp eo)
noncomputable def F_X10_fewest (m_fruits : Int32) (m_standings : Int32) (m_rowMany : Int32) (m_thrown : Int32) (m_wanted : Int32) (m_now : Nat → Int32) (m_x : Nat → Int32) (m_height : Nat → Int32) (m_ripe : Nat → Int32) (m_foot : Nat → Int32) (m_fork : Nat → Int32) (m_told : Nat → Int32) (m_row : Nat → Int32) (m_hand : Nat → Int32) : Int32 × Int32 × Int32 × Int32 × (Nat → Int32) × (Nat → Int32) := ((F_X10_tellCover (F_X10_layHands m_fruits m_standings m_wanted m_now m_x m_height m_ripe m_foot m_fork m_told m_hand).1 m_standings m_rowMany m_row (F_X10_layHands m_fruits m_standings m_wanted m_now m_x m_height m_ripe m_foot m_fork m_told m_hand).2).1, (F_X10_tellCover (F_X10_layHands m_fruits m_standings m_wanted m_now m_x m_height m_ripe m_foot m_fork m_told m_hand).1 m_standings m_rowMany m_row (F_X10_layHands m_fruits m_standings m_wanted m_now m_x m_height m_ripe m_foot m_fork m_told m_hand).2).2.1, 0, (F_X10_layHands m_fruits m_standings m_wanted m_now m_x m_height m_ripe m_foot m_fork m_told m_hand).1, (F_X10_tellCover (F_X10_layHands m_fruits m_standings m_wanted m_now m_x m_height m_ripe m_foot m_fork m_told m_hand).1 m_standings m_rowMany m_row (F_X10_layHands m_fruits m_standings m_wanted m_now m_x m_height m_ripe m_foot m_fork m_told m_hand).2).2.2, (F_X10_layHands m_fruits m_standings m_wanted m_now m_x m_height m_ripe m_foot m_fork m_told m_hand).2)
set_option maxHeartbeats 200000 in
set_option maxRecDepth 10000 in
theorem dt_X10_fewest {P Q : Int32 → Int32 → Int32 → Int32 → (Nat → Int32) → (Nat → Int32) → Prop} {m_fruits : Int32} {m_standings : Int32} {m_rowMany : Int32} {m_thrown : Int32} {m_wanted : Int32} {m_now : Nat → Int32} {m_x : Nat → Int32} {m_height : Nat → Int32} {m_ripe : Nat → Int32} {m_foot : Nat → Int32} {m_fork : Nat → Int32} {m_told : Nat → Int32} {m_row : Nat → Int32} {m_hand : Nat → Int32} (hy0 : Int32.toInt (F_X10_allStandings m_standings) < 2147483647) (h : wp_X10_fewest P m_fruits m_standings m_rowMany m_thrown m_wanted m_now m_x m_height m_ripe m_foot m_fork m_told m_row m_hand) (hq : ∀ o : Int32 × Int32 × Int32 × Int32 × (Nat → Int32) × (Nat → Int32), o = F_X10_fewest m_fruits m_standings m_rowMany m_thrown m_wanted m_now m_x m_height m_ripe m_foot m_fork m_told m_row m_hand → P o.1 o.2.1 o.2.2.1 o.2.2.2.1 o.2.2.2.2.1 o.2.2.2.2.2 → Q o.1 o.2.1 o.2.2.1 o.2.2.2.1 o.2.2.2.2.1 o.2.2.2.2.2) : wp_X10_fewest Q m_fruits m_standings m_rowMany m_thrown m_wanted m_now m_x m_height m_ripe m_foot m_fork m_told m_row m_hand := by
  rw [F_X10_fewest] at hq
  refine du_X10_layHands h ?_
  intro h
  refine du_X10_tellCover hy0 h ?_
  intro h
  have q9 := hq _ rfl
  dsimp only at q9
  exact q9 h
