noncomputable def F_X10_ripeOnes (p0 : Int32) (m_fruits : Int32) (m_ripe : Nat → Int32) : Int32 := ex_X10_ripeOnes_4 (fun o0 => o0) m_fruits m_ripe p0 (nI (0 + (Int32.toInt m_fruits - ((0 : Nat) : Int)).toNat)) (itr (bd_X10_ripeOnes_4 m_fruits m_ripe p0) 0 0 (Int32.toInt m_fruits - ((0 : Nat) : Int)).toNat)
set_option maxHeartbeats 200000 in
set_option maxRecDepth 10000 in
theorem dt_X10_ripeOnes {P Q : Int32 → Prop} {p0 : Int32} {m_fruits : Int32} {m_ripe : Nat → Int32} (h : wp_X10_ripeOnes P p0 m_fruits m_ripe) (hq : ∀ o : Int32, o = F_X10_ripeOnes p0 m_fruits m_ripe → P o → Q o) : wp_X10_ripeOnes Q p0 m_fruits m_ripe := by
  rw [F_X10_ripeOnes] at hq
  obtain ⟨n1, h⟩ := h
  refine ⟨n1, dl_X10_ripeOnes_4 (a := 0) (i := 0) (by decide) ?_ n1 0 0 (by decide) (Nat.zero_le _) h⟩
  intro cc2 s3 ec4 es5 h
  rw [← ec4, ← es5, ex_X10_ripeOnes_4] at hq
  have q9 := hq _ rfl
  exact q9 h
theorem du_X10_ripeOnes {P Q : Int32 → Prop} {p0 : Int32} {m_fruits : Int32} {m_ripe : Nat → Int32} (h : wp_X10_ripeOnes P p0 m_fruits m_ripe) (hq : P (F_X10_ripeOnes p0 m_fruits m_ripe) → Q (F_X10_ripeOnes p0 m_fruits m_ripe)) : wp_X10_ripeOnes Q p0 m_fruits m_ripe := dt_X10_ripeOnes h (fun o eo => by rw [eo]; exact hq)
theorem dw_X10_ripeOnes {Q : Int32 → Prop} {p0 : Int32} {m_fruits : Int32} {m_ripe : Nat → Int32} (h : wp_X10_ripeOnes (fun o0 => o0 = F_X10_ripeOnes p0 m_fruits m_ripe → Q o0) p0 m_fruits m_ripe) : wp_X10_ripeOnes Q p0 m_fruits m_ripe := dt_X10_ripeOnes h (fun o eo hp => hp eo)
noncomputable def F_X10_byHand (p0 : Int32) (m_fruits : Int32) (m_now : Nat → Int32) (m_x : Nat → Int32) (m_height : Nat → Int32) (m_foot : Nat → Int32) (m_fork : Nat → Int32) (m_told : Nat → Int32) : Int32 := (F_X10_reachedFrom p0 (m_now (18 : Int32).toNatClampNeg) 0 m_fruits m_x m_height m_foot m_fork m_told)
set_option maxHeartbeats 200000 in
set_option maxRecDepth 10000 in
theorem dt_X10_byHand {P Q : Int32 → Prop} {p0 : Int32} {m_fruits : Int32} {m_now : Nat → Int32} {m_x : Nat → Int32} {m_height : Nat → Int32} {m_foot : Nat → Int32} {m_fork : Nat → Int32} {m_told : Nat → Int32} (h : wp_X10_byHand P p0 m_fruits m_now m_x m_height m_foot m_fork m_told) (hq : ∀ o : Int32, o = F_X10_byHand p0 m_fruits m_now m_x m_height m_foot m_fork m_told → P o → Q o) : wp_X10_byHand Q p0 m_fruits m_now m_x m_height m_foot m_fork m_told := by
  rw [F_X10_byHand] at hq
  refine ae ?_
  have h := h _ rfl
  refine du_X10_reachedFrom h ?_
  intro h
  have q9 := hq _ rfl
  exact q9 h
theorem du_X10_byHand {P Q : Int32 → Prop} {p0 : Int32} {m_fruits : Int32} {m_now : Nat → Int32} {m_x : Nat → Int32} {m_height : Nat → Int32} {m_foot : Nat → Int32} {m_fork : Nat → Int32} {m_told : Nat → Int32} (h : wp_X10_byHand P p0 m_fruits m_now m_x m_height m_foot m_fork m_told) (hq : P (F_X10_byHand p0 m_fruits m_now m_x m_height m_foot m_fork m_told) → Q (F_X10_byHand p0 m_fruits m_now m_x m_height m_foot m_fork m_told)) : wp_X10_byHand Q p0 m_fruits m_now m_x m_height m_foot m_fork m_told := dt_X10_byHand h (fun o eo => by rw [eo]; exact hq)
theorem dw_X10_byHand {Q : Int32 → Prop} {p0 : Int32} {m_fruits : Int32} {m_now : Nat → Int32} {m_x : Nat → Int32} {m_height : Nat → Int32} {m_foot : Nat → Int32} {m_fork : Nat → Int32} {m_told : Nat → Int32} (h : wp_X10_byHand (fun o0 => o0 = F_X10_byHand p0 m_fruits m_now m_x m_height m_foot m_fork m_told → Q o0) p0 m_fruits m_now m_x m_height m_foot m_fork m_told) : wp_X10_byHand Q p0 m_fruits m_now m_x m_height m_foot m_fork m_told := dt_X10_byHand h (fun o eo hp => hp eo)
noncomputable def j_X10_goShake_96 {R : Type} (k50 : Int32 → Int32 → Int32 → (Nat → Int32) → R) (m_fruits : Int32) (m_x : Nat → Int32) (m_height : Nat → Int32) (m_ripe : Nat → Int32) (m_foot : Nat → Int32) (m_fork : Nat → Int32) (m_told : Nat → Int32) (x1 : Int32) (x2 : Int32) (x3 : Int32) (m_now : Nat → Int32) : R := k50 x1 x2 (x3 + 1) m_now
noncomputable def bd_X10_goShake_50 (m_fruits : Int32) (m_x : Nat → Int32) (m_height : Nat → Int32) (m_ripe : Nat → Int32) (m_foot : Nat → Int32) (m_fork : Nat → Int32) (m_told : Nat → Int32) (x1 : Int32) (x2 : Int32) (c : Int32) (s : (Nat → Int32)) : (Nat → Int32) := if (F_X10_has x1 c) = 0 then (j_X10_goShake_96 (fun q0 q1 q2 q3 => q3) m_fruits m_x m_height m_ripe m_foot m_fork m_told x1 x2 c s) else (j_X10_goShake_96 (fun q0 q1 q2 q3 => q3) m_fruits m_x m_height m_ripe m_foot m_fork m_told x1 x2 c (upd (upd s c.toNatClampNeg 3) (16 : Int32).toNatClampNeg (((upd s c.toNatClampNeg 3) (16 : Int32).toNatClampNeg) ||| ((1 <<< (c &&& 31)) ||| (F_X10_below c x2 m_fruits m_x m_height)))))
noncomputable def ex_X10_goShake_50 {R : Type} (po : Int32 → (Nat → Int32) → R) (m_fruits : Int32) (m_x : Nat → Int32) (m_height : Nat → Int32) (m_ripe : Nat → Int32) (m_foot : Nat → Int32) (m_fork : Nat → Int32) (m_told : Nat → Int32) (x1 : Int32) (x2 : Int32) (c : Int32) (s : (Nat → Int32)) : R := po (F_J6_bitCount_0f7a4 x1) (F_X10_passBy 5 s)
set_option maxHeartbeats 200000 in
set_option maxRecDepth 10000 in
theorem dl_X10_goShake_50 {P Q : Int32 → (Nat → Int32) → Prop} {m_fruits : Int32} {m_x : Nat → Int32} {m_height : Nat → Int32} {m_ripe : Nat → Int32} {m_foot : Nat → Int32} {m_fork : Nat → Int32} {m_told : Nat → Int32} {x1 : Int32} {x2 : Int32} {a : (Nat → Int32)} {i : Nat} (hi0 : i < 2147483648) (hE : ∀ (c : Int32) (s : (Nat → Int32)), c = nI (i + (Int32.toInt m_fruits - ((i : Nat) : Int)).toNat) → s = itr (bd_X10_goShake_50 m_fruits m_x m_height m_ripe m_foot m_fork m_told x1 x2) a i (Int32.toInt m_fruits - ((i : Nat) : Int)).toNat → (wp_X10_passBy (fun m_now_10 => wp_J6_bitCount_0f7a4 (fun r_11 => P r_11 m_now_10) x1) 5 s) → (wp_X10_passBy (fun m_now_10 => wp_J6_bitCount_0f7a4 (fun r_11 => Q r_11 m_now_10) x1) 5 s)) : ∀ (n k : Nat) (c : Int32), c = nI (i + k) → k ≤ (Int32.toInt m_fruits - ((i : Nat) : Int)).toNat → wb_X10_goShake_50 P m_fruits m_x m_height m_ripe m_foot m_fork m_told n x1 x2 c (itr (bd_X10_goShake_50 m_fruits m_x m_height m_ripe m_foot m_fork m_told x1 x2) a i k) → wb_X10_goShake_50 Q m_fruits m_x m_height m_ripe m_foot m_fork m_told n x1 x2 c (itr (bd_X10_goShake_50 m_fruits m_x m_height m_ripe m_foot m_fork m_told x1 x2) a i k) := by
  intro n
  induction n with
  | zero => intro k c hc hk h; exact False.elim h
  | succ n ih =>
    intro k c hc hk h
    have hr := tp_r m_fruits
    have hi : Int32.toInt c = ((i + k : Nat) : Int) := by rw [hc]; exact nI_toInt (by omega)
    refine And.intro (fun t0 => ?_) (fun t0 => ?_)
    · have h := And.left h t0
      have t1 := (fa_le _ _).mp t0
      have hk2 : k = (Int32.toInt m_fruits - ((i : Nat) : Int)).toNat := by omega
      subst hk2
      exact hE _ _ hc rfl h
    · have h := And.right h t0
      have t1 := mt (fa_le _ _).mpr t0
      have hs : ∀ o : (Nat → Int32), o = itr (bd_X10_goShake_50 m_fruits m_x m_height m_ripe m_foot m_fork m_told x1 x2) a i (k + 1) → wb_X10_goShake_50 P m_fruits m_x m_height m_ripe m_foot m_fork m_told n x1 x2 (c + 1) o → wb_X10_goShake_50 Q m_fruits m_x m_height m_ripe m_foot m_fork m_told n x1 x2 (c + 1) o := by
        intro o eo h9
        have q := ih (k + 1) (c + 1) (by rw [hc]; exact nI_1 _) (by omega)
        rw [← eo] at q
        exact q h9
      rw [itr_s, ← hc, bd_X10_goShake_50] at hs
      refine du_X10_has h ?_
      intro h
      refine And.intro (fun c1 => ?_) (fun c1 => ?_)
      · have h := And.left h c1
        rw [if_neg c1] at hs
        refine And.intro (And.left h) ?_
        have h := And.right h
        refine ae ?_
        have h := h _ rfl
        refine ae ?_
        have h := h _ rfl
        refine du_X10_below h ?_
        intro h
        refine ae ?_
        have h := h _ rfl
        rw [j_X10_goShake_96] at hs
        unfold ws_X10_goShake_96 at h ⊢
        refine ae ?_
        have h := h _ rfl
        have q9 := hs _ rfl
        exact q9 h
      · have h := And.right h c1
        rw [if_pos c1] at hs
        rw [j_X10_goShake_96] at hs
        unfold ws_X10_goShake_96 at h ⊢
        refine ae ?_
        have h := h _ rfl
        have q9 := hs _ rfl
        exact q9 h
noncomputable def F_X10_goShake (m_fruits : Int32) (m_now : Nat → Int32) (m_x : Nat → Int32) (m_height : Nat → Int32) (m_ripe : Nat → Int32) (m_foot : Nat → Int32) (m_fork : Nat → Int32) (m_told : Nat → Int32) : Int32 × (Nat → Int32) := ex_X10_goShake_50 (fun o0 o1 => (o0, o1)) m_fruits m_x m_height m_ripe m_foot m_fork m_told (((F_X10_which 0 m_fruits m_now) &&& (F_X10_ripeOnes (m_now (19 : Int32).toNatClampNeg) m_fruits m_ripe)) &&& (F_X10_byHand (m_now (17 : Int32).toNatClampNeg) m_fruits m_now m_x m_height m_foot m_fork m_told)) ((F_X10_which 0 m_fruits m_now) &&& ((((F_X10_which 0 m_fruits m_now) &&& (F_X10_ripeOnes (m_now (19 : Int32).toNatClampNeg) m_fruits m_ripe)) &&& (F_X10_byHand (m_now (17 : Int32).toNatClampNeg) m_fruits m_now m_x m_height m_foot m_fork m_told)) ^^^ (-1))) (nI (0 + (Int32.toInt m_fruits - ((0 : Nat) : Int)).toNat)) (itr (bd_X10_goShake_50 m_fruits m_x m_height m_ripe m_foot m_fork m_told (((F_X10_which 0 m_fruits m_now) &&& (F_X10_ripeOnes (m_now (19 : Int32).toNatClampNeg) m_fruits m_ripe)) &&& (F_X10_byHand (m_now (17 : Int32).toNatClampNeg) m_fruits m_now m_x m_height m_foot m_fork m_told)) ((F_X10_which 0 m_fruits m_now) &&& ((((F_X10_which 0 m_fruits m_now) &&& (F_X10_ripeOnes (m_now (19 : Int32).toNatClampNeg) m_fruits m_ripe)) &&& (F_X10_byHand (m_now (17 : Int32).toNatClampNeg) m_fruits m_now m_x m_height m_foot m_fork m_told)) ^^^ (-1)))) m_now 0 (Int32.toInt m_fruits - ((0 : Nat) : Int)).toNat)
set_option maxHeartbeats 200000 in
set_option maxRecDepth 10000 in
theorem dt_X10_goShake {P Q : Int32 → (Nat → Int32) → Prop} {m_fruits : Int32} {m_now : Nat → Int32} {m_x : Nat → Int32} {m_height : Nat → Int32} {m_ripe : Nat → Int32} {m_foot : Nat → Int32} {m_fork : Nat → Int32} {m_told : Nat → Int32} (h : wp_X10_goShake P m_fruits m_now m_x m_height m_ripe m_foot m_fork m_told) (hq : ∀ o : Int32 × (Nat → Int32), o = F_X10_goShake m_fruits m_now m_x m_height m_ripe m_foot m_fork m_told → P o.1 o.2 → Q o.1 o.2) : wp_X10_goShake Q m_fruits m_now m_x m_height m_ripe m_foot m_fork m_told := by
  rw [F_X10_goShake] at hq
  refine du_X10_which h ?_
  intro h
  refine ae ?_
  have h := h _ rfl
  refine du_X10_ripeOnes h ?_
  intro h
  refine ae ?_
  have h := h _ rfl
  refine ae ?_
  have h := h _ rfl
  refine du_X10_byHand h ?_
  intro h
  refine ae ?_
  have h := h _ rfl
  refine du_X10_which h ?_
  intro h
  refine ae ?_
  have h := h _ rfl
  obtain ⟨n1, h⟩ := h
  refine ⟨n1, dl_X10_goShake_50 (a := m_now) (i := 0) (by decide) ?_ n1 0 0 (by decide) (Nat.zero_le _) h⟩
  intro cc2 s3 ec4 es5 h
  rw [← ec4, ← es5, ex_X10_goShake_50] at hq
  refine du_X10_passBy h ?_
  intro h
  refine du_J6_bitCount_0f7a4 h ?_
  intro h
  have q9 := hq _ rfl
  dsimp only at q9
  exact q9 h
theorem du_X10_goShake {P Q : Int32 → (Nat → Int32) → Prop} {m_fruits : Int32} {m_now : Nat → Int32} {m_x : Nat → Int32} {m_height : Nat → Int32} {m_ripe : Nat → Int32} {m_foot : Nat → Int32} {m_fork : Nat → Int32} {m_told : Nat → Int32} (h : wp_X10_goShake P m_fruits m_now m_x m_height m_ripe m_foot m_fork m_told) (hq : P (F_X10_goShake m_fruits m_now m_x m_height m_ripe m_foot m_fork m_told).1 (F_X10_goShake m_fruits m_now m_x m_height m_ripe m_foot m_fork m_told).2 → Q (F_X10_goShake m_fruits m_now m_x m_height m_ripe m_foot m_fork m_told).1 (F_X10_goShake m_fruits m_now m_x m_height m_ripe m_foot m_fork m_told).2) : wp_X10_goShake Q m_fruits m_now m_x m_height m_ripe m_foot m_fork m_told := dt_X10_goShake h (fun o eo => by rw [eo]; exact hq)
theorem dw_X10_goShake {Q : Int32 → (Nat → Int32) → Prop} {m_fruits : Int32} {m_now : Nat → Int32} {m_x : Nat → Int32} {m_height : Nat → Int32} {m_ripe : Nat → Int32} {m_foot : Nat → Int32} {m_fork : Nat → Int32} {m_told : Nat → Int32} (h : wp_X10_goShake (fun o0 o1 => (o0, o1) = F_X10_goShake m_fruits m_now m_x m_height m_ripe m_foot m_fork m_told → Q o0 o1) m_fruits m_now m_x m_height m_ripe m_foot m_fork m_told) : wp_X10_goShake Q m_fruits m_now m_x m_height m_ripe m_foot m_fork m_told := dt_X10_goShake h (fun o eo hp => hp eo)
noncomputable def F_X10_shake (m_fruits : Int32) (m_thrown : Int32) (m_undoMany : Int32) (m_now : Nat → Int32) (m_x : Nat → Int32) (m_height : Nat → Int32) (m_ripe : Nat → Int32) (m_foot : Nat → Int32) (m_fork : Nat → Int32) (m_told : Nat → Int32) (m_undos : Nat → Int32) : Int32 × Int32 × Int32 × (Nat → Int32) × (Nat → Int32) := if (m_now (17 : Int32).toNatClampNeg) = (-1) then ((-2), 0, m_undoMany, m_now, m_undos) else ((F_X10_goShake m_fruits m_now m_x m_height m_ripe m_foot m_fork m_told).1, 0, (F_X10_remember m_undoMany m_now m_undos).1, (F_X10_goShake m_fruits m_now m_x m_height m_ripe m_foot m_fork m_told).2, (F_X10_remember m_undoMany m_now m_undos).2)
set_option maxHeartbeats 200000 in
set_option maxRecDepth 10000 in
theorem dt_X10_shake {P Q : Int32 → Int32 → Int32 → (Nat → Int32) → (Nat → Int32) → Prop} {m_fruits : Int32} {m_thrown : Int32} {m_undoMany : Int32} {m_now : Nat → Int32} {m_x : Nat → Int32} {m_height : Nat → Int32} {m_ripe : Nat → Int32} {m_foot : Nat → Int32} {m_fork : Nat → Int32} {m_told : Nat → Int32} {m_undos : Nat → Int32} (h : wp_X10_shake P m_fruits m_thrown m_undoMany m_now m_x m_height m_ripe m_foot m_fork m_told m_undos) (hq : ∀ o : Int32 × Int32 × Int32 × (Nat → Int32) × (Nat → Int32), o = F_X10_shake m_fruits m_thrown m_undoMany m_now m_x m_height m_ripe m_foot m_fork m_told m_undos → P o.1 o.2.1 o.2.2.1 o.2.2.2.1 o.2.2.2.2 → Q o.1 o.2.1 o.2.2.1 o.2.2.2.1 o.2.2.2.2) : wp_X10_shake Q m_fruits m_thrown m_undoMany m_now m_x m_height m_ripe m_foot m_fork m_told m_undos := by
  rw [F_X10_shake] at hq
  refine ae ?_
  have h := h _ rfl
  refine And.intro (fun c1 => ?_) (fun c1 => ?_)
  · have h := And.left h c1
    rw [if_neg c1] at hq
    refine du_X10_remember h ?_
    intro h
    refine du_X10_goShake h ?_
    intro h
    have q9 := hq _ rfl
    dsimp only at q9
    exact q9 h
  · have h := And.right h c1
    rw [if_pos c1] at hq
    have q9 := hq _ rfl
    dsimp only at q9
    exact q9 h
theorem du_X10_shake {P Q : Int32 → Int32 → Int32 → (Nat → Int32) → (Nat → Int32) → Prop} {m_fruits : Int32} {m_thrown : Int32} {m_undoMany : Int32} {m_now : Nat → Int32} {m_x : Nat → Int32} {m_height : Nat → Int32} {m_ripe : Nat → Int32} {m_foot : Nat → Int32} {m_fork : Nat → Int32} {m_told : Nat → Int32} {m_undos : Nat → Int32} (h : wp_X10_shake P m_fruits m_thrown m_undoMany m_now m_x m_height m_ripe m_foot m_fork m_told m_undos) (hq : P (F_X10_shake m_fruits m_thrown m_undoMany m_now m_x m_height m_ripe m_foot m_fork m_told m_undos).1 (F_X10_shake m_fruits m_thrown m_undoMany m_now m_x m_height m_ripe m_foot m_fork m_told m_undos).2.1 (F_X10_shake m_fruits m_thrown m_undoMany m_now m_x m_height m_ripe m_foot m_fork m_told m_undos).2.2.1 (F_X10_shake m_fruits m_thrown m_undoMany m_now m_x m_height m_ripe m_foot m_fork m_told m_undos).2.2.2.1 (F_X10_shake m_fruits m_thrown m_undoMany m_now m_x m_height m_ripe m_foot m_fork m_told m_undos).2.2.2.2 → Q (F_X10_shake m_fruits m_thrown m_undoMany m_now m_x m_height m_ripe m_foot m_fork m_told m_undos).1 (F_X10_shake m_fruits m_thrown m_undoMany m_now m_x m_height m_ripe m_foot m_fork m_told m_undos).2.1 (F_X10_shake m_fruits m_thrown m_undoMany m_now m_x m_height m_ripe m_foot m_fork m_told m_undos).2.2.1 (F_X10_shake m_fruits m_thrown m_undoMany m_now m_x m_height m_ripe m_foot m_fork m_told m_undos).2.2.2.1 (F_X10_shake m_fruits m_thrown m_undoMany m_now m_x m_height m_ripe m_foot m_fork m_told m_undos).2.2.2.2) : wp_X10_shake Q m_fruits m_thrown m_undoMany m_now m_x m_height m_ripe m_foot m_fork m_told m_undos := dt_X10_shake h (fun o eo => by rw [eo]; exact hq)
theorem dw_X10_shake {Q : Int32 → Int32 → Int32 → (Nat → Int32) → (Nat → Int32) → Prop} {m_fruits : Int32} {m_thrown : Int32} {m_undoMany : Int32} {m_now : Nat → Int32} {m_x : Nat → Int32} {m_height : Nat → Int32} {m_ripe : Nat → Int32} {m_foot : Nat → Int32} {m_fork : Nat → Int32} {m_told : Nat → Int32} {m_undos : Nat → Int32} (h : wp_X10_shake (fun o0 o1 o2 o3 o4 => (o0, o1, o2, o3, o4) = F_X10_shake m_fruits m_thrown m_undoMany m_now m_x m_height m_ripe m_foot m_fork m_told m_undos → Q o0 o1 o2 o3 o4) m_fruits m_thrown m_undoMany m_now m_x m_height m_ripe m_foot m_fork m_told m_undos) : wp_X10_shake Q m_fruits m_thrown m_undoMany m_now m_x m_height m_ripe m_foot m_fork m_told m_undos := dt_X10_shake h (fun o eo hp => hp eo)
noncomputable def F_X10_goSleep (m_fruits : Int32) (m_now : Nat → Int32) : Int32 × (Nat → Int32) := (((upd (upd (upd (F_X10_empty m_fruits m_now).2 (17 : Int32).toNatClampNeg (-1)) (20 : Int32).toNatClampNeg 0) (19 : Int32).toNatClampNeg (((upd (upd (F_X10_empty m_fruits m_now).2 (17 : Int32).toNatClampNeg (-1)) (20 : Int32).toNatClampNeg 0) (19 : Int32).toNatClampNeg) + 1)) (19 : Int32).toNatClampNeg), (upd (upd (upd (F_X10_empty m_fruits m_now).2 (17 : Int32).toNatClampNeg (-1)) (20 : Int32).toNatClampNeg 0) (19 : Int32).toNatClampNeg (((upd (upd (F_X10_empty m_fruits m_now).2 (17 : Int32).toNatClampNeg (-1)) (20 : Int32).toNatClampNeg 0) (19 : Int32).toNatClampNeg) + 1)))
set_option maxHeartbeats 200000 in
set_option maxRecDepth 10000 in
theorem dt_X10_goSleep {P Q : Int32 → (Nat → Int32) → Prop} {m_fruits : Int32} {m_now : Nat → Int32} (h : wp_X10_goSleep P m_fruits m_now) (hq : ∀ o : Int32 × (Nat → Int32), o = F_X10_goSleep m_fruits m_now → P o.1 o.2 → Q o.1 o.2) : wp_X10_goSleep Q m_fruits m_now := by
  rw [F_X10_goSleep] at hq
  refine du_X10_empty h ?_
  intro h
  refine ae ?_
  have h := h _ rfl
  refine ae ?_
  have h := h _ rfl
  refine ae ?_
  have h := h _ rfl
  have q9 := hq _ rfl
  dsimp only at q9
  exact q9 h
theorem du_X10_goSleep {P Q : Int32 → (Nat → Int32) → Prop} {m_fruits : Int32} {m_now : Nat → Int32} (h : wp_X10_goSleep P m_fruits m_now) (hq : P (F_X10_goSleep m_fruits m_now).1 (F_X10_goSleep m_fruits m_now).2 → Q (F_X10_goSleep m_fruits m_now).1 (F_X10_goSleep m_fruits m_now).2) : wp_X10_goSleep Q m_fruits m_now := dt_X10_goSleep h (fun o eo => by rw [eo]; exact hq)
theorem dw_X10_goSleep {Q : Int32 → (Nat → Int32) → Prop} {m_fruits : Int32} {m_now : Nat → Int32} (h : wp_X10_goSleep (fun o0 o1 => (o0, o1) = F_X10_goSleep m_fruits m_now → Q o0 o1) m_fruits m_now) : wp_X10_goSleep Q m_fruits m_now := dt_X10_goSleep h (fun o eo hp => hp eo)
noncomputable def F_X10_sleep (m_fruits : Int32) (m_thrown : Int32) (m_undoMany : Int32) (m_now : Nat → Int32) (m_undos : Nat → Int32) : Int32 × Int32 × Int32 × (Nat → Int32) × (Nat → Int32) := if (m_now (19 : Int32).toNatClampNeg) = 9 then ((-1), 0, m_undoMany, m_now, m_undos) else ((F_X10_goSleep m_fruits m_now).1, 0, (F_X10_remember m_undoMany m_now m_undos).1, (F_X10_goSleep m_fruits m_now).2, (F_X10_remember m_undoMany m_now m_undos).2)
set_option maxHeartbeats 200000 in
set_option maxRecDepth 10000 in
theorem dt_X10_sleep {P Q : Int32 → Int32 → Int32 → (Nat → Int32) → (Nat → Int32) → Prop} {m_fruits : Int32} {m_thrown : Int32} {m_undoMany : Int32} {m_now : Nat → Int32} {m_undos : Nat → Int32} (h : wp_X10_sleep P m_fruits m_thrown m_undoMany m_now m_undos) (hq : ∀ o : Int32 × Int32 × Int32 × (Nat → Int32) × (Nat → Int32), o = F_X10_sleep m_fruits m_thrown m_undoMany m_now m_undos → P o.1 o.2.1 o.2.2.1 o.2.2.2.1 o.2.2.2.2 → Q o.1 o.2.1 o.2.2.1 o.2.2.2.1 o.2.2.2.2) : wp_X10_sleep Q m_fruits m_thrown m_undoMany m_now m_undos := by
  rw [F_X10_sleep] at hq
  refine ae ?_
  have h := h _ rfl
  refine And.intro (fun c1 => ?_) (fun c1 => ?_)
  · have h := And.left h c1
    rw [if_neg c1] at hq
    refine du_X10_remember h ?_
    intro h
    refine du_X10_goSleep h ?_
    intro h
    have q9 := hq _ rfl
    dsimp only at q9
    exact q9 h
  · have h := And.right h c1
    rw [if_pos c1] at hq
    have q9 := hq _ rfl
    dsimp only at q9
    exact q9 h
theorem du_X10_sleep {P Q : Int32 → Int32 → Int32 → (Nat → Int32) → (Nat → Int32) → Prop} {m_fruits : Int32} {m_thrown : Int32} {m_undoMany : Int32} {m_now : Nat → Int32} {m_undos : Nat → Int32} (h : wp_X10_sleep P m_fruits m_thrown m_undoMany m_now m_undos) (hq : P (F_X10_sleep m_fruits m_thrown m_undoMany m_now m_undos).1 (F_X10_sleep m_fruits m_thrown m_undoMany m_now m_undos).2.1 (F_X10_sleep m_fruits m_thrown m_undoMany m_now m_undos).2.2.1 (F_X10_sleep m_fruits m_thrown m_undoMany m_now m_undos).2.2.2.1 (F_X10_sleep m_fruits m_thrown m_undoMany m_now m_undos).2.2.2.2 → Q (F_X10_sleep m_fruits m_thrown m_undoMany m_now m_undos).1 (F_X10_sleep m_fruits m_thrown m_undoMany m_now m_undos).2.1 (F_X10_sleep m_fruits m_thrown m_undoMany m_now m_undos).2.2.1 (F_X10_sleep m_fruits m_thrown m_undoMany m_now m_undos).2.2.2.1 (F_X10_sleep m_fruits m_thrown m_undoMany m_now m_undos).2.2.2.2) : wp_X10_sleep Q m_fruits m_thrown m_undoMany m_now m_undos := dt_X10_sleep h (fun o eo => by rw [eo]; exact hq)
theorem dw_X10_sleep {Q : Int32 → Int32 → Int32 → (Nat → Int32) → (Nat → Int32) → Prop} {m_fruits : Int32} {m_thrown : Int32} {m_undoMany : Int32} {m_now : Nat → Int32} {m_undos : Nat → Int32} (h : wp_X10_sleep (fun o0 o1 o2 o3 o4 => (o0, o1, o2, o3, o4) = F_X10_sleep m_fruits m_thrown m_undoMany m_now m_undos → Q o0 o1 o2 o3 o4) m_fruits m_thrown m_undoMany m_now m_undos) : wp_X10_sleep Q m_fruits m_thrown m_undoMany m_now m_undos := dt_X10_sleep h (fun o eo hp => hp eo)
noncomputable def j_X10_readAct_109 {R : Type} (po : Int32 → Int32 → (Nat → Int32) → R) (m_read : Nat) (m_length : Int32) (m_top : Int32) (m_text : Nat → Int32) (m_rule : Nat → Int32) (x1 : Int32) (m_at : Int32) (m_wrong : Int32) (m_acts : Nat → Int32) : R := po ((F_X10_number 2 m_read m_length m_top m_at m_wrong m_text m_rule).2.1) ((F_X10_number 2 m_read m_length m_top m_at m_wrong m_text m_rule).2.2) (upd m_acts (x1 + 1).toNatClampNeg (F_X10_number 2 m_read m_length m_top m_at m_wrong m_text m_rule).1)
noncomputable def j_X10_readAct_97 {R : Type} (po : Int32 → Int32 → (Nat → Int32) → R) (m_read : Nat) (m_length : Int32) (m_top : Int32) (m_text : Nat → Int32) (m_rule : Nat → Int32) (x1 : Int32) (x2 : Int32) (m_at : Int32) (m_wrong : Int32) (m_acts : Nat → Int32) : R := if x2 = 112 then (j_X10_readAct_109 po m_read m_length m_top m_text m_rule x1 m_at m_wrong m_acts) else (if x2 = 104 then (j_X10_readAct_109 po m_read m_length m_top m_text m_rule x1 m_at m_wrong m_acts) else (po m_at m_wrong m_acts))
noncomputable def j_X10_readAct_61 {R : Type} (po : Int32 → Int32 → (Nat → Int32) → R) (m_read : Nat) (m_length : Int32) (m_top : Int32) (m_text : Nat → Int32) (m_rule : Nat → Int32) (x1 : Int32) (x2 : Int32) (m_at : Int32) (m_wrong : Int32) (m_acts : Nat → Int32) : R := if x2 = 109 then (j_X10_readAct_97 po m_read m_length m_top m_text m_rule x1 x2 ((F_X10_number 1 m_read m_length m_top (m_at + 1) m_wrong m_text m_rule).2.1) ((F_X10_number 1 m_read m_length m_top (m_at + 1) m_wrong m_text m_rule).2.2) (upd (upd m_acts x1.toNatClampNeg x2) (x1 + 1).toNatClampNeg (F_X10_number 1 m_read m_length m_top (m_at + 1) m_wrong m_text m_rule).1)) else (j_X10_readAct_97 po m_read m_length m_top m_text m_rule x1 x2 (m_at + 1) m_wrong (upd m_acts x1.toNatClampNeg x2))
noncomputable def F_X10_readAct (p0 : Int32) (m_read : Nat) (m_length : Int32) (m_top : Int32) (m_at : Int32) (m_wrong : Int32) (m_text : Nat → Int32) (m_rule : Nat → Int32) (m_acts : Nat → Int32) : Int32 × Int32 × (Nat → Int32) := if (F_X10_here m_read m_length m_top m_at m_text m_rule) = 109 then (j_X10_readAct_61 (fun o0 o1 o2 => (o0, o1, o2)) m_read m_length m_top m_text m_rule p0 (F_X10_here m_read m_length m_top m_at m_text m_rule) m_at m_wrong m_acts) else (if (F_X10_here m_read m_length m_top m_at m_text m_rule) = 112 then (j_X10_readAct_61 (fun o0 o1 o2 => (o0, o1, o2)) m_read m_length m_top m_text m_rule p0 (F_X10_here m_read m_length m_top m_at m_text m_rule) m_at m_wrong m_acts) else (if (F_X10_here m_read m_length m_top m_at m_text m_rule) = 104 then (j_X10_readAct_61 (fun o0 o1 o2 => (o0, o1, o2)) m_read m_length m_top m_text m_rule p0 (F_X10_here m_read m_length m_top m_at m_text m_rule) m_at m_wrong m_acts) else (if (F_X10_here m_read m_length m_top m_at m_text m_rule) = 100 then (j_X10_readAct_61 (fun o0 o1 o2 => (o0, o1, o2)) m_read m_length m_top m_text m_rule p0 (F_X10_here m_read m_length m_top m_at m_text m_rule) m_at m_wrong m_acts) else (if (F_X10_here m_read m_length m_top m_at m_text m_rule) = 107 then (j_X10_readAct_61 (fun o0 o1 o2 => (o0, o1, o2)) m_read m_length m_top m_text m_rule p0 (F_X10_here m_read m_length m_top m_at m_text m_rule) m_at m_wrong m_acts) else (if (F_X10_here m_read m_length m_top m_at m_text m_rule) = 97 then (j_X10_readAct_61 (fun o0 o1 o2 => (o0, o1, o2)) m_read m_length m_top m_text m_rule p0 (F_X10_here m_read m_length m_top m_at m_text m_rule) m_at m_wrong m_acts) else (if (F_X10_here m_read m_length m_top m_at m_text m_rule) = 111 then (j_X10_readAct_61 (fun o0 o1 o2 => (o0, o1, o2)) m_read m_length m_top m_text m_rule p0 (F_X10_here m_read m_length m_top m_at m_text m_rule) m_at m_wrong m_acts) else (if (F_X10_here m_read m_length m_top m_at m_text m_rule) = 122 then (j_X10_readAct_61 (fun o0 o1 o2 => (o0, o1, o2)) m_read m_length m_top m_text m_rule p0 (F_X10_here m_read m_length m_top m_at m_text m_rule) m_at m_wrong m_acts) else (j_X10_readAct_61 (fun o0 o1 o2 => (o0, o1, o2)) m_read m_length m_top m_text m_rule p0 (F_X10_here m_read m_length m_top m_at m_text m_rule) m_at (F_X10_fault m_at m_wrong) m_acts))))))))
set_option maxHeartbeats 200000 in
set_option maxRecDepth 10000 in
theorem dt_X10_readAct {P Q : Int32 → Int32 → (Nat → Int32) → Prop} {p0 : Int32} {m_read : Nat} {m_length : Int32} {m_top : Int32} {m_at : Int32} {m_wrong : Int32} {m_text : Nat → Int32} {m_rule : Nat → Int32} {m_acts : Nat → Int32} (h : wp_X10_readAct P p0 m_read m_length m_top m_at m_wrong m_text m_rule m_acts) (hq : ∀ o : Int32 × Int32 × (Nat → Int32), o = F_X10_readAct p0 m_read m_length m_top m_at m_wrong m_text m_rule m_acts → P o.1 o.2.1 o.2.2 → Q o.1 o.2.1 o.2.2) : wp_X10_readAct Q p0 m_read m_length m_top m_at m_wrong m_text m_rule m_acts := by
  rw [F_X10_readAct] at hq
  refine du_X10_here h ?_
  intro h
  refine And.intro (fun c1 => ?_) (fun c1 => ?_)
  · have h := And.left h c1
    rw [if_pos c1] at hq
    rw [j_X10_readAct_61] at hq
    unfold ws_X10_readAct_61 at h ⊢
    refine ae ?_
    have h := h _ rfl
    refine And.intro (And.left h) ?_
    have h := And.right h
    refine And.intro (fun c2 => ?_) (fun c2 => ?_)
    · have h := And.left h c2
      rw [if_neg c2] at hq
      rw [j_X10_readAct_97] at hq
      unfold ws_X10_readAct_97 at h ⊢
      refine And.intro (fun c3 => ?_) (fun c3 => ?_)
      · have h := And.left h c3
        rw [if_pos c3] at hq
        rw [j_X10_readAct_109] at hq
        unfold ws_X10_readAct_109 at h ⊢
        refine ae ?_
        have h := h _ rfl
        refine du_X10_number (by decide) h ?_
        intro h
        refine And.intro (And.left h) ?_
        have h := And.right h
        have q9 := hq _ rfl
        dsimp only at q9
        exact q9 h
      · have h := And.right h c3
        rw [if_neg c3] at hq
        refine And.intro (fun c4 => ?_) (fun c4 => ?_)
        · have h := And.left h c4
          rw [if_neg c4] at hq
          have q9 := hq _ rfl
          dsimp only at q9
          exact q9 h
        · have h := And.right h c4
          rw [if_pos c4] at hq
          rw [j_X10_readAct_109] at hq
          unfold ws_X10_readAct_109 at h ⊢
          refine ae ?_
          have h := h _ rfl
          refine du_X10_number (by decide) h ?_
          intro h
          refine And.intro (And.left h) ?_
          have h := And.right h
          have q9 := hq _ rfl
          dsimp only at q9
          exact q9 h
    · have h := And.right h c2
      rw [if_pos c2] at hq
      refine ae ?_
      have h := h _ rfl
      refine du_X10_number (by decide) h ?_
      intro h
      refine And.intro (And.left h) ?_
      have h := And.right h
      rw [j_X10_readAct_97] at hq
      unfold ws_X10_readAct_97 at h ⊢
      refine And.intro (fun c5 => ?_) (fun c5 => ?_)
      · have h := And.left h c5
        rw [if_pos c5] at hq
        rw [j_X10_readAct_109] at hq
        unfold ws_X10_readAct_109 at h ⊢
        refine ae ?_
        have h := h _ rfl
        refine du_X10_number (by decide) h ?_
        intro h
        refine And.intro (And.left h) ?_
        have h := And.right h
        have q9 := hq _ rfl
        dsimp only at q9
        exact q9 h
      · have h := And.right h c5
        rw [if_neg c5] at hq
        refine And.intro (fun c6 => ?_) (fun c6 => ?_)
        · have h := And.left h c6
          rw [if_neg c6] at hq
          have q9 := hq _ rfl
          dsimp only at q9
          exact q9 h
        · have h := And.right h c6
          rw [if_pos c6] at hq
          rw [j_X10_readAct_109] at hq
          unfold ws_X10_readAct_109 at h ⊢
          refine ae ?_
          have h := h _ rfl
          refine du_X10_number (by decide) h ?_
          intro h
          refine And.intro (And.left h) ?_
          have h := And.right h
          have q9 := hq _ rfl
          dsimp only at q9
          exact q9 h
  · have h := And.right h c1
    rw [if_neg c1] at hq
    refine And.intro (fun c7 => ?_) (fun c7 => ?_)
    · have h := And.left h c7
      rw [if_pos c7] at hq
      rw [j_X10_readAct_61] at hq
      unfold ws_X10_readAct_61 at h ⊢
      refine ae ?_
      have h := h _ rfl
      refine And.intro (And.left h) ?_
      have h := And.right h
      refine And.intro (fun c8 => ?_) (fun c8 => ?_)
      · have h := And.left h c8
        rw [if_neg c8] at hq
        rw [j_X10_readAct_97] at hq
        unfold ws_X10_readAct_97 at h ⊢
        refine And.intro (fun c9 => ?_) (fun c9 => ?_)
        · have h := And.left h c9
          rw [if_pos c9] at hq
          rw [j_X10_readAct_109] at hq
          unfold ws_X10_readAct_109 at h ⊢
          refine ae ?_
          have h := h _ rfl
          refine du_X10_number (by decide) h ?_
          intro h
          refine And.intro (And.left h) ?_
          have h := And.right h
          have q9 := hq _ rfl
          dsimp only at q9
          exact q9 h
        · have h := And.right h c9
          rw [if_neg c9] at hq
          refine And.intro (fun c10 => ?_) (fun c10 => ?_)
          · have h := And.left h c10
            rw [if_neg c10] at hq
            have q9 := hq _ rfl
            dsimp only at q9
            exact q9 h
          · have h := And.right h c10
            rw [if_pos c10] at hq
            rw [j_X10_readAct_109] at hq
            unfold ws_X10_readAct_109 at h ⊢
            refine ae ?_
            have h := h _ rfl
            refine du_X10_number (by decide) h ?_
            intro h
            refine And.intro (And.left h) ?_
            have h := And.right h
            have q9 := hq _ rfl
            dsimp only at q9
            exact q9 h
      · have h := And.right h c8
        rw [if_pos c8] at hq
        refine ae ?_
        have h := h _ rfl
        refine du_X10_number (by decide) h ?_
        intro h
        refine And.intro (And.left h) ?_
        have h := And.right h
        rw [j_X10_readAct_97] at hq
        unfold ws_X10_readAct_97 at h ⊢
        refine And.intro (fun c11 => ?_) (fun c11 => ?_)
        · have h := And.left h c11
          rw [if_pos c11] at hq
          rw [j_X10_readAct_109] at hq
          unfold ws_X10_readAct_109 at h ⊢
          refine ae ?_
          have h := h _ rfl
          refine du_X10_number (by decide) h ?_
          intro h
          refine And.intro (And.left h) ?_
          have h := And.right h
          have q9 := hq _ rfl
          dsimp only at q9
          exact q9 h
        · have h := And.right h c11
          rw [if_neg c11] at hq
          refine And.intro (fun c12 => ?_) (fun c12 => ?_)
          · have h := And.left h c12
            rw [if_neg c12] at hq
            have q9 := hq _ rfl
            dsimp only at q9
            exact q9 h
          · have h := And.right h c12
            rw [if_pos c12] at hq
            rw [j_X10_readAct_109] at hq
            unfold ws_X10_readAct_109 at h ⊢
            refine ae ?_
            have h := h _ rfl
            refine du_X10_number (by decide) h ?_
            intro h
            refine And.intro (And.left h) ?_
            have h := And.right h
            have q9 := hq _ rfl
            dsimp only at q9
            exact q9 h
    · have h := And.right h c7
      rw [if_neg c7] at hq
      refine And.intro (fun c13 => ?_) (fun c13 => ?_)
      · have h := And.left h c13
        rw [if_pos c13] at hq
        rw [j_X10_readAct_61] at hq
        unfold ws_X10_readAct_61 at h ⊢
        refine ae ?_
        have h := h _ rfl
        refine And.intro (And.left h) ?_
        have h := And.right h
        refine And.intro (fun c14 => ?_) (fun c14 => ?_)
        · have h := And.left h c14
          rw [if_neg c14] at hq
          rw [j_X10_readAct_97] at hq
          unfold ws_X10_readAct_97 at h ⊢
          refine And.intro (fun c15 => ?_) (fun c15 => ?_)
          · have h := And.left h c15
            rw [if_pos c15] at hq
            rw [j_X10_readAct_109] at hq
            unfold ws_X10_readAct_109 at h ⊢
            refine ae ?_
            have h := h _ rfl
            refine du_X10_number (by decide) h ?_
            intro h
            refine And.intro (And.left h) ?_
            have h := And.right h
            have q9 := hq _ rfl
            dsimp only at q9
            exact q9 h
          · have h := And.right h c15
            rw [if_neg c15] at hq
            refine And.intro (fun c16 => ?_) (fun c16 => ?_)
            · have h := And.left h c16
              rw [if_neg c16] at hq
              have q9 := hq _ rfl
              dsimp only at q9
              exact q9 h
            · have h := And.right h c16
              rw [if_pos c16] at hq
              rw [j_X10_readAct_109] at hq
              unfold ws_X10_readAct_109 at h ⊢
              refine ae ?_
              have h := h _ rfl
              refine du_X10_number (by decide) h ?_
              intro h
              refine And.intro (And.left h) ?_
              have h := And.right h
              have q9 := hq _ rfl
              dsimp only at q9
              exact q9 h
        · have h := And.right h c14
          rw [if_pos c14] at hq
          refine ae ?_
          have h := h _ rfl
          refine du_X10_number (by decide) h ?_
          intro h
          refine And.intro (And.left h) ?_
          have h := And.right h
          rw [j_X10_readAct_97] at hq
          unfold ws_X10_readAct_97 at h ⊢
          refine And.intro (fun c17 => ?_) (fun c17 => ?_)
          · have h := And.left h c17
            rw [if_pos c17] at hq
            rw [j_X10_readAct_109] at hq
            unfold ws_X10_readAct_109 at h ⊢
            refine ae ?_
            have h := h _ rfl
            refine du_X10_number (by decide) h ?_
            intro h
            refine And.intro (And.left h) ?_
            have h := And.right h
            have q9 := hq _ rfl
            dsimp only at q9
            exact q9 h
          · have h := And.right h c17
            rw [if_neg c17] at hq
            refine And.intro (fun c18 => ?_) (fun c18 => ?_)
            · have h := And.left h c18
              rw [if_neg c18] at hq
              have q9 := hq _ rfl
              dsimp only at q9
              exact q9 h
            · have h := And.right h c18
              rw [if_pos c18] at hq
              rw [j_X10_readAct_109] at hq
              unfold ws_X10_readAct_109 at h ⊢
              refine ae ?_
              have h := h _ rfl
              refine du_X10_number (by decide) h ?_
              intro h
              refine And.intro (And.left h) ?_
              have h := And.right h
              have q9 := hq _ rfl
              dsimp only at q9
              exact q9 h
      · have h := And.right h c13
        rw [if_neg c13] at hq
        refine And.intro (fun c19 => ?_) (fun c19 => ?_)
        · have h := And.left h c19
          rw [if_pos c19] at hq
          rw [j_X10_readAct_61] at hq
          unfold ws_X10_readAct_61 at h ⊢
          refine ae ?_
          have h := h _ rfl
          refine And.intro (And.left h) ?_
          have h := And.right h
          refine And.intro (fun c20 => ?_) (fun c20 => ?_)
          · have h := And.left h c20
            rw [if_neg c20] at hq
            rw [j_X10_readAct_97] at hq
            unfold ws_X10_readAct_97 at h ⊢
            refine And.intro (fun c21 => ?_) (fun c21 => ?_)
            · have h := And.left h c21
              rw [if_pos c21] at hq
              rw [j_X10_readAct_109] at hq
              unfold ws_X10_readAct_109 at h ⊢
              refine ae ?_
              have h := h _ rfl
              refine du_X10_number (by decide) h ?_
              intro h
              refine And.intro (And.left h) ?_
              have h := And.right h
              have q9 := hq _ rfl
              dsimp only at q9
              exact q9 h
            · have h := And.right h c21
              rw [if_neg c21] at hq
              refine And.intro (fun c22 => ?_) (fun c22 => ?_)
              · have h := And.left h c22
                rw [if_neg c22] at hq
                have q9 := hq _ rfl
                dsimp only at q9
                exact q9 h
              · have h := And.right h c22
                rw [if_pos c22] at hq
                rw [j_X10_readAct_109] at hq
                unfold ws_X10_readAct_109 at h ⊢
                refine ae ?_
                have h := h _ rfl
                refine du_X10_number (by decide) h ?_
                intro h
                refine And.intro (And.left h) ?_
                have h := And.right h
                have q9 := hq _ rfl
                dsimp only at q9
                exact q9 h
          · have h := And.right h c20
            rw [if_pos c20] at hq
            refine ae ?_
            have h := h _ rfl
            refine du_X10_number (by decide) h ?_
            intro h
            refine And.intro (And.left h) ?_
            have h := And.right h
            rw [j_X10_readAct_97] at hq
            unfold ws_X10_readAct_97 at h ⊢
            refine And.intro (fun c23 => ?_) (fun c23 => ?_)
            · have h := And.left h c23
              rw [if_pos c23] at hq
              rw [j_X10_readAct_109] at hq
              unfold ws_X10_readAct_109 at h ⊢
              refine ae ?_
              have h := h _ rfl
              refine du_X10_number (by decide) h ?_
              intro h
              refine And.intro (And.left h) ?_
              have h := And.right h
              have q9 := hq _ rfl
              dsimp only at q9
              exact q9 h
            · have h := And.right h c23
              rw [if_neg c23] at hq
              refine And.intro (fun c24 => ?_) (fun c24 => ?_)
              · have h := And.left h c24
                rw [if_neg c24] at hq
                have q9 := hq _ rfl
                dsimp only at q9
                exact q9 h
              · have h := And.right h c24
                rw [if_pos c24] at hq
                rw [j_X10_readAct_109] at hq
                unfold ws_X10_readAct_109 at h ⊢
                refine ae ?_
                have h := h _ rfl
                refine du_X10_number (by decide) h ?_
                intro h
                refine And.intro (And.left h) ?_
                have h := And.right h
                have q9 := hq _ rfl
                dsimp only at q9
                exact q9 h
        · have h := And.right h c19
          rw [if_neg c19] at hq
          refine And.intro (fun c25 => ?_) (fun c25 => ?_)
          · have h := And.left h c25
            rw [if_pos c25] at hq
            rw [j_X10_readAct_61] at hq
            unfold ws_X10_readAct_61 at h ⊢
            refine ae ?_
            have h := h _ rfl
            refine And.intro (And.left h) ?_
            have h := And.right h
            refine And.intro (fun c26 => ?_) (fun c26 => ?_)
            · have h := And.left h c26
              rw [if_neg c26] at hq
              rw [j_X10_readAct_97] at hq
              unfold ws_X10_readAct_97 at h ⊢
              refine And.intro (fun c27 => ?_) (fun c27 => ?_)
              · have h := And.left h c27
                rw [if_pos c27] at hq
                rw [j_X10_readAct_109] at hq
                unfold ws_X10_readAct_109 at h ⊢
                refine ae ?_
                have h := h _ rfl
                refine du_X10_number (by decide) h ?_
                intro h
                refine And.intro (And.left h) ?_
                have h := And.right h
                have q9 := hq _ rfl
                dsimp only at q9
                exact q9 h
              · have h := And.right h c27
                rw [if_neg c27] at hq
                refine And.intro (fun c28 => ?_) (fun c28 => ?_)
                · have h := And.left h c28
                  rw [if_neg c28] at hq
                  have q9 := hq _ rfl
                  dsimp only at q9
                  exact q9 h
                · have h := And.right h c28
                  rw [if_pos c28] at hq
                  rw [j_X10_readAct_109] at hq
                  unfold ws_X10_readAct_109 at h ⊢
                  refine ae ?_
                  have h := h _ rfl
                  refine du_X10_number (by decide) h ?_
                  intro h
                  refine And.intro (And.left h) ?_
                  have h := And.right h
                  have q9 := hq _ rfl
                  dsimp only at q9
                  exact q9 h
            · have h := And.right h c26
              rw [if_pos c26] at hq
              refine ae ?_
              have h := h _ rfl
              refine du_X10_number (by decide) h ?_
              intro h
              refine And.intro (And.left h) ?_
              have h := And.right h
              rw [j_X10_readAct_97] at hq
              unfold ws_X10_readAct_97 at h ⊢
              refine And.intro (fun c29 => ?_) (fun c29 => ?_)
              · have h := And.left h c29
                rw [if_pos c29] at hq
                rw [j_X10_readAct_109] at hq
                unfold ws_X10_readAct_109 at h ⊢
                refine ae ?_
                have h := h _ rfl
                refine du_X10_number (by decide) h ?_
                intro h
                refine And.intro (And.left h) ?_
                have h := And.right h
                have q9 := hq _ rfl
                dsimp only at q9
                exact q9 h
              · have h := And.right h c29
                rw [if_neg c29] at hq
                refine And.intro (fun c30 => ?_) (fun c30 => ?_)
                · have h := And.left h c30
                  rw [if_neg c30] at hq
                  have q9 := hq _ rfl
                  dsimp only at q9
                  exact q9 h
                · have h := And.right h c30
                  rw [if_pos c30] at hq
                  rw [j_X10_readAct_109] at hq
                  unfold ws_X10_readAct_109 at h ⊢
                  refine ae ?_
                  have h := h _ rfl
                  refine du_X10_number (by decide) h ?_
                  intro h
                  refine And.intro (And.left h) ?_
                  have h := And.right h
                  have q9 := hq _ rfl
                  dsimp only at q9
                  exact q9 h
          · have h := And.right h c25
            rw [if_neg c25] at hq
            refine And.intro (fun c31 => ?_) (fun c31 => ?_)
            · have h := And.left h c31
              rw [if_pos c31] at hq
              rw [j_X10_readAct_61] at hq
              unfold ws_X10_readAct_61 at h ⊢
              refine ae ?_
              have h := h _ rfl
              refine And.intro (And.left h) ?_
              have h := And.right h
              refine And.intro (fun c32 => ?_) (fun c32 => ?_)
              · have h := And.left h c32
                rw [if_neg c32] at hq
                rw [j_X10_readAct_97] at hq
                unfold ws_X10_readAct_97 at h ⊢
                refine And.intro (fun c33 => ?_) (fun c33 => ?_)
                · have h := And.left h c33
                  rw [if_pos c33] at hq
                  rw [j_X10_readAct_109] at hq
                  unfold ws_X10_readAct_109 at h ⊢
                  refine ae ?_
                  have h := h _ rfl
                  refine du_X10_number (by decide) h ?_
                  intro h
                  refine And.intro (And.left h) ?_
                  have h := And.right h
                  have q9 := hq _ rfl
                  dsimp only at q9
                  exact q9 h
                · have h := And.right h c33
                  rw [if_neg c33] at hq
                  refine And.intro (fun c34 => ?_) (fun c34 => ?_)
                  · have h := And.left h c34
                    rw [if_neg c34] at hq
                    have q9 := hq _ rfl
                    dsimp only at q9
                    exact q9 h
                  · have h := And.right h c34
                    rw [if_pos c34] at hq
                    rw [j_X10_readAct_109] at hq
                    unfold ws_X10_readAct_109 at h ⊢
                    refine ae ?_
                    have h := h _ rfl
                    refine du_X10_number (by decide) h ?_
                    intro h
                    refine And.intro (And.left h) ?_
                    have h := And.right h
                    have q9 := hq _ rfl
                    dsimp only at q9
                    exact q9 h
              · have h := And.right h c32
                rw [if_pos c32] at hq
                refine ae ?_
                have h := h _ rfl
                refine du_X10_number (by decide) h ?_
                intro h
                refine And.intro (And.left h) ?_
                have h := And.right h
                rw [j_X10_readAct_97] at hq
                unfold ws_X10_readAct_97 at h ⊢
                refine And.intro (fun c35 => ?_) (fun c35 => ?_)
                · have h := And.left h c35
                  rw [if_pos c35] at hq
                  rw [j_X10_readAct_109] at hq
                  unfold ws_X10_readAct_109 at h ⊢
                  refine ae ?_
                  have h := h _ rfl
                  refine du_X10_number (by decide) h ?_
                  intro h
                  refine And.intro (And.left h) ?_
                  have h := And.right h
                  have q9 := hq _ rfl
                  dsimp only at q9
                  exact q9 h
                · have h := And.right h c35
                  rw [if_neg c35] at hq
                  refine And.intro (fun c36 => ?_) (fun c36 => ?_)
                  · have h := And.left h c36
                    rw [if_neg c36] at hq
                    have q9 := hq _ rfl
                    dsimp only at q9
                    exact q9 h
                  · have h := And.right h c36
                    rw [if_pos c36] at hq
                    rw [j_X10_readAct_109] at hq
                    unfold ws_X10_readAct_109 at h ⊢
                    refine ae ?_
                    have h := h _ rfl
                    refine du_X10_number (by decide) h ?_
                    intro h
                    refine And.intro (And.left h) ?_
                    have h := And.right h
                    have q9 := hq _ rfl
                    dsimp only at q9
                    exact q9 h
            · have h := And.right h c31
              rw [if_neg c31] at hq
              refine And.intro (fun c37 => ?_) (fun c37 => ?_)
              · have h := And.left h c37
                rw [if_pos c37] at hq
                rw [j_X10_readAct_61] at hq
                unfold ws_X10_readAct_61 at h ⊢
                refine ae ?_
                have h := h _ rfl
                refine And.intro (And.left h) ?_
                have h := And.right h
                refine And.intro (fun c38 => ?_) (fun c38 => ?_)
                · have h := And.left h c38
                  rw [if_neg c38] at hq
                  rw [j_X10_readAct_97] at hq
                  unfold ws_X10_readAct_97 at h ⊢
                  refine And.intro (fun c39 => ?_) (fun c39 => ?_)
                  · have h := And.left h c39
                    rw [if_pos c39] at hq
                    rw [j_X10_readAct_109] at hq
                    unfold ws_X10_readAct_109 at h ⊢
                    refine ae ?_
                    have h := h _ rfl
                    refine du_X10_number (by decide) h ?_
                    intro h
                    refine And.intro (And.left h) ?_
                    have h := And.right h
                    have q9 := hq _ rfl
                    dsimp only at q9
                    exact q9 h
                  · have h := And.right h c39
                    rw [if_neg c39] at hq
                    refine And.intro (fun c40 => ?_) (fun c40 => ?_)
                    · have h := And.left h c40
                      rw [if_neg c40] at hq
                      have q9 := hq _ rfl
                      dsimp only at q9
                      exact q9 h
                    · have h := And.right h c40
                      rw [if_pos c40] at hq
                      rw [j_X10_readAct_109] at hq
                      unfold ws_X10_readAct_109 at h ⊢
                      refine ae ?_
                      have h := h _ rfl
                      refine du_X10_number (by decide) h ?_
                      intro h
                      refine And.intro (And.left h) ?_
                      have h := And.right h
                      have q9 := hq _ rfl
                      dsimp only at q9
                      exact q9 h
                · have h := And.right h c38
                  rw [if_pos c38] at hq
                  refine ae ?_
                  have h := h _ rfl
                  refine du_X10_number (by decide) h ?_
                  intro h
                  refine And.intro (And.left h) ?_
                  have h := And.right h
                  rw [j_X10_readAct_97] at hq
                  unfold ws_X10_readAct_97 at h ⊢
                  refine And.intro (fun c41 => ?_) (fun c41 => ?_)
                  · have h := And.left h c41
                    rw [if_pos c41] at hq
                    rw [j_X10_readAct_109] at hq
                    unfold ws_X10_readAct_109 at h ⊢
                    refine ae ?_
                    have h := h _ rfl
                    refine du_X10_number (by decide) h ?_
                    intro h
                    refine And.intro (And.left h) ?_
                    have h := And.right h
                    have q9 := hq _ rfl
                    dsimp only at q9
                    exact q9 h
                  · have h := And.right h c41
                    rw [if_neg c41] at hq
                    refine And.intro (fun c42 => ?_) (fun c42 => ?_)
                    · have h := And.left h c42
                      rw [if_neg c42] at hq
                      have q9 := hq _ rfl
                      dsimp only at q9
                      exact q9 h
                    · have h := And.right h c42
                      rw [if_pos c42] at hq
                      rw [j_X10_readAct_109] at hq
                      unfold ws_X10_readAct_109 at h ⊢
                      refine ae ?_
                      have h := h _ rfl
                      refine du_X10_number (by decide) h ?_
                      intro h
                      refine And.intro (And.left h) ?_
                      have h := And.right h
                      have q9 := hq _ rfl
                      dsimp only at q9
                      exact q9 h
              · have h := And.right h c37
                rw [if_neg c37] at hq
                refine And.intro (fun c43 => ?_) (fun c43 => ?_)
                · have h := And.left h c43
                  rw [if_pos c43] at hq
                  rw [j_X10_readAct_61] at hq
                  unfold ws_X10_readAct_61 at h ⊢
                  refine ae ?_
                  have h := h _ rfl
                  refine And.intro (And.left h) ?_
                  have h := And.right h
                  refine And.intro (fun c44 => ?_) (fun c44 => ?_)
                  · have h := And.left h c44
                    rw [if_neg c44] at hq
                    rw [j_X10_readAct_97] at hq
                    unfold ws_X10_readAct_97 at h ⊢
                    refine And.intro (fun c45 => ?_) (fun c45 => ?_)
                    · have h := And.left h c45
                      rw [if_pos c45] at hq
                      rw [j_X10_readAct_109] at hq
                      unfold ws_X10_readAct_109 at h ⊢
                      refine ae ?_
                      have h := h _ rfl
                      refine du_X10_number (by decide) h ?_
                      intro h
                      refine And.intro (And.left h) ?_
                      have h := And.right h
                      have q9 := hq _ rfl
                      dsimp only at q9
                      exact q9 h
                    · have h := And.right h c45
                      rw [if_neg c45] at hq
                      refine And.intro (fun c46 => ?_) (fun c46 => ?_)
                      · have h := And.left h c46
                        rw [if_neg c46] at hq
                        have q9 := hq _ rfl
                        dsimp only at q9
                        exact q9 h
                      · have h := And.right h c46
                        rw [if_pos c46] at hq
                        rw [j_X10_readAct_109] at hq
                        unfold ws_X10_readAct_109 at h ⊢
                        refine ae ?_
                        have h := h _ rfl
                        refine du_X10_number (by decide) h ?_
                        intro h
                        refine And.intro (And.left h) ?_
                        have h := And.right h
                        have q9 := hq _ rfl
                        dsimp only at q9
                        exact q9 h
                  · have h := And.right h c44
                    rw [if_pos c44] at hq
                    refine ae ?_
                    have h := h _ rfl
                    refine du_X10_number (by decide) h ?_
                    intro h
                    refine And.intro (And.left h) ?_
                    have h := And.right h
                    rw [j_X10_readAct_97] at hq
                    unfold ws_X10_readAct_97 at h ⊢
                    refine And.intro (fun c47 => ?_) (fun c47 => ?_)
                    · have h := And.left h c47
                      rw [if_pos c47] at hq
                      rw [j_X10_readAct_109] at hq
                      unfold ws_X10_readAct_109 at h ⊢
                      refine ae ?_
                      have h := h _ rfl
                      refine du_X10_number (by decide) h ?_
                      intro h
                      refine And.intro (And.left h) ?_
                      have h := And.right h
                      have q9 := hq _ rfl
                      dsimp only at q9
                      exact q9 h
                    · have h := And.right h c47
                      rw [if_neg c47] at hq
                      refine And.intro (fun c48 => ?_) (fun c48 => ?_)
                      · have h := And.left h c48
                        rw [if_neg c48] at hq
                        have q9 := hq _ rfl
                        dsimp only at q9
                        exact q9 h
                      · have h := And.right h c48
                        rw [if_pos c48] at hq
                        rw [j_X10_readAct_109] at hq
                        unfold ws_X10_readAct_109 at h ⊢
                        refine ae ?_
                        have h := h _ rfl
                        refine du_X10_number (by decide) h ?_
                        intro h
                        refine And.intro (And.left h) ?_
                        have h := And.right h
                        have q9 := hq _ rfl
                        dsimp only at q9
                        exact q9 h
                · have h := And.right h c43
                  rw [if_neg c43] at hq
                  refine du_X10_fault h ?_
                  intro h
                  rw [j_X10_readAct_61] at hq
                  unfold ws_X10_readAct_61 at h ⊢
                  refine ae ?_
                  have h := h _ rfl
                  refine And.intro (And.left h) ?_
                  have h := And.right h
                  refine And.intro (fun c49 => ?_) (fun c49 => ?_)
                  · have h := And.left h c49
                    rw [if_neg c49] at hq
                    rw [j_X10_readAct_97] at hq
                    unfold ws_X10_readAct_97 at h ⊢
                    refine And.intro (fun c50 => ?_) (fun c50 => ?_)
                    · have h := And.left h c50
                      rw [if_pos c50] at hq
                      rw [j_X10_readAct_109] at hq
                      unfold ws_X10_readAct_109 at h ⊢
                      refine ae ?_
                      have h := h _ rfl
                      refine du_X10_number (by decide) h ?_
                      intro h
                      refine And.intro (And.left h) ?_
                      have h := And.right h
                      have q9 := hq _ rfl
                      dsimp only at q9
                      exact q9 h
                    · have h := And.right h c50
                      rw [if_neg c50] at hq
                      refine And.intro (fun c51 => ?_) (fun c51 => ?_)
                      · have h := And.left h c51
                        rw [if_neg c51] at hq
                        have q9 := hq _ rfl
                        dsimp only at q9
                        exact q9 h
                      · have h := And.right h c51
                        rw [if_pos c51] at hq
                        rw [j_X10_readAct_109] at hq
                        unfold ws_X10_readAct_109 at h ⊢
                        refine ae ?_
                        have h := h _ rfl
                        refine du_X10_number (by decide) h ?_
                        intro h
                        refine And.intro (And.left h) ?_
                        have h := And.right h
                        have q9 := hq _ rfl
                        dsimp only at q9
                        exact q9 h
                  · have h := And.right h c49
                    rw [if_pos c49] at hq
                    refine ae ?_
                    have h := h _ rfl
                    refine du_X10_number (by decide) h ?_
                    intro h
                    refine And.intro (And.left h) ?_
                    have h := And.right h
                    rw [j_X10_readAct_97] at hq
                    unfold ws_X10_readAct_97 at h ⊢
                    refine And.intro (fun c52 => ?_) (fun c52 => ?_)
                    · have h := And.left h c52
                      rw [if_pos c52] at hq
                      rw [j_X10_readAct_109] at hq
                      unfold ws_X10_readAct_109 at h ⊢
                      refine ae ?_
                      have h := h _ rfl
                      refine du_X10_number (by decide) h ?_
                      intro h
                      refine And.intro (And.left h) ?_
                      have h := And.right h
                      have q9 := hq _ rfl
                      dsimp only at q9
                      exact q9 h
                    · have h := And.right h c52
                      rw [if_neg c52] at hq
                      refine And.intro (fun c53 => ?_) (fun c53 => ?_)
                      · have h := And.left h c53
                        rw [if_neg c53] at hq
                        have q9 := hq _ rfl
                        dsimp only at q9
                        exact q9 h
                      · have h := And.right h c53
                        rw [if_pos c53] at hq
                        rw [j_X10_readAct_109] at hq
                        unfold ws_X10_readAct_109 at h ⊢
                        refine ae ?_
                        have h := h _ rfl
                        refine du_X10_number (by decide) h ?_
                        intro h
                        refine And.intro (And.left h) ?_
                        have h := And.right h
                        have q9 := hq _ rfl
                        dsimp only at q9
                        exact q9 h
theorem du_X10_readAct {P Q : Int32 → Int32 → (Nat → Int32) → Prop} {p0 : Int32} {m_read : Nat} {m_length : Int32} {m_top : Int32} {m_at : Int32} {m_wrong : Int32} {m_text : Nat → Int32} {m_rule : Nat → Int32} {m_acts : Nat → Int32} (h : wp_X10_readAct P p0 m_read m_length m_top m_at m_wrong m_text m_rule m_acts) (hq : P (F_X10_readAct p0 m_read m_length m_top m_at m_wrong m_text m_rule m_acts).1 (F_X10_readAct p0 m_read m_length m_top m_at m_wrong m_text m_rule m_acts).2.1 (F_X10_readAct p0 m_read m_length m_top m_at m_wrong m_text m_rule m_acts).2.2 → Q (F_X10_readAct p0 m_read m_length m_top m_at m_wrong m_text m_rule m_acts).1 (F_X10_readAct p0 m_read m_length m_top m_at m_wrong m_text m_rule m_acts).2.1 (F_X10_readAct p0 m_read m_length m_top m_at m_wrong m_text m_rule m_acts).2.2) : wp_X10_readAct Q p0 m_read m_length m_top m_at m_wrong m_text m_rule m_acts := dt_X10_readAct h (fun o eo => by rw [eo]; exact hq)
theorem dw_X10_readAct {Q : Int32 → Int32 → (Nat → Int32) → Prop} {p0 : Int32} {m_read : Nat} {m_length : Int32} {m_top : Int32} {m_at : Int32} {m_wrong : Int32} {m_text : Nat → Int32} {m_rule : Nat → Int32} {m_acts : Nat → Int32} (h : wp_X10_readAct (fun o0 o1 o2 => (o0, o1, o2) = F_X10_readAct p0 m_read m_length m_top m_at m_wrong m_text m_rule m_acts → Q o0 o1 o2) p0 m_read m_length m_top m_at m_wrong m_text m_rule m_acts) : wp_X10_readAct Q p0 m_read m_length m_top m_at m_wrong m_text m_rule m_acts := dt_X10_readAct h (fun o eo hp => hp eo)
noncomputable def bd_X10_lay_b2_2 (m_now : Nat → Int32) (x2 : Int32) (c : Int32) (s : (Nat → Int32)) : (Nat → Int32) := (upd s (x2 + c).toNatClampNeg (m_now c.toNatClampNeg))
noncomputable def ex_X10_lay_b2_2 {R : Type} (po : (Nat → Int32) → R) (m_now : Nat → Int32) (x2 : Int32) (c : Int32) (s : (Nat → Int32)) : R := po s
set_option maxHeartbeats 200000 in
set_option maxRecDepth 10000 in
theorem dl_X10_lay_b2_2 {P Q : (Nat → Int32) → Prop} {m_now : Nat → Int32} {x2 : Int32} {a : (Nat → Int32)} {i : Nat} (hi0 : i < 2147483648) (hE : ∀ (c : Int32) (s : (Nat → Int32)), c = nI (i + (Int32.toInt 21 - ((i : Nat) : Int)).toNat) → s = itr (bd_X10_lay_b2_2 m_now x2) a i (Int32.toInt 21 - ((i : Nat) : Int)).toNat → (P s) → (Q s)) : ∀ (n k : Nat) (c : Int32), c = nI (i + k) → k ≤ (Int32.toInt 21 - ((i : Nat) : Int)).toNat → wb_X10_lay_b2_2 P m_now n x2 c (itr (bd_X10_lay_b2_2 m_now x2) a i k) → wb_X10_lay_b2_2 Q m_now n x2 c (itr (bd_X10_lay_b2_2 m_now x2) a i k) := by
  intro n
  induction n with
  | zero => intro k c hc hk h; exact False.elim h
  | succ n ih =>
    intro k c hc hk h
    have hr := tp_r 21
    have hi : Int32.toInt c = ((i + k : Nat) : Int) := by rw [hc]; exact nI_toInt (by omega)
    refine And.intro (fun t0 => ?_) (fun t0 => ?_)
    · have h := And.left h t0
      have t1 := (fa_le _ _).mp t0
      have hk2 : k = (Int32.toInt 21 - ((i : Nat) : Int)).toNat := by omega
      subst hk2
      exact hE _ _ hc rfl h
    · have h := And.right h t0
      have t1 := mt (fa_le _ _).mpr t0
      have hs : ∀ o : (Nat → Int32), o = itr (bd_X10_lay_b2_2 m_now x2) a i (k + 1) → wb_X10_lay_b2_2 P m_now n x2 (c + 1) o → wb_X10_lay_b2_2 Q m_now n x2 (c + 1) o := by
        intro o eo h9
        have q := ih (k + 1) (c + 1) (by rw [hc]; exact nI_1 _) (by omega)
        rw [← eo] at q
        exact q h9
      rw [itr_s, ← hc, bd_X10_lay_b2_2] at hs
      refine ae ?_
      have h := h _ rfl
      refine And.intro (And.left h) ?_
      have h := And.right h
      refine ae ?_
      have h := h _ rfl
      refine And.intro (And.left h) ?_
      have h := And.right h
      refine ae ?_
      have h := h _ rfl
      have q9 := hs _ rfl
      exact q9 h
noncomputable def F_X10_lay_b2 (p2 : Int32) (m_now : Nat → Int32) (m_aside : Nat → Int32) : (Nat → Int32) := ex_X10_lay_b2_2 (fun o0 => o0) m_now p2 (nI (0 + (Int32.toInt 21 - ((0 : Nat) : Int)).toNat)) (itr (bd_X10_lay_b2_2 m_now p2) m_aside 0 (Int32.toInt 21 - ((0 : Nat) : Int)).toNat)
set_option maxHeartbeats 200000 in
set_option maxRecDepth 10000 in
theorem dt_X10_lay_b2 {P Q : (Nat → Int32) → Prop} {p2 : Int32} {m_now : Nat → Int32} {m_aside : Nat → Int32} (h : wp_X10_lay_b2 P p2 m_now m_aside) (hq : ∀ o : (Nat → Int32), o = F_X10_lay_b2 p2 m_now m_aside → P o → Q o) : wp_X10_lay_b2 Q p2 m_now m_aside := by
  rw [F_X10_lay_b2] at hq
  obtain ⟨n1, h⟩ := h
  refine ⟨n1, dl_X10_lay_b2_2 (a := m_aside) (i := 0) (by decide) ?_ n1 0 0 (by decide) (Nat.zero_le _) h⟩
  intro cc2 s3 ec4 es5 h
  rw [← ec4, ← es5, ex_X10_lay_b2_2] at hq
  have q9 := hq _ rfl
  exact q9 h
theorem du_X10_lay_b2 {P Q : (Nat → Int32) → Prop} {p2 : Int32} {m_now : Nat → Int32} {m_aside : Nat → Int32} (h : wp_X10_lay_b2 P p2 m_now m_aside) (hq : P (F_X10_lay_b2 p2 m_now m_aside) → Q (F_X10_lay_b2 p2 m_now m_aside)) : wp_X10_lay_b2 Q p2 m_now m_aside := dt_X10_lay_b2 h (fun o eo => by rw [eo]; exact hq)
theorem dw_X10_lay_b2 {Q : (Nat → Int32) → Prop} {p2 : Int32} {m_now : Nat → Int32} {m_aside : Nat → Int32} (h : wp_X10_lay_b2 (fun o0 => o0 = F_X10_lay_b2 p2 m_now m_aside → Q o0) p2 m_now m_aside) : wp_X10_lay_b2 Q p2 m_now m_aside := dt_X10_lay_b2 h (fun o eo hp => hp eo)
noncomputable def bd_X10_lay_b3_2 (m_aside : Nat → Int32) (x2 : Int32) (c : Int32) (s : (Nat → Int32)) : (Nat → Int32) := (upd s (x2 + c).toNatClampNeg (m_aside c.toNatClampNeg))
noncomputable def ex_X10_lay_b3_2 {R : Type} (po : (Nat → Int32) → R) (m_aside : Nat → Int32) (x2 : Int32) (c : Int32) (s : (Nat → Int32)) : R := po s
set_option maxHeartbeats 200000 in
set_option maxRecDepth 10000 in
theorem dl_X10_lay_b3_2 {P Q : (Nat → Int32) → Prop} {m_aside : Nat → Int32} {x2 : Int32} {a : (Nat → Int32)} {i : Nat} (hi0 : i < 2147483648) (hE : ∀ (c : Int32) (s : (Nat → Int32)), c = nI (i + (Int32.toInt 21 - ((i : Nat) : Int)).toNat) → s = itr (bd_X10_lay_b3_2 m_aside x2) a i (Int32.toInt 21 - ((i : Nat) : Int)).toNat → (P s) → (Q s)) : ∀ (n k : Nat) (c : Int32), c = nI (i + k) → k ≤ (Int32.toInt 21 - ((i : Nat) : Int)).toNat → wb_X10_lay_b3_2 P m_aside n x2 c (itr (bd_X10_lay_b3_2 m_aside x2) a i k) → wb_X10_lay_b3_2 Q m_aside n x2 c (itr (bd_X10_lay_b3_2 m_aside x2) a i k) := by
  intro n
  induction n with
  | zero => intro k c hc hk h; exact False.elim h
  | succ n ih =>
    intro k c hc hk h
    have hr := tp_r 21
    have hi : Int32.toInt c = ((i + k : Nat) : Int) := by rw [hc]; exact nI_toInt (by omega)
    refine And.intro (fun t0 => ?_) (fun t0 => ?_)
    · have h := And.left h t0
      have t1 := (fa_le _ _).mp t0
      have hk2 : k = (Int32.toInt 21 - ((i : Nat) : Int)).toNat := by omega
      subst hk2
      exact hE _ _ hc rfl h
    · have h := And.right h t0
      have t1 := mt (fa_le _ _).mpr t0
      have hs : ∀ o : (Nat → Int32), o = itr (bd_X10_lay_b3_2 m_aside x2) a i (k + 1) → wb_X10_lay_b3_2 P m_aside n x2 (c + 1) o → wb_X10_lay_b3_2 Q m_aside n x2 (c + 1) o := by
        intro o eo h9
        have q := ih (k + 1) (c + 1) (by rw [hc]; exact nI_1 _) (by omega)
        rw [← eo] at q
        exact q h9
      rw [itr_s, ← hc, bd_X10_lay_b3_2] at hs
      refine ae ?_
      have h := h _ rfl
      refine And.intro (And.left h) ?_
      have h := And.right h
      refine ae ?_
      have h := h _ rfl
      refine And.intro (And.left h) ?_
      have h := And.right h
      refine ae ?_
      have h := h _ rfl
      have q9 := hs _ rfl
      exact q9 h
noncomputable def F_X10_lay_b3 (p2 : Int32) (m_undos : Nat → Int32) (m_aside : Nat → Int32) : (Nat → Int32) := ex_X10_lay_b3_2 (fun o0 => o0) m_aside p2 (nI (0 + (Int32.toInt 21 - ((0 : Nat) : Int)).toNat)) (itr (bd_X10_lay_b3_2 m_aside p2) m_undos 0 (Int32.toInt 21 - ((0 : Nat) : Int)).toNat)
set_option maxHeartbeats 200000 in
set_option maxRecDepth 10000 in
theorem dt_X10_lay_b3 {P Q : (Nat → Int32) → Prop} {p2 : Int32} {m_undos : Nat → Int32} {m_aside : Nat → Int32} (h : wp_X10_lay_b3 P p2 m_undos m_aside) (hq : ∀ o : (Nat → Int32), o = F_X10_lay_b3 p2 m_undos m_aside → P o → Q o) : wp_X10_lay_b3 Q p2 m_undos m_aside := by
  rw [F_X10_lay_b3] at hq
  obtain ⟨n1, h⟩ := h
  refine ⟨n1, dl_X10_lay_b3_2 (a := m_undos) (i := 0) (by decide) ?_ n1 0 0 (by decide) (Nat.zero_le _) h⟩
  intro cc2 s3 ec4 es5 h
  rw [← ec4, ← es5, ex_X10_lay_b3_2] at hq
  have q9 := hq _ rfl
  exact q9 h
theorem du_X10_lay_b3 {P Q : (Nat → Int32) → Prop} {p2 : Int32} {m_undos : Nat → Int32} {m_aside : Nat → Int32} (h : wp_X10_lay_b3 P p2 m_undos m_aside) (hq : P (F_X10_lay_b3 p2 m_undos m_aside) → Q (F_X10_lay_b3 p2 m_undos m_aside)) : wp_X10_lay_b3 Q p2 m_undos m_aside := dt_X10_lay_b3 h (fun o eo => by rw [eo]; exact hq)
theorem dw_X10_lay_b3 {Q : (Nat → Int32) → Prop} {p2 : Int32} {m_undos : Nat → Int32} {m_aside : Nat → Int32} (h : wp_X10_lay_b3 (fun o0 => o0 = F_X10_lay_b3 p2 m_undos m_aside → Q o0) p2 m_undos m_aside) : wp_X10_lay_b3 Q p2 m_undos m_aside := dt_X10_lay_b3 h (fun o eo hp => hp eo)
noncomputable def bd_X10_remember_b2_11 (m_aside : Nat → Int32) (m_undoMany : Int32) (c : Int32) (s : (Nat → Int32)) : (Nat → Int32) := (upd s c.toNatClampNeg (s (c + 21).toNatClampNeg))
noncomputable def j_X10_remember_b2_49 {R : Type} (po : Int32 → (Nat → Int32) → R) (m_aside : Nat → Int32) (m_undoMany : Int32) (m_undos : Nat → Int32) : R := po (m_undoMany + 1) (F_X10_lay_b3 (21 * m_undoMany) m_undos m_aside)
noncomputable def ex_X10_remember_b2_11 {R : Type} (po : Int32 → (Nat → Int32) → R) (m_aside : Nat → Int32) (m_undoMany : Int32) (c : Int32) (s : (Nat → Int32)) : R := j_X10_remember_b2_49 po m_aside (m_undoMany - 1) s
set_option maxHeartbeats 200000 in
set_option maxRecDepth 10000 in
theorem dl_X10_remember_b2_11 {P Q : Int32 → (Nat → Int32) → Prop} {m_aside : Nat → Int32} {m_undoMany : Int32} {a : (Nat → Int32)} {i : Nat} (hi0 : i < 2147483648) (hE : ∀ (c : Int32) (s : (Nat → Int32)), c = nI (i + (Int32.toInt 231 - ((i : Nat) : Int)).toNat) → s = itr (bd_X10_remember_b2_11 m_aside m_undoMany) a i (Int32.toInt 231 - ((i : Nat) : Int)).toNat → (∀ v_4 : Int32, v_4 = m_undoMany - 1 → ws_X10_remember_b2_49 P m_aside v_4 s) → (∀ v_4 : Int32, v_4 = m_undoMany - 1 → ws_X10_remember_b2_49 Q m_aside v_4 s)) : ∀ (n k : Nat) (c : Int32), c = nI (i + k) → k ≤ (Int32.toInt 231 - ((i : Nat) : Int)).toNat → wb_X10_remember_b2_11 P m_aside n c m_undoMany (itr (bd_X10_remember_b2_11 m_aside m_undoMany) a i k) → wb_X10_remember_b2_11 Q m_aside n c m_undoMany (itr (bd_X10_remember_b2_11 m_aside m_undoMany) a i k) := by
  intro n
  induction n with
  | zero => intro k c hc hk h; exact False.elim h
  | succ n ih =>
    intro k c hc hk h
    have hr := tp_r 231
    have hi : Int32.toInt c = ((i + k : Nat) : Int) := by rw [hc]; exact nI_toInt (by omega)
    refine And.intro (fun t0 => ?_) (fun t0 => ?_)
    · have h := And.left h t0
      have t1 := (fa_le _ _).mp t0
      have hk2 : k = (Int32.toInt 231 - ((i : Nat) : Int)).toNat := by omega
      subst hk2
      exact hE _ _ hc rfl h
    · have h := And.right h t0
      have t1 := mt (fa_le _ _).mpr t0
      have hs : ∀ o : (Nat → Int32), o = itr (bd_X10_remember_b2_11 m_aside m_undoMany) a i (k + 1) → wb_X10_remember_b2_11 P m_aside n (c + 1) m_undoMany o → wb_X10_remember_b2_11 Q m_aside n (c + 1) m_undoMany o := by
        intro o eo h9
        have q := ih (k + 1) (c + 1) (by rw [hc]; exact nI_1 _) (by omega)
        rw [← eo] at q
        exact q h9
      rw [itr_s, ← hc, bd_X10_remember_b2_11] at hs
      refine ae ?_
      have h := h _ rfl
      refine And.intro (And.left h) ?_
      have h := And.right h
      refine ae ?_
      have h := h _ rfl
      refine And.intro (And.left h) ?_
      have h := And.right h
      refine ae ?_
      have h := h _ rfl
      have q9 := hs _ rfl
      exact q9 h
noncomputable def F_X10_remember_b2 (m_undoMany : Int32) (m_undos : Nat → Int32) (m_aside : Nat → Int32) : Int32 × (Nat → Int32) := if m_undoMany = 12 then (ex_X10_remember_b2_11 (fun o0 o1 => (o0, o1)) m_aside m_undoMany (nI (0 + (Int32.toInt 231 - ((0 : Nat) : Int)).toNat)) (itr (bd_X10_remember_b2_11 m_aside m_undoMany) m_undos 0 (Int32.toInt 231 - ((0 : Nat) : Int)).toNat)) else (j_X10_remember_b2_49 (fun o0 o1 => (o0, o1)) m_aside m_undoMany m_undos)
set_option maxHeartbeats 200000 in
set_option maxRecDepth 10000 in
theorem dt_X10_remember_b2 {P Q : Int32 → (Nat → Int32) → Prop} {m_undoMany : Int32} {m_undos : Nat → Int32} {m_aside : Nat → Int32} (h : wp_X10_remember_b2 P m_undoMany m_undos m_aside) (hq : ∀ o : Int32 × (Nat → Int32), o = F_X10_remember_b2 m_undoMany m_undos m_aside → P o.1 o.2 → Q o.1 o.2) : wp_X10_remember_b2 Q m_undoMany m_undos m_aside := by
  rw [F_X10_remember_b2] at hq
  refine And.intro (fun c1 => ?_) (fun c1 => ?_)
  · have h := And.left h c1
    rw [if_neg c1] at hq
    rw [j_X10_remember_b2_49] at hq
    unfold ws_X10_remember_b2_49 at h ⊢
    refine ae ?_
    have h := h _ rfl
    refine du_X10_lay_b3 h ?_
    intro h
    refine ae ?_
    have h := h _ rfl
    have q9 := hq _ rfl
    dsimp only at q9
    exact q9 h
  · have h := And.right h c1
    rw [if_pos c1] at hq
    obtain ⟨n2, h⟩ := h
    refine ⟨n2, dl_X10_remember_b2_11 (a := m_undos) (i := 0) (by decide) ?_ n2 0 0 (by decide) (Nat.zero_le _) h⟩
    intro cc3 s4 ec5 es6 h
    rw [← ec5, ← es6, ex_X10_remember_b2_11] at hq
    refine ae ?_
    have h := h _ rfl
    rw [j_X10_remember_b2_49] at hq
    unfold ws_X10_remember_b2_49 at h ⊢
    refine ae ?_
    have h := h _ rfl
    refine du_X10_lay_b3 h ?_
    intro h
    refine ae ?_
    have h := h _ rfl
    have q9 := hq _ rfl
    dsimp only at q9
    exact q9 h
theorem du_X10_remember_b2 {P Q : Int32 → (Nat → Int32) → Prop} {m_undoMany : Int32} {m_undos : Nat → Int32} {m_aside : Nat → Int32} (h : wp_X10_remember_b2 P m_undoMany m_undos m_aside) (hq : P (F_X10_remember_b2 m_undoMany m_undos m_aside).1 (F_X10_remember_b2 m_undoMany m_undos m_aside).2 → Q (F_X10_remember_b2 m_undoMany m_undos m_aside).1 (F_X10_remember_b2 m_undoMany m_undos m_aside).2) : wp_X10_remember_b2 Q m_undoMany m_undos m_aside := dt_X10_remember_b2 h (fun o eo => by rw [eo]; exact hq)
theorem dw_X10_remember_b2 {Q : Int32 → (Nat → Int32) → Prop} {m_undoMany : Int32} {m_undos : Nat → Int32} {m_aside : Nat → Int32} (h : wp_X10_remember_b2 (fun o0 o1 => (o0, o1) = F_X10_remember_b2 m_undoMany m_undos m_aside → Q o0 o1) m_undoMany m_undos m_aside) : wp_X10_remember_b2 Q m_undoMany m_undos m_aside := dt_X10_remember_b2 h (fun o eo hp => hp eo)
noncomputable def bd_X10_undo_26 (m_undos : Nat → Int32) (m_thrown : Int32) (m_undoMany : Int32) (c : Int32) (s : (Nat → Int32)) : (Nat → Int32) := (upd s c.toNatClampNeg (m_undos ((21 * m_undoMany) + c).toNatClampNeg))
noncomputable def ex_X10_undo_26 {R : Type} (po : Int32 → Int32 → Int32 → (Nat → Int32) → R) (m_undos : Nat → Int32) (m_thrown : Int32) (m_undoMany : Int32) (c : Int32) (s : (Nat → Int32)) : R := po m_undoMany m_thrown m_undoMany s
set_option maxHeartbeats 200000 in
set_option maxRecDepth 10000 in
theorem dl_X10_undo_26 {P Q : Int32 → Int32 → Int32 → (Nat → Int32) → Prop} {m_undos : Nat → Int32} {m_thrown : Int32} {m_undoMany : Int32} {a : (Nat → Int32)} {i : Nat} (hi0 : i < 2147483648) (hE : ∀ (c : Int32) (s : (Nat → Int32)), c = nI (i + (Int32.toInt 21 - ((i : Nat) : Int)).toNat) → s = itr (bd_X10_undo_26 m_undos m_thrown m_undoMany) a i (Int32.toInt 21 - ((i : Nat) : Int)).toNat → (P m_undoMany m_thrown m_undoMany s) → (Q m_undoMany m_thrown m_undoMany s)) : ∀ (n k : Nat) (c : Int32), c = nI (i + k) → k ≤ (Int32.toInt 21 - ((i : Nat) : Int)).toNat → wb_X10_undo_26 P m_undos n c m_thrown m_undoMany (itr (bd_X10_undo_26 m_undos m_thrown m_undoMany) a i k) → wb_X10_undo_26 Q m_undos n c m_thrown m_undoMany (itr (bd_X10_undo_26 m_undos m_thrown m_undoMany) a i k) := by
  intro n
  induction n with
  | zero => intro k c hc hk h; exact False.elim h
  | succ n ih =>
    intro k c hc hk h
    have hr := tp_r 21
    have hi : Int32.toInt c = ((i + k : Nat) : Int) := by rw [hc]; exact nI_toInt (by omega)
    refine And.intro (fun t0 => ?_) (fun t0 => ?_)
    · have h := And.left h t0
      have t1 := (fa_le _ _).mp t0
      have hk2 : k = (Int32.toInt 21 - ((i : Nat) : Int)).toNat := by omega
      subst hk2
      exact hE _ _ hc rfl h
    · have h := And.right h t0
      have t1 := mt (fa_le _ _).mpr t0
      have hs : ∀ o : (Nat → Int32), o = itr (bd_X10_undo_26 m_undos m_thrown m_undoMany) a i (k + 1) → wb_X10_undo_26 P m_undos n (c + 1) m_thrown m_undoMany o → wb_X10_undo_26 Q m_undos n (c + 1) m_thrown m_undoMany o := by
        intro o eo h9
        have q := ih (k + 1) (c + 1) (by rw [hc]; exact nI_1 _) (by omega)
        rw [← eo] at q
        exact q h9
      rw [itr_s, ← hc, bd_X10_undo_26] at hs
      refine ae ?_
      have h := h _ rfl
      refine ae ?_
      have h := h _ rfl
      refine And.intro (And.left h) ?_
      have h := And.right h
      refine ae ?_
      have h := h _ rfl
      refine And.intro (And.left h) ?_
      have h := And.right h
      refine ae ?_
      have h := h _ rfl
      have q9 := hs _ rfl
      exact q9 h
noncomputable def F_X10_undo (m_thrown : Int32) (m_undoMany : Int32) (m_now : Nat → Int32) (m_undos : Nat → Int32) : Int32 × Int32 × Int32 × (Nat → Int32) := if m_undoMany = 0 then ((-1), 0, m_undoMany, m_now) else (ex_X10_undo_26 (fun o0 o1 o2 o3 => (o0, o1, o2, o3)) m_undos 0 (m_undoMany - 1) (nI (0 + (Int32.toInt 21 - ((0 : Nat) : Int)).toNat)) (itr (bd_X10_undo_26 m_undos 0 (m_undoMany - 1)) m_now 0 (Int32.toInt 21 - ((0 : Nat) : Int)).toNat))
set_option maxHeartbeats 200000 in
set_option maxRecDepth 10000 in
theorem dt_X10_undo {P Q : Int32 → Int32 → Int32 → (Nat → Int32) → Prop} {m_thrown : Int32} {m_undoMany : Int32} {m_now : Nat → Int32} {m_undos : Nat → Int32} (h : wp_X10_undo P m_thrown m_undoMany m_now m_undos) (hq : ∀ o : Int32 × Int32 × Int32 × (Nat → Int32), o = F_X10_undo m_thrown m_undoMany m_now m_undos → P o.1 o.2.1 o.2.2.1 o.2.2.2 → Q o.1 o.2.1 o.2.2.1 o.2.2.2) : wp_X10_undo Q m_thrown m_undoMany m_now m_undos := by
  rw [F_X10_undo] at hq
  refine And.intro (fun c1 => ?_) (fun c1 => ?_)
  · have h := And.left h c1
    rw [if_neg c1] at hq
    refine ae ?_
    have h := h _ rfl
    obtain ⟨n2, h⟩ := h
    refine ⟨n2, dl_X10_undo_26 (a := m_now) (i := 0) (by decide) ?_ n2 0 0 (by decide) (Nat.zero_le _) h⟩
    intro cc3 s4 ec5 es6 h
    rw [← ec5, ← es6, ex_X10_undo_26] at hq
    have q9 := hq _ rfl
    dsimp only at q9
    exact q9 h
  · have h := And.right h c1
    rw [if_pos c1] at hq
    have q9 := hq _ rfl
    dsimp only at q9
    exact q9 h
theorem du_X10_undo {P Q : Int32 → Int32 → Int32 → (Nat → Int32) → Prop} {m_thrown : Int32} {m_undoMany : Int32} {m_now : Nat → Int32} {m_undos : Nat → Int32} (h : wp_X10_undo P m_thrown m_undoMany m_now m_undos) (hq : P (F_X10_undo m_thrown m_undoMany m_now m_undos).1 (F_X10_undo m_thrown m_undoMany m_now m_undos).2.1 (F_X10_undo m_thrown m_undoMany m_now m_undos).2.2.1 (F_X10_undo m_thrown m_undoMany m_now m_undos).2.2.2 → Q (F_X10_undo m_thrown m_undoMany m_now m_undos).1 (F_X10_undo m_thrown m_undoMany m_now m_undos).2.1 (F_X10_undo m_thrown m_undoMany m_now m_undos).2.2.1 (F_X10_undo m_thrown m_undoMany m_now m_undos).2.2.2) : wp_X10_undo Q m_thrown m_undoMany m_now m_undos := dt_X10_undo h (fun o eo => by rw [eo]; exact hq)
theorem dw_X10_undo {Q : Int32 → Int32 → Int32 → (Nat → Int32) → Prop} {m_thrown : Int32} {m_undoMany : Int32} {m_now : Nat → Int32} {m_undos : Nat → Int32} (h : wp_X10_undo (fun o0 o1 o2 o3 => (o0, o1, o2, o3) = F_X10_undo m_thrown m_undoMany m_now m_undos → Q o0 o1 o2 o3) m_thrown m_undoMany m_now m_undos) : wp_X10_undo Q m_thrown m_undoMany m_now m_undos := dt_X10_undo h (fun o eo hp => hp eo)
noncomputable def F_X10_hereWanted (m_fruits : Int32) (m_now : Nat → Int32) (m_x : Nat → Int32) (m_height : Nat → Int32) (m_ripe : Nat → Int32) (m_foot : Nat → Int32) (m_fork : Nat → Int32) (m_told : Nat → Int32) : Int32 := (((F_X10_which 0 m_fruits m_now) &&& (F_X10_ripeOnes (m_now (19 : Int32).toNatClampNeg) m_fruits m_ripe)) &&& (F_X10_byHand (m_now (17 : Int32).toNatClampNeg) m_fruits m_now m_x m_height m_foot m_fork m_told))
set_option maxHeartbeats 200000 in
set_option maxRecDepth 10000 in
theorem dt_X10_hereWanted {P Q : Int32 → Prop} {m_fruits : Int32} {m_now : Nat → Int32} {m_x : Nat → Int32} {m_height : Nat → Int32} {m_ripe : Nat → Int32} {m_foot : Nat → Int32} {m_fork : Nat → Int32} {m_told : Nat → Int32} (h : wp_X10_hereWanted P m_fruits m_now m_x m_height m_ripe m_foot m_fork m_told) (hq : ∀ o : Int32, o = F_X10_hereWanted m_fruits m_now m_x m_height m_ripe m_foot m_fork m_told → P o → Q o) : wp_X10_hereWanted Q m_fruits m_now m_x m_height m_ripe m_foot m_fork m_told := by
  rw [F_X10_hereWanted] at hq
  refine du_X10_which h ?_
  intro h
  refine ae ?_
  have h := h _ rfl
  refine du_X10_ripeOnes h ?_
  intro h
  refine ae ?_
  have h := h _ rfl
  refine ae ?_
  have h := h _ rfl
  refine du_X10_byHand h ?_
  intro h
  have q9 := hq _ rfl
  exact q9 h
theorem du_X10_hereWanted {P Q : Int32 → Prop} {m_fruits : Int32} {m_now : Nat → Int32} {m_x : Nat → Int32} {m_height : Nat → Int32} {m_ripe : Nat → Int32} {m_foot : Nat → Int32} {m_fork : Nat → Int32} {m_told : Nat → Int32} (h : wp_X10_hereWanted P m_fruits m_now m_x m_height m_ripe m_foot m_fork m_told) (hq : P (F_X10_hereWanted m_fruits m_now m_x m_height m_ripe m_foot m_fork m_told) → Q (F_X10_hereWanted m_fruits m_now m_x m_height m_ripe m_foot m_fork m_told)) : wp_X10_hereWanted Q m_fruits m_now m_x m_height m_ripe m_foot m_fork m_told := dt_X10_hereWanted h (fun o eo => by rw [eo]; exact hq)
theorem dw_X10_hereWanted {Q : Int32 → Prop} {m_fruits : Int32} {m_now : Nat → Int32} {m_x : Nat → Int32} {m_height : Nat → Int32} {m_ripe : Nat → Int32} {m_foot : Nat → Int32} {m_fork : Nat → Int32} {m_told : Nat → Int32} (h : wp_X10_hereWanted (fun o0 => o0 = F_X10_hereWanted m_fruits m_now m_x m_height m_ripe m_foot m_fork m_told → Q o0) m_fruits m_now m_x m_height m_ripe m_foot m_fork m_told) : wp_X10_hereWanted Q m_fruits m_now m_x m_height m_ripe m_foot m_fork m_told := dt_X10_hereWanted h (fun o eo hp => hp eo)
noncomputable def bd_X10_lay_b4_2 (m_now : Nat → Int32) (x2 : Int32) (c : Int32) (s : (Nat → Int32)) : (Nat → Int32) := (upd s (x2 + c).toNatClampNeg (m_now c.toNatClampNeg))
noncomputable def ex_X10_lay_b4_2 {R : Type} (po : (Nat → Int32) → R) (m_now : Nat → Int32) (x2 : Int32) (c : Int32) (s : (Nat → Int32)) : R := po s
set_option maxHeartbeats 200000 in
set_option maxRecDepth 10000 in
theorem dl_X10_lay_b4_2 {P Q : (Nat → Int32) → Prop} {m_now : Nat → Int32} {x2 : Int32} {a : (Nat → Int32)} {i : Nat} (hi0 : i < 2147483648) (hE : ∀ (c : Int32) (s : (Nat → Int32)), c = nI (i + (Int32.toInt 21 - ((i : Nat) : Int)).toNat) → s = itr (bd_X10_lay_b4_2 m_now x2) a i (Int32.toInt 21 - ((i : Nat) : Int)).toNat → (P s) → (Q s)) : ∀ (n k : Nat) (c : Int32), c = nI (i + k) → k ≤ (Int32.toInt 21 - ((i : Nat) : Int)).toNat → wb_X10_lay_b4_2 P m_now n x2 c (itr (bd_X10_lay_b4_2 m_now x2) a i k) → wb_X10_lay_b4_2 Q m_now n x2 c (itr (bd_X10_lay_b4_2 m_now x2) a i k) := by
  intro n
  induction n with
  | zero => intro k c hc hk h; exact False.elim h
  | succ n ih =>
    intro k c hc hk h
    have hr := tp_r 21
    have hi : Int32.toInt c = ((i + k : Nat) : Int) := by rw [hc]; exact nI_toInt (by omega)
    refine And.intro (fun t0 => ?_) (fun t0 => ?_)
    · have h := And.left h t0
      have t1 := (fa_le _ _).mp t0
      have hk2 : k = (Int32.toInt 21 - ((i : Nat) : Int)).toNat := by omega
      subst hk2
      exact hE _ _ hc rfl h
    · have h := And.right h t0
      have t1 := mt (fa_le _ _).mpr t0
      have hs : ∀ o : (Nat → Int32), o = itr (bd_X10_lay_b4_2 m_now x2) a i (k + 1) → wb_X10_lay_b4_2 P m_now n x2 (c + 1) o → wb_X10_lay_b4_2 Q m_now n x2 (c + 1) o := by
        intro o eo h9
        have q := ih (k + 1) (c + 1) (by rw [hc]; exact nI_1 _) (by omega)
        rw [← eo] at q
        exact q h9
      rw [itr_s, ← hc, bd_X10_lay_b4_2] at hs
      refine ae ?_
      have h := h _ rfl
      refine And.intro (And.left h) ?_
      have h := And.right h
      refine ae ?_
      have h := h _ rfl
      refine And.intro (And.left h) ?_
      have h := And.right h
      refine ae ?_
      have h := h _ rfl
      have q9 := hs _ rfl
      exact q9 h
noncomputable def F_X10_lay_b4 (p2 : Int32) (m_now : Nat → Int32) (m_kept : Nat → Int32) : (Nat → Int32) := ex_X10_lay_b4_2 (fun o0 => o0) m_now p2 (nI (0 + (Int32.toInt 21 - ((0 : Nat) : Int)).toNat)) (itr (bd_X10_lay_b4_2 m_now p2) m_kept 0 (Int32.toInt 21 - ((0 : Nat) : Int)).toNat)
set_option maxHeartbeats 200000 in
set_option maxRecDepth 10000 in
theorem dt_X10_lay_b4 {P Q : (Nat → Int32) → Prop} {p2 : Int32} {m_now : Nat → Int32} {m_kept : Nat → Int32} (h : wp_X10_lay_b4 P p2 m_now m_kept) (hq : ∀ o : (Nat → Int32), o = F_X10_lay_b4 p2 m_now m_kept → P o → Q o) : wp_X10_lay_b4 Q p2 m_now m_kept := by
  rw [F_X10_lay_b4] at hq
  obtain ⟨n1, h⟩ := h
  refine ⟨n1, dl_X10_lay_b4_2 (a := m_kept) (i := 0) (by decide) ?_ n1 0 0 (by decide) (Nat.zero_le _) h⟩
  intro cc2 s3 ec4 es5 h
  rw [← ec4, ← es5, ex_X10_lay_b4_2] at hq
  have q9 := hq _ rfl
  exact q9 h
theorem du_X10_lay_b4 {P Q : (Nat → Int32) → Prop} {p2 : Int32} {m_now : Nat → Int32} {m_kept : Nat → Int32} (h : wp_X10_lay_b4 P p2 m_now m_kept) (hq : P (F_X10_lay_b4 p2 m_now m_kept) → Q (F_X10_lay_b4 p2 m_now m_kept)) : wp_X10_lay_b4 Q p2 m_now m_kept := dt_X10_lay_b4 h (fun o eo => by rw [eo]; exact hq)
theorem dw_X10_lay_b4 {Q : (Nat → Int32) → Prop} {p2 : Int32} {m_now : Nat → Int32} {m_kept : Nat → Int32} (h : wp_X10_lay_b4 (fun o0 => o0 = F_X10_lay_b4 p2 m_now m_kept → Q o0) p2 m_now m_kept) : wp_X10_lay_b4 Q p2 m_now m_kept := dt_X10_lay_b4 h (fun o eo hp => hp eo)
noncomputable def F_X10_keep (p0 : Int32) (m_thrown : Int32) (m_came : Int32) (m_now : Nat → Int32) (m_kept : Nat → Int32) (m_isKept : Nat → Int32) (m_keptCame : Nat → Int32) : Int32 × Int32 × (Nat → Int32) × (Nat → Int32) × (Nat → Int32) := if (F_X10_in p0 0 1) = 0 then (0, 0, m_kept, m_isKept, m_keptCame) else (1, 0, (F_X10_lay_b4 (21 * p0) m_now m_kept), (upd m_isKept p0.toNatClampNeg (vp_nar .boolean 1)), (upd m_keptCame p0.toNatClampNeg m_came))
set_option maxHeartbeats 200000 in
set_option maxRecDepth 10000 in
theorem dt_X10_keep {P Q : Int32 → Int32 → (Nat → Int32) → (Nat → Int32) → (Nat → Int32) → Prop} {p0 : Int32} {m_thrown : Int32} {m_came : Int32} {m_now : Nat → Int32} {m_kept : Nat → Int32} {m_isKept : Nat → Int32} {m_keptCame : Nat → Int32} (h : wp_X10_keep P p0 m_thrown m_came m_now m_kept m_isKept m_keptCame) (hq : ∀ o : Int32 × Int32 × (Nat → Int32) × (Nat → Int32) × (Nat → Int32), o = F_X10_keep p0 m_thrown m_came m_now m_kept m_isKept m_keptCame → P o.1 o.2.1 o.2.2.1 o.2.2.2.1 o.2.2.2.2 → Q o.1 o.2.1 o.2.2.1 o.2.2.2.1 o.2.2.2.2) : wp_X10_keep Q p0 m_thrown m_came m_now m_kept m_isKept m_keptCame := by
  rw [F_X10_keep] at hq
  refine du_X10_in h ?_
  intro h
  refine And.intro (fun c1 => ?_) (fun c1 => ?_)
  · have h := And.left h c1
    rw [if_neg c1] at hq
    refine And.intro (And.left h) ?_
    have h := And.right h
    refine And.intro (And.left h) ?_
    have h := And.right h
    refine ae ?_
    have h := h _ rfl
    refine du_X10_lay_b4 h ?_
    intro h
    have q9 := hq _ rfl
    dsimp only at q9
    exact q9 h
  · have h := And.right h c1
    rw [if_pos c1] at hq
    have q9 := hq _ rfl
    dsimp only at q9
    exact q9 h
theorem du_X10_keep {P Q : Int32 → Int32 → (Nat → Int32) → (Nat → Int32) → (Nat → Int32) → Prop} {p0 : Int32} {m_thrown : Int32} {m_came : Int32} {m_now : Nat → Int32} {m_kept : Nat → Int32} {m_isKept : Nat → Int32} {m_keptCame : Nat → Int32} (h : wp_X10_keep P p0 m_thrown m_came m_now m_kept m_isKept m_keptCame) (hq : P (F_X10_keep p0 m_thrown m_came m_now m_kept m_isKept m_keptCame).1 (F_X10_keep p0 m_thrown m_came m_now m_kept m_isKept m_keptCame).2.1 (F_X10_keep p0 m_thrown m_came m_now m_kept m_isKept m_keptCame).2.2.1 (F_X10_keep p0 m_thrown m_came m_now m_kept m_isKept m_keptCame).2.2.2.1 (F_X10_keep p0 m_thrown m_came m_now m_kept m_isKept m_keptCame).2.2.2.2 → Q (F_X10_keep p0 m_thrown m_came m_now m_kept m_isKept m_keptCame).1 (F_X10_keep p0 m_thrown m_came m_now m_kept m_isKept m_keptCame).2.1 (F_X10_keep p0 m_thrown m_came m_now m_kept m_isKept m_keptCame).2.2.1 (F_X10_keep p0 m_thrown m_came m_now m_kept m_isKept m_keptCame).2.2.2.1 (F_X10_keep p0 m_thrown m_came m_now m_kept m_isKept m_keptCame).2.2.2.2) : wp_X10_keep Q p0 m_thrown m_came m_now m_kept m_isKept m_keptCame := dt_X10_keep h (fun o eo => by rw [eo]; exact hq)
theorem dw_X10_keep {Q : Int32 → Int32 → (Nat → Int32) → (Nat → Int32) → (Nat → Int32) → Prop} {p0 : Int32} {m_thrown : Int32} {m_came : Int32} {m_now : Nat → Int32} {m_kept : Nat → Int32} {m_isKept : Nat → Int32} {m_keptCame : Nat → Int32} (h : wp_X10_keep (fun o0 o1 o2 o3 o4 => (o0, o1, o2, o3, o4) = F_X10_keep p0 m_thrown m_came m_now m_kept m_isKept m_keptCame → Q o0 o1 o2 o3 o4) p0 m_thrown m_came m_now m_kept m_isKept m_keptCame) : wp_X10_keep Q p0 m_thrown m_came m_now m_kept m_isKept m_keptCame := dt_X10_keep h (fun o eo hp => hp eo)
noncomputable def bd_X10_again_40 (m_came : Int32) (m_kept : Nat → Int32) (m_isKept : Nat → Int32) (m_keptCame : Nat → Int32) (x1 : Int32) (m_thrown : Int32) (m_undoMany : Int32) (c : Int32) (s : (Nat → Int32)) : (Nat → Int32) := (upd s c.toNatClampNeg (m_kept ((21 * x1) + c).toNatClampNeg))
noncomputable def ex_X10_again_40 {R : Type} (po : Int32 → Int32 → Int32 → (Nat → Int32) → R) (m_came : Int32) (m_kept : Nat → Int32) (m_isKept : Nat → Int32) (m_keptCame : Nat → Int32) (x1 : Int32) (m_thrown : Int32) (m_undoMany : Int32) (c : Int32) (s : (Nat → Int32)) : R := po 1 m_thrown 0 s
set_option maxHeartbeats 200000 in
set_option maxRecDepth 10000 in
theorem dl_X10_again_40 {P Q : Int32 → Int32 → Int32 → (Nat → Int32) → Prop} {m_came : Int32} {m_kept : Nat → Int32} {m_isKept : Nat → Int32} {m_keptCame : Nat → Int32} {x1 : Int32} {m_thrown : Int32} {m_undoMany : Int32} {a : (Nat → Int32)} {i : Nat} (hi0 : i < 2147483648) (hE : ∀ (c : Int32) (s : (Nat → Int32)), c = nI (i + (Int32.toInt 21 - ((i : Nat) : Int)).toNat) → s = itr (bd_X10_again_40 m_came m_kept m_isKept m_keptCame x1 m_thrown m_undoMany) a i (Int32.toInt 21 - ((i : Nat) : Int)).toNat → (P 1 m_thrown 0 s) → (Q 1 m_thrown 0 s)) : ∀ (n k : Nat) (c : Int32), c = nI (i + k) → k ≤ (Int32.toInt 21 - ((i : Nat) : Int)).toNat → wb_X10_again_40 P m_came m_kept m_isKept m_keptCame n x1 c m_thrown m_undoMany (itr (bd_X10_again_40 m_came m_kept m_isKept m_keptCame x1 m_thrown m_undoMany) a i k) → wb_X10_again_40 Q m_came m_kept m_isKept m_keptCame n x1 c m_thrown m_undoMany (itr (bd_X10_again_40 m_came m_kept m_isKept m_keptCame x1 m_thrown m_undoMany) a i k) := by
  intro n
  induction n with
  | zero => intro k c hc hk h; exact False.elim h
  | succ n ih =>
    intro k c hc hk h
    have hr := tp_r 21
    have hi : Int32.toInt c = ((i + k : Nat) : Int) := by rw [hc]; exact nI_toInt (by omega)
    refine And.intro (fun t0 => ?_) (fun t0 => ?_)
    · have h := And.left h t0
      have t1 := (fa_le _ _).mp t0
      have hk2 : k = (Int32.toInt 21 - ((i : Nat) : Int)).toNat := by omega
      subst hk2
      exact hE _ _ hc rfl h
    · have h := And.right h t0
      have t1 := mt (fa_le _ _).mpr t0
      have hs : ∀ o : (Nat → Int32), o = itr (bd_X10_again_40 m_came m_kept m_isKept m_keptCame x1 m_thrown m_undoMany) a i (k + 1) → wb_X10_again_40 P m_came m_kept m_isKept m_keptCame n x1 (c + 1) m_thrown m_undoMany o → wb_X10_again_40 Q m_came m_kept m_isKept m_keptCame n x1 (c + 1) m_thrown m_undoMany o := by
        intro o eo h9
        have q := ih (k + 1) (c + 1) (by rw [hc]; exact nI_1 _) (by omega)
        rw [← eo] at q
        exact q h9
      rw [itr_s, ← hc, bd_X10_again_40] at hs
      refine ae ?_
      have h := h _ rfl
      refine ae ?_
      have h := h _ rfl
      refine And.intro (And.left h) ?_
      have h := And.right h
      refine ae ?_
      have h := h _ rfl
      refine And.intro (And.left h) ?_
      have h := And.right h
      refine ae ?_
      have h := h _ rfl
      have q9 := hs _ rfl
      exact q9 h
noncomputable def F_X10_again (p0 : Int32) (m_thrown : Int32) (m_undoMany : Int32) (m_came : Int32) (m_now : Nat → Int32) (m_kept : Nat → Int32) (m_isKept : Nat → Int32) (m_keptCame : Nat → Int32) : Int32 × Int32 × Int32 × (Nat → Int32) := if (F_X10_in p0 0 1) = 0 then (0, 0, m_undoMany, m_now) else (if (m_isKept p0.toNatClampNeg) = 0 then (0, 0, m_undoMany, m_now) else (if (m_keptCame p0.toNatClampNeg) = m_came then (ex_X10_again_40 (fun o0 o1 o2 o3 => (o0, o1, o2, o3)) m_came m_kept m_isKept m_keptCame p0 0 m_undoMany (nI (0 + (Int32.toInt 21 - ((0 : Nat) : Int)).toNat)) (itr (bd_X10_again_40 m_came m_kept m_isKept m_keptCame p0 0 m_undoMany) m_now 0 (Int32.toInt 21 - ((0 : Nat) : Int)).toNat)) else (0, 0, m_undoMany, m_now)))
set_option maxHeartbeats 200000 in
set_option maxRecDepth 10000 in
theorem dt_X10_again {P Q : Int32 → Int32 → Int32 → (Nat → Int32) → Prop} {p0 : Int32} {m_thrown : Int32} {m_undoMany : Int32} {m_came : Int32} {m_now : Nat → Int32} {m_kept : Nat → Int32} {m_isKept : Nat → Int32} {m_keptCame : Nat → Int32} (h : wp_X10_again P p0 m_thrown m_undoMany m_came m_now m_kept m_isKept m_keptCame) (hq : ∀ o : Int32 × Int32 × Int32 × (Nat → Int32), o = F_X10_again p0 m_thrown m_undoMany m_came m_now m_kept m_isKept m_keptCame → P o.1 o.2.1 o.2.2.1 o.2.2.2 → Q o.1 o.2.1 o.2.2.1 o.2.2.2) : wp_X10_again Q p0 m_thrown m_undoMany m_came m_now m_kept m_isKept m_keptCame := by
  rw [F_X10_again] at hq
  refine du_X10_in h ?_
  intro h
  refine And.intro (fun c1 => ?_) (fun c1 => ?_)
  · have h := And.left h c1
    rw [if_pos c1] at hq
    have q9 := hq _ rfl
    dsimp only at q9
    exact q9 h
  · have h := And.right h c1
    rw [if_neg c1] at hq
    refine And.intro (And.left h) ?_
    have h := And.right h
    refine And.intro (fun c2 => ?_) (fun c2 => ?_)
    · have h := And.left h c2
      rw [if_pos c2] at hq
      have q9 := hq _ rfl
      dsimp only at q9
      exact q9 h
    · have h := And.right h c2
      rw [if_neg c2] at hq
      refine And.intro (And.left h) ?_
      have h := And.right h
      refine ae ?_
      have h := h _ rfl
      refine And.intro (fun c3 => ?_) (fun c3 => ?_)
      · have h := And.left h c3
        rw [if_pos c3] at hq
        obtain ⟨n4, h⟩ := h
        refine ⟨n4, dl_X10_again_40 (a := m_now) (i := 0) (by decide) ?_ n4 0 0 (by decide) (Nat.zero_le _) h⟩
        intro cc5 s6 ec7 es8 h
        rw [← ec7, ← es8, ex_X10_again_40] at hq
        have q9 := hq _ rfl
        dsimp only at q9
        exact q9 h
      · have h := And.right h c3
        rw [if_neg c3] at hq
        have q9 := hq _ rfl
        dsimp only at q9
        exact q9 h
theorem du_X10_again {P Q : Int32 → Int32 → Int32 → (Nat → Int32) → Prop} {p0 : Int32} {m_thrown : Int32} {m_undoMany : Int32} {m_came : Int32} {m_now : Nat → Int32} {m_kept : Nat → Int32} {m_isKept : Nat → Int32} {m_keptCame : Nat → Int32} (h : wp_X10_again P p0 m_thrown m_undoMany m_came m_now m_kept m_isKept m_keptCame) (hq : P (F_X10_again p0 m_thrown m_undoMany m_came m_now m_kept m_isKept m_keptCame).1 (F_X10_again p0 m_thrown m_undoMany m_came m_now m_kept m_isKept m_keptCame).2.1 (F_X10_again p0 m_thrown m_undoMany m_came m_now m_kept m_isKept m_keptCame).2.2.1 (F_X10_again p0 m_thrown m_undoMany m_came m_now m_kept m_isKept m_keptCame).2.2.2 → Q (F_X10_again p0 m_thrown m_undoMany m_came m_now m_kept m_isKept m_keptCame).1 (F_X10_again p0 m_thrown m_undoMany m_came m_now m_kept m_isKept m_keptCame).2.1 (F_X10_again p0 m_thrown m_undoMany m_came m_now m_kept m_isKept m_keptCame).2.2.1 (F_X10_again p0 m_thrown m_undoMany m_came m_now m_kept m_isKept m_keptCame).2.2.2) : wp_X10_again Q p0 m_thrown m_undoMany m_came m_now m_kept m_isKept m_keptCame := dt_X10_again h (fun o eo => by rw [eo]; exact hq)
theorem dw_X10_again {Q : Int32 → Int32 → Int32 → (Nat → Int32) → Prop} {p0 : Int32} {m_thrown : Int32} {m_undoMany : Int32} {m_came : Int32} {m_now : Nat → Int32} {m_kept : Nat → Int32} {m_isKept : Nat → Int32} {m_keptCame : Nat → Int32} (h : wp_X10_again (fun o0 o1 o2 o3 => (o0, o1, o2, o3) = F_X10_again p0 m_thrown m_undoMany m_came m_now m_kept m_isKept m_keptCame → Q o0 o1 o2 o3) p0 m_thrown m_undoMany m_came m_now m_kept m_isKept m_keptCame) : wp_X10_again Q p0 m_thrown m_undoMany m_came m_now m_kept m_isKept m_keptCame := dt_X10_again h (fun o eo hp => hp eo)
