/-! functions out of the weakest starts -/
theorem ae {e : Int32} {A : Int32 → Prop} (h : A e) : ∀ v : Int32, v = e → A v := fun v ev => by rw [ev]; exact h
noncomputable def itr {α : Type} (f : Int32 → α → α) (a : α) (i : Nat) : Nat → α := fun n => Nat.rec (motive := fun _ => α) a (fun k s => f (nI (i + k)) s) n
theorem itr_s {α : Type} (f : Int32 → α → α) (a : α) (i k : Nat) : itr f a i (k + 1) = f (nI (i + k)) (itr f a i k) := rfl
theorem itr_0 {α : Type} (f : Int32 → α → α) (a : α) (i : Nat) : itr f a i 0 = a := rfl
noncomputable def flp {α : Type} (f : α → α) (z : α) : Nat → α := fun n => Nat.rec (motive := fun _ => α) z (fun _ s => f s) n
theorem flp_s {α : Type} (f : α → α) (z : α) (n : Nat) : flp f z (n + 1) = f (flp f z n) := rfl
theorem ad_lt {a b : Int32} (h : 0 ≤ b.toInt ∧ b.toInt ≤ 3) : (((Int32.toInt (a + b) - Int32.toInt a).toNat : Nat) : Int) < ((4 : Nat) : Int) := by
  have r := tp_r a
  by_cases hb : a.toInt + b.toInt ≤ 2147483647
  · rw [ta_add a b (by omega)]; omega
  · have e2 : ((2 ^ 32 : Nat) : Int) = 4294967296 := by decide
    rw [Int32.toInt_add, Int.bmod_def, e2]
    split <;> omega
theorem le30 {v : Int32} (h : ¬ 30 < v) : Int32.toInt v < 2147483647 := by
  have l : Int32.toInt (30 : Int32) = 30 := by decide
  have q := mt (fa_lt 30 v).mpr h
  omega
noncomputable def j_X8_digitHere_24 {R : Type} (po : Int32 → R) (qJ rY : Int32) (qM : Nat → Int32) (k0 : Int32) : R := if k0 < 48 then (po (-1)) else (if 57 < k0 then (po (-1)) else (po (k0 - 48)))
noncomputable def F_X8_digitHere (qJ rY : Int32) (qM : Nat → Int32) : Int32 := if rY ≤ qJ then (j_X8_digitHere_24 (fun o0 => o0) qJ rY qM (-1)) else (j_X8_digitHere_24 (fun o0 => o0) qJ rY qM (qM qJ.toNatClampNeg))
set_option maxHeartbeats 200000 in
set_option maxRecDepth 10000 in
theorem dt_X8_digitHere {P Q : Int32 → Prop} {qJ rY : Int32} {qM : Nat → Int32} (h : wp_X8_digitHere P qJ rY qM) (hq : ∀ o : Int32, o = F_X8_digitHere qJ rY qM → P o → Q o) : wp_X8_digitHere Q qJ rY qM := by
  rw [F_X8_digitHere] at hq
  refine And.intro (fun c1 => ?_) (fun c1 => ?_)
  · have h := And.left h c1
    rw [if_pos c1] at hq
    rw [j_X8_digitHere_24] at hq
    unfold ws_X8_digitHere_24 at h ⊢
    refine And.intro (fun c2 => ?_) (fun c2 => ?_)
    · have h := And.left h c2
      rw [if_pos c2] at hq
      have q9 := hq _ rfl
      exact q9 h
    · have h := And.right h c2
      rw [if_neg c2] at hq
      refine And.intro (fun c3 => ?_) (fun c3 => ?_)
      · have h := And.left h c3
        rw [if_pos c3] at hq
        have q9 := hq _ rfl
        exact q9 h
      · have h := And.right h c3
        rw [if_neg c3] at hq
        refine ae ?_
        have h := h _ rfl
        have q9 := hq _ rfl
        exact q9 h
  · have h := And.right h c1
    rw [if_neg c1] at hq
    refine And.intro (And.left h) ?_
    have h := And.right h
    refine ae ?_
    have h := h _ rfl
    rw [j_X8_digitHere_24] at hq
    unfold ws_X8_digitHere_24 at h ⊢
    refine And.intro (fun c4 => ?_) (fun c4 => ?_)
    · have h := And.left h c4
      rw [if_pos c4] at hq
      have q9 := hq _ rfl
      exact q9 h
    · have h := And.right h c4
      rw [if_neg c4] at hq
      refine And.intro (fun c5 => ?_) (fun c5 => ?_)
      · have h := And.left h c5
        rw [if_pos c5] at hq
        have q9 := hq _ rfl
        exact q9 h
      · have h := And.right h c5
        rw [if_neg c5] at hq
        refine ae ?_
        have h := h _ rfl
        have q9 := hq _ rfl
        exact q9 h
theorem du_X8_digitHere {P Q : Int32 → Prop} {qJ rY : Int32} {qM : Nat → Int32} (h : wp_X8_digitHere P qJ rY qM) (hq : P (F_X8_digitHere qJ rY qM) → Q (F_X8_digitHere qJ rY qM)) : wp_X8_digitHere Q qJ rY qM := dt_X8_digitHere h (fun o eo => by rw [eo]; exact hq)
noncomputable def F_X8_skip (qJ rY : Int32) : Int32 := if rY ≤ qJ then qJ else (qJ + 1)
set_option maxHeartbeats 200000 in
set_option maxRecDepth 10000 in
theorem dt_X8_skip {P Q : Int32 → Prop} {qJ rY : Int32} (h : wp_X8_skip P qJ rY) (hq : ∀ o : Int32, o = F_X8_skip qJ rY → P o → Q o) : wp_X8_skip Q qJ rY := by
  rw [F_X8_skip] at hq
  refine And.intro (fun c1 => ?_) (fun c1 => ?_)
  · have h := And.left h c1
    rw [if_pos c1] at hq
    have q9 := hq _ rfl
    exact q9 h
  · have h := And.right h c1
    rw [if_neg c1] at hq
    refine ae ?_
    have h := h _ rfl
    have q9 := hq _ rfl
    exact q9 h
theorem du_X8_skip {P Q : Int32 → Prop} {qJ rY : Int32} (h : wp_X8_skip P qJ rY) (hq : P (F_X8_skip qJ rY) → Q (F_X8_skip qJ rY)) : wp_X8_skip Q qJ rY := dt_X8_skip h (fun o eo => by rw [eo]; exact hq)
noncomputable def fs_X8_readNumber_18 {R : Type} (po : Int32 → Int32 → R) (rY : Int32) (qM : Nat → Int32) (nx : Int32 → Int32 → Int32 → Int32 → R) (x1 x2 x3 qJ : Int32) : R := if x1 ≤ x3 then (po x2 qJ) else (if (F_X8_digitHere qJ rY qM) = (-1) then (po x2 qJ) else (nx x1 ((x2 * 10) + (F_X8_digitHere qJ rY qM)) (x3 + 1) (F_X8_skip qJ rY)))
set_option maxHeartbeats 200000 in
set_option maxRecDepth 10000 in
theorem dl_X8_readNumber_18 {P Q : Int32 → Int32 → Prop} {rY : Int32} {qM : Nat → Int32} {R : Type} {po : Int32 → Int32 → R} {d : Int32 → Int32 → Int32 → Int32 → R} : ∀ (n m : Nat) (x1 x2 x3 qJ : Int32), 0 ≤ Int32.toInt x3 ∧ Int32.toInt x3 ≤ 3 ∧ Int32.toInt x1 ≤ 3 → 3 - Int32.toInt x3 < (m : Int) → wb_X8_readNumber_18 P rY qM n x1 x2 x3 qJ → (∀ (b0 b1 : Int32), po b0 b1 = flp (fs_X8_readNumber_18 po rY qM) d m x1 x2 x3 qJ → P b0 b1 → Q b0 b1) → wb_X8_readNumber_18 Q rY qM n x1 x2 x3 qJ := by
  have l1 : Int32.toInt (1 : Int32) = 1 := by decide
  intro n
  induction n with
  | zero => intro m x1 x2 x3 qJ hv hm h hq; exact False.elim h
  | succ n ih =>
    intro m x1 x2 x3 qJ hv hm h hq
    cases m with
    | zero => exfalso; omega
    | succ m =>
      rw [flp_s, fs_X8_readNumber_18] at hq
      have h : ws_X8_readNumber_18 P (wb_X8_readNumber_18 P rY qM n) rY qM x1 x2 x3 qJ := h
      show ws_X8_readNumber_18 Q (wb_X8_readNumber_18 Q rY qM n) rY qM x1 x2 x3 qJ
      unfold ws_X8_readNumber_18 at h ⊢
      refine And.intro (fun c1 => ?_) (fun c1 => ?_)
      · have h := And.left h c1
        rw [if_pos c1] at hq
        have dc1 := (fa_le _ _).mp c1
        exact hq _ _ rfl h
      · have h := And.right h c1
        rw [if_neg c1] at hq
        have dc1 := mt (fa_le _ _).mpr c1
        refine du_X8_digitHere h ?_
        intro h
        refine And.intro (fun c2 => ?_) (fun c2 => ?_)
        · have h := And.left h c2
          rw [if_neg c2] at hq
          have dc2 := mt (fa_eq _ _).mpr c2
          refine ae ?_
          have h := h _ rfl
          refine ae ?_
          have h := h _ rfl
          refine du_X8_skip h ?_
          intro h
          refine ae ?_
          have h := h _ rfl
          have f9 := ta_add x3 1 (by omega)
          exact ih m _ _ _ _ (by omega) (by omega) h hq
        · have h := And.right h c2
          rw [if_pos c2] at hq
          have dc2 := (fa_eq _ _).mp c2
          exact hq _ _ rfl h
noncomputable def F_X8_readNumber (p0 qJ rY : Int32) (qM : Nat → Int32) : Int32 × Int32 := if (F_X8_digitHere qJ rY qM) = (-1) then ((-1), qJ) else (flp (fs_X8_readNumber_18 (fun o0 o1 => (o0, o1)) rY qM) (fun _ _ _ _ => (0, 0)) 4 p0 (F_X8_digitHere qJ rY qM) 1 (F_X8_skip qJ rY))
set_option maxHeartbeats 200000 in
set_option maxRecDepth 10000 in
theorem dt_X8_readNumber {P Q : Int32 → Int32 → Prop} {p0 qJ rY : Int32} {qM : Nat → Int32} (hy0 : Int32.toInt p0 ≤ 3) (h : wp_X8_readNumber P p0 qJ rY qM) (hq : ∀ o : Int32 × Int32, o = F_X8_readNumber p0 qJ rY qM → P o.1 o.2 → Q o.1 o.2) : wp_X8_readNumber Q p0 qJ rY qM := by
  rw [F_X8_readNumber] at hq
  refine du_X8_digitHere h ?_
  intro h
  refine And.intro (fun c1 => ?_) (fun c1 => ?_)
  · have h := And.left h c1
    rw [if_neg c1] at hq
    refine du_X8_skip h ?_
    intro h
    obtain ⟨n2, h⟩ := h
    exact ⟨n2, dl_X8_readNumber_18 n2 4 _ _ _ _ ⟨by decide, by decide, hy0⟩ (by decide) h (fun b0 b1 e9 h9 => hq (b0, b1) e9 h9)⟩
  · have h := And.right h c1
    rw [if_pos c1] at hq
    have q9 := hq _ rfl
    dsimp only at q9
    exact q9 h
theorem du_X8_readNumber {P Q : Int32 → Int32 → Prop} {p0 qJ rY : Int32} {qM : Nat → Int32} (hy0 : Int32.toInt p0 ≤ 3) (h : wp_X8_readNumber P p0 qJ rY qM) (hq : P (F_X8_readNumber p0 qJ rY qM).1 (F_X8_readNumber p0 qJ rY qM).2 → Q (F_X8_readNumber p0 qJ rY qM).1 (F_X8_readNumber p0 qJ rY qM).2) : wp_X8_readNumber Q p0 qJ rY qM := dt_X8_readNumber hy0 h (fun o eo => by rw [eo]; exact hq)
noncomputable def F_X8_here (qJ rY : Int32) (qM : Nat → Int32) : Int32 := if rY ≤ qJ then (-1) else (qM qJ.toNatClampNeg)
set_option maxHeartbeats 200000 in
set_option maxRecDepth 10000 in
theorem dt_X8_here {P Q : Int32 → Prop} {qJ rY : Int32} {qM : Nat → Int32} (h : wp_X8_here P qJ rY qM) (hq : ∀ o : Int32, o = F_X8_here qJ rY qM → P o → Q o) : wp_X8_here Q qJ rY qM := by
  rw [F_X8_here] at hq
  refine And.intro (fun c1 => ?_) (fun c1 => ?_)
  · have h := And.left h c1
    rw [if_pos c1] at hq
    have q9 := hq _ rfl
    exact q9 h
  · have h := And.right h c1
    rw [if_neg c1] at hq
    refine And.intro (And.left h) ?_
    have h := And.right h
    refine ae ?_
    have h := h _ rfl
    have q9 := hq _ rfl
    exact q9 h
theorem du_X8_here {P Q : Int32 → Prop} {qJ rY : Int32} {qM : Nat → Int32} (h : wp_X8_here P qJ rY qM) (hq : P (F_X8_here qJ rY qM) → Q (F_X8_here qJ rY qM)) : wp_X8_here Q qJ rY qM := dt_X8_here h (fun o eo => by rw [eo]; exact hq)
noncomputable def F_X8_take (p0 qJ rY : Int32) (qM : Nat → Int32) : Int32 × Int32 := if (F_X8_here qJ rY qM) = p0 then (1, (qJ + 1)) else (0, qJ)
set_option maxHeartbeats 200000 in
set_option maxRecDepth 10000 in
theorem dt_X8_take {P Q : Int32 → Int32 → Prop} {p0 qJ rY : Int32} {qM : Nat → Int32} (h : wp_X8_take P p0 qJ rY qM) (hq : ∀ o : Int32 × Int32, o = F_X8_take p0 qJ rY qM → P o.1 o.2 → Q o.1 o.2) : wp_X8_take Q p0 qJ rY qM := by
  rw [F_X8_take] at hq
  refine du_X8_here h ?_
  intro h
  refine And.intro (fun c1 => ?_) (fun c1 => ?_)
  · have h := And.left h c1
    rw [if_pos c1] at hq
    refine ae ?_
    have h := h _ rfl
    have q9 := hq _ rfl
    dsimp only at q9
    exact q9 h
  · have h := And.right h c1
    rw [if_neg c1] at hq
    have q9 := hq _ rfl
    dsimp only at q9
    exact q9 h
theorem du_X8_take {P Q : Int32 → Int32 → Prop} {p0 qJ rY : Int32} {qM : Nat → Int32} (h : wp_X8_take P p0 qJ rY qM) (hq : P (F_X8_take p0 qJ rY qM).1 (F_X8_take p0 qJ rY qM).2 → Q (F_X8_take p0 qJ rY qM).1 (F_X8_take p0 qJ rY qM).2) : wp_X8_take Q p0 qJ rY qM := dt_X8_take h (fun o eo => by rw [eo]; exact hq)
noncomputable def F_X8_open (p0 qI qJ rY : Int32) : Int32 × Int32 := (0, (if p0 < qI then p0 else qI))
set_option maxHeartbeats 200000 in
set_option maxRecDepth 10000 in
theorem dt_X8_open {P Q : Int32 → Int32 → Prop} {p0 qI qJ rY : Int32} (h : wp_X8_open P p0 qI qJ rY) (hq : ∀ o : Int32 × Int32, o = F_X8_open p0 qI qJ rY → P o.1 o.2 → Q o.1 o.2) : wp_X8_open Q p0 qI qJ rY := by
  rw [F_X8_open] at hq
  refine ae ?_
  have h := h _ rfl
  have q9 := hq _ rfl
  dsimp only at q9
  exact q9 h
theorem du_X8_open {P Q : Int32 → Int32 → Prop} {p0 qI qJ rY : Int32} (h : wp_X8_open P p0 qI qJ rY) (hq : P (F_X8_open p0 qI qJ rY).1 (F_X8_open p0 qI qJ rY).2 → Q (F_X8_open p0 qI qJ rY).1 (F_X8_open p0 qI qJ rY).2) : wp_X8_open Q p0 qI qJ rY := dt_X8_open h (fun o eo => by rw [eo]; exact hq)
noncomputable def F_X8_isThrough (qI qJ : Int32) : Int32 := if qJ = qI then 1 else 0
set_option maxHeartbeats 200000 in
set_option maxRecDepth 10000 in
theorem dt_X8_isThrough {P Q : Int32 → Prop} {qI qJ : Int32} (h : wp_X8_isThrough P qI qJ) (hq : ∀ o : Int32, o = F_X8_isThrough qI qJ → P o → Q o) : wp_X8_isThrough Q qI qJ := by
  rw [F_X8_isThrough] at hq
  refine And.intro (fun c1 => ?_) (fun c1 => ?_)
  · have h := And.left h c1
    rw [if_neg c1] at hq
    have q9 := hq _ rfl
    exact q9 h
  · have h := And.right h c1
    rw [if_pos c1] at hq
    have q9 := hq _ rfl
    exact q9 h
theorem du_X8_isThrough {P Q : Int32 → Prop} {qI qJ : Int32} (h : wp_X8_isThrough P qI qJ) (hq : P (F_X8_isThrough qI qJ) → Q (F_X8_isThrough qI qJ)) : wp_X8_isThrough Q qI qJ := dt_X8_isThrough h (fun o eo => by rw [eo]; exact hq)
noncomputable def F_X8_clear (qI : Int32) : Int32 := 0
set_option maxHeartbeats 200000 in
set_option maxRecDepth 10000 in
theorem dt_X8_clear {P Q : Int32 → Prop} {qI : Int32} (h : wp_X8_clear P qI) (hq : ∀ o : Int32, o = F_X8_clear qI → P o → Q o) : wp_X8_clear Q qI := by
  rw [F_X8_clear] at hq
  have q9 := hq _ rfl
  exact q9 h
theorem du_X8_clear {P Q : Int32 → Prop} {qI : Int32} (h : wp_X8_clear P qI) (hq : P (F_X8_clear qI) → Q (F_X8_clear qI)) : wp_X8_clear Q qI := dt_X8_clear h (fun o eo => by rw [eo]; exact hq)
noncomputable def F_X8_wrong (qJ : Int32) : Int32 := ((-1) - qJ)
set_option maxHeartbeats 200000 in
set_option maxRecDepth 10000 in
theorem dt_X8_wrong {P Q : Int32 → Prop} {qJ : Int32} (h : wp_X8_wrong P qJ) (hq : ∀ o : Int32, o = F_X8_wrong qJ → P o → Q o) : wp_X8_wrong Q qJ := by
  rw [F_X8_wrong] at hq
  have q9 := hq _ rfl
  exact q9 h
theorem du_X8_wrong {P Q : Int32 → Prop} {qJ : Int32} (h : wp_X8_wrong P qJ) (hq : P (F_X8_wrong qJ) → Q (F_X8_wrong qJ)) : wp_X8_wrong Q qJ := dt_X8_wrong h (fun o eo => by rw [eo]; exact hq)
noncomputable def F_X3_readPair (p3 qJ rY : Int32) (qM wD gF : Nat → Int32) : Int32 × Int32 × (Nat → Int32) × (Nat → Int32) := if (F_X8_readNumber 2 qJ rY qM).1 = (-1) then (0, (F_X8_readNumber 2 qJ rY qM).2, wD, gF) else (if (F_X8_take 44 (F_X8_readNumber 2 qJ rY qM).2 rY qM).1 = 0 then (0, (F_X8_take 44 (F_X8_readNumber 2 qJ rY qM).2 rY qM).2, wD, gF) else (if (F_X8_readNumber 2 (F_X8_take 44 (F_X8_readNumber 2 qJ rY qM).2 rY qM).2 rY qM).1 = (-1) then (0, (F_X8_readNumber 2 (F_X8_take 44 (F_X8_readNumber 2 qJ rY qM).2 rY qM).2 rY qM).2, wD, gF) else (if p3 < 0 then (0, (F_X8_readNumber 2 (F_X8_take 44 (F_X8_readNumber 2 qJ rY qM).2 rY qM).2 rY qM).2, wD, gF) else (if 16 ≤ p3 then (0, (F_X8_readNumber 2 (F_X8_take 44 (F_X8_readNumber 2 qJ rY qM).2 rY qM).2 rY qM).2, wD, gF) else (if p3 < 16 then (1, (F_X8_readNumber 2 (F_X8_take 44 (F_X8_readNumber 2 qJ rY qM).2 rY qM).2 rY qM).2, (upd wD p3.toNatClampNeg (F_X8_readNumber 2 qJ rY qM).1), (upd gF p3.toNatClampNeg (F_X8_readNumber 2 (F_X8_take 44 (F_X8_readNumber 2 qJ rY qM).2 rY qM).2 rY qM).1)) else (0, (F_X8_readNumber 2 (F_X8_take 44 (F_X8_readNumber 2 qJ rY qM).2 rY qM).2 rY qM).2, wD, gF))))))
set_option maxHeartbeats 200000 in
set_option maxRecDepth 10000 in
theorem dt_X3_readPair {P Q : Int32 → Int32 → (Nat → Int32) → (Nat → Int32) → Prop} {p3 qJ rY : Int32} {qM wD gF : Nat → Int32} (h : wp_X3_readPair P p3 qJ rY qM wD gF) (hq : ∀ o : Int32 × Int32 × (Nat → Int32) × (Nat → Int32), o = F_X3_readPair p3 qJ rY qM wD gF → P o.1 o.2.1 o.2.2.1 o.2.2.2 → Q o.1 o.2.1 o.2.2.1 o.2.2.2) : wp_X3_readPair Q p3 qJ rY qM wD gF := by
  rw [F_X3_readPair] at hq
  refine du_X8_readNumber (by decide) h ?_
  intro h
  refine And.intro (fun c1 => ?_) (fun c1 => ?_)
  · have h := And.left h c1
    rw [if_pos c1] at hq
    have q9 := hq _ rfl
    dsimp only at q9
    exact q9 h
  · have h := And.right h c1
    rw [if_neg c1] at hq
    refine du_X8_take h ?_
    intro h
    refine And.intro (fun c2 => ?_) (fun c2 => ?_)
    · have h := And.left h c2
      rw [if_neg c2] at hq
      refine du_X8_readNumber (by decide) h ?_
      intro h
      refine And.intro (fun c3 => ?_) (fun c3 => ?_)
      · have h := And.left h c3
        rw [if_pos c3] at hq
        have q9 := hq _ rfl
        dsimp only at q9
        exact q9 h
      · have h := And.right h c3
        rw [if_neg c3] at hq
        refine And.intro (fun c4 => ?_) (fun c4 => ?_)
        · have h := And.left h c4
          rw [if_pos c4] at hq
          have q9 := hq _ rfl
          dsimp only at q9
          exact q9 h
        · have h := And.right h c4
          rw [if_neg c4] at hq
          refine And.intro (fun c5 => ?_) (fun c5 => ?_)
          · have h := And.left h c5
            rw [if_pos c5] at hq
            have q9 := hq _ rfl
            dsimp only at q9
            exact q9 h
          · have h := And.right h c5
            rw [if_neg c5] at hq
            refine And.intro (fun c6 => ?_) (fun c6 => ?_)
            · have h := And.left h c6
              rw [if_pos c6] at hq
              refine And.intro (And.left h) ?_
              have h := And.right h
              refine And.intro (And.left h) ?_
              have h := And.right h
              have q9 := hq _ rfl
              dsimp only at q9
              exact q9 h
            · have h := And.right h c6
              rw [if_neg c6] at hq
              have q9 := hq _ rfl
              dsimp only at q9
              exact q9 h
    · have h := And.right h c2
      rw [if_pos c2] at hq
      have q9 := hq _ rfl
      dsimp only at q9
      exact q9 h
theorem du_X3_readPair {P Q : Int32 → Int32 → (Nat → Int32) → (Nat → Int32) → Prop} {p3 qJ rY : Int32} {qM wD gF : Nat → Int32} (h : wp_X3_readPair P p3 qJ rY qM wD gF) (hq : P (F_X3_readPair p3 qJ rY qM wD gF).1 (F_X3_readPair p3 qJ rY qM wD gF).2.1 (F_X3_readPair p3 qJ rY qM wD gF).2.2.1 (F_X3_readPair p3 qJ rY qM wD gF).2.2.2 → Q (F_X3_readPair p3 qJ rY qM wD gF).1 (F_X3_readPair p3 qJ rY qM wD gF).2.1 (F_X3_readPair p3 qJ rY qM wD gF).2.2.1 (F_X3_readPair p3 qJ rY qM wD gF).2.2.2) : wp_X3_readPair Q p3 qJ rY qM wD gF := dt_X3_readPair h (fun o eo => by rw [eo]; exact hq)
noncomputable def j_X3_readFruit_82 {R : Type} (po : Int32 → Int32 → Int32 → (Nat → Int32) → (Nat → Int32) → (Nat → Int32) → (Nat → Int32) → R) (rY : Int32) (qM : Nat → Int32) (x2 k1 k2 qJ bI : Int32) (wD gF pE qA : Nat → Int32) : R := if ((upd qA k1.toNatClampNeg k2) x2.toNatClampNeg) = (-1) then (po 0 qJ bI wD gF pE (upd qA k1.toNatClampNeg k2)) else (po 1 qJ (bI + 1) wD gF pE (upd qA k1.toNatClampNeg k2))
noncomputable def j_X3_readFruit_46 {R : Type} (po : Int32 → Int32 → Int32 → (Nat → Int32) → (Nat → Int32) → (Nat → Int32) → (Nat → Int32) → R) (rY : Int32) (qM : Nat → Int32) (x2 k1 k2 qJ bI : Int32) (wD gF pE qA : Nat → Int32) : R := if ((upd pE k1.toNatClampNeg k2) x2.toNatClampNeg) = (-1) then (po 0 qJ bI wD gF (upd pE k1.toNatClampNeg k2) qA) else (if (F_X8_take 64 qJ rY qM).1 = 0 then (j_X3_readFruit_82 po rY qM x2 x2 0 ((F_X8_take 64 qJ rY qM).2) bI wD gF (upd pE k1.toNatClampNeg k2) qA) else (j_X3_readFruit_82 po rY qM x2 x2 ((F_X8_readNumber 1 (F_X8_take 64 qJ rY qM).2 rY qM).1) ((F_X8_readNumber 1 (F_X8_take 64 qJ rY qM).2 rY qM).2) bI wD gF (upd pE k1.toNatClampNeg k2) qA))
noncomputable def F_X3_readFruit (qJ rY : Int32) (qM : Nat → Int32) (bI : Int32) (wD gF pE qA : Nat → Int32) : Int32 × Int32 × Int32 × (Nat → Int32) × (Nat → Int32) × (Nat → Int32) × (Nat → Int32) := if (F_X3_readPair bI qJ rY qM wD gF).1 = 0 then (0, (F_X3_readPair bI qJ rY qM wD gF).2.1, bI, (F_X3_readPair bI qJ rY qM wD gF).2.2.1, (F_X3_readPair bI qJ rY qM wD gF).2.2.2, pE, qA) else (if (F_X8_take 42 (F_X3_readPair bI qJ rY qM wD gF).2.1 rY qM).1 = 0 then (j_X3_readFruit_46 (fun o0 o1 o2 o3 o4 o5 o6 => (o0, o1, o2, o3, o4, o5, o6)) rY qM bI bI 1 ((F_X8_take 42 (F_X3_readPair bI qJ rY qM wD gF).2.1 rY qM).2) bI ((F_X3_readPair bI qJ rY qM wD gF).2.2.1) ((F_X3_readPair bI qJ rY qM wD gF).2.2.2) pE qA) else (j_X3_readFruit_46 (fun o0 o1 o2 o3 o4 o5 o6 => (o0, o1, o2, o3, o4, o5, o6)) rY qM bI bI ((F_X8_readNumber 1 (F_X8_take 42 (F_X3_readPair bI qJ rY qM wD gF).2.1 rY qM).2 rY qM).1) ((F_X8_readNumber 1 (F_X8_take 42 (F_X3_readPair bI qJ rY qM wD gF).2.1 rY qM).2 rY qM).2) bI ((F_X3_readPair bI qJ rY qM wD gF).2.2.1) ((F_X3_readPair bI qJ rY qM wD gF).2.2.2) pE qA))
set_option maxHeartbeats 200000 in
set_option maxRecDepth 10000 in
theorem dt_X3_readFruit {P Q : Int32 → Int32 → Int32 → (Nat → Int32) → (Nat → Int32) → (Nat → Int32) → (Nat → Int32) → Prop} {qJ rY : Int32} {qM : Nat → Int32} {bI : Int32} {wD gF pE qA : Nat → Int32} (h : wp_X3_readFruit P qJ rY qM bI wD gF pE qA) (hq : ∀ o : Int32 × Int32 × Int32 × (Nat → Int32) × (Nat → Int32) × (Nat → Int32) × (Nat → Int32), o = F_X3_readFruit qJ rY qM bI wD gF pE qA → P o.1 o.2.1 o.2.2.1 o.2.2.2.1 o.2.2.2.2.1 o.2.2.2.2.2.1 o.2.2.2.2.2.2 → Q o.1 o.2.1 o.2.2.1 o.2.2.2.1 o.2.2.2.2.1 o.2.2.2.2.2.1 o.2.2.2.2.2.2) : wp_X3_readFruit Q qJ rY qM bI wD gF pE qA := by
  rw [F_X3_readFruit] at hq
  refine du_X3_readPair h ?_
  intro h
  refine And.intro (fun c1 => ?_) (fun c1 => ?_)
  · have h := And.left h c1
    rw [if_neg c1] at hq
    refine du_X8_take h ?_
    intro h
    refine And.intro (fun c2 => ?_) (fun c2 => ?_)
    · have h := And.left h c2
      rw [if_pos c2] at hq
      rw [j_X3_readFruit_46] at hq
      unfold ws_X3_readFruit_46 at h ⊢
      refine And.intro (And.left h) ?_
      have h := And.right h
      refine And.intro (And.left h) ?_
      have h := And.right h
      refine ae ?_
      have h := h _ rfl
      refine And.intro (fun c3 => ?_) (fun c3 => ?_)
      · have h := And.left h c3
        rw [if_neg c3] at hq
        refine du_X8_take h ?_
        intro h
        refine And.intro (fun c4 => ?_) (fun c4 => ?_)
        · have h := And.left h c4
          rw [if_pos c4] at hq
          rw [j_X3_readFruit_82] at hq
          unfold ws_X3_readFruit_82 at h ⊢
          refine And.intro (And.left h) ?_
          have h := And.right h
          refine And.intro (And.left h) ?_
          have h := And.right h
          refine ae ?_
          have h := h _ rfl
          refine And.intro (fun c5 => ?_) (fun c5 => ?_)
          · have h := And.left h c5
            rw [if_neg c5] at hq
            refine ae ?_
            have h := h _ rfl
            have q9 := hq _ rfl
            dsimp only at q9
            exact q9 h
          · have h := And.right h c5
            rw [if_pos c5] at hq
            have q9 := hq _ rfl
            dsimp only at q9
            exact q9 h
        · have h := And.right h c4
          rw [if_neg c4] at hq
          refine du_X8_readNumber (by decide) h ?_
          intro h
          rw [j_X3_readFruit_82] at hq
          unfold ws_X3_readFruit_82 at h ⊢
          refine And.intro (And.left h) ?_
          have h := And.right h
          refine And.intro (And.left h) ?_
          have h := And.right h
          refine ae ?_
          have h := h _ rfl
          refine And.intro (fun c6 => ?_) (fun c6 => ?_)
          · have h := And.left h c6
            rw [if_neg c6] at hq
            refine ae ?_
            have h := h _ rfl
            have q9 := hq _ rfl
            dsimp only at q9
            exact q9 h
          · have h := And.right h c6
            rw [if_pos c6] at hq
            have q9 := hq _ rfl
            dsimp only at q9
            exact q9 h
      · have h := And.right h c3
        rw [if_pos c3] at hq
        have q9 := hq _ rfl
        dsimp only at q9
        exact q9 h
    · have h := And.right h c2
      rw [if_neg c2] at hq
      refine du_X8_readNumber (by decide) h ?_
      intro h
      rw [j_X3_readFruit_46] at hq
      unfold ws_X3_readFruit_46 at h ⊢
      refine And.intro (And.left h) ?_
      have h := And.right h
      refine And.intro (And.left h) ?_
      have h := And.right h
      refine ae ?_
      have h := h _ rfl
      refine And.intro (fun c7 => ?_) (fun c7 => ?_)
      · have h := And.left h c7
        rw [if_neg c7] at hq
        refine du_X8_take h ?_
        intro h
        refine And.intro (fun c8 => ?_) (fun c8 => ?_)
        · have h := And.left h c8
          rw [if_pos c8] at hq
          rw [j_X3_readFruit_82] at hq
          unfold ws_X3_readFruit_82 at h ⊢
          refine And.intro (And.left h) ?_
          have h := And.right h
          refine And.intro (And.left h) ?_
          have h := And.right h
          refine ae ?_
          have h := h _ rfl
          refine And.intro (fun c9 => ?_) (fun c9 => ?_)
          · have h := And.left h c9
            rw [if_neg c9] at hq
            refine ae ?_
            have h := h _ rfl
            have q9 := hq _ rfl
            dsimp only at q9
            exact q9 h
          · have h := And.right h c9
            rw [if_pos c9] at hq
            have q9 := hq _ rfl
            dsimp only at q9
            exact q9 h
        · have h := And.right h c8
          rw [if_neg c8] at hq
          refine du_X8_readNumber (by decide) h ?_
          intro h
          rw [j_X3_readFruit_82] at hq
          unfold ws_X3_readFruit_82 at h ⊢
          refine And.intro (And.left h) ?_
          have h := And.right h
          refine And.intro (And.left h) ?_
          have h := And.right h
          refine ae ?_
          have h := h _ rfl
          refine And.intro (fun c10 => ?_) (fun c10 => ?_)
          · have h := And.left h c10
            rw [if_neg c10] at hq
            refine ae ?_
            have h := h _ rfl
            have q9 := hq _ rfl
            dsimp only at q9
            exact q9 h
          · have h := And.right h c10
            rw [if_pos c10] at hq
            have q9 := hq _ rfl
            dsimp only at q9
            exact q9 h
      · have h := And.right h c7
        rw [if_pos c7] at hq
        have q9 := hq _ rfl
        dsimp only at q9
        exact q9 h
  · have h := And.right h c1
    rw [if_pos c1] at hq
    have q9 := hq _ rfl
    dsimp only at q9
    exact q9 h
theorem du_X3_readFruit {P Q : Int32 → Int32 → Int32 → (Nat → Int32) → (Nat → Int32) → (Nat → Int32) → (Nat → Int32) → Prop} {qJ rY : Int32} {qM : Nat → Int32} {bI : Int32} {wD gF pE qA : Nat → Int32} (h : wp_X3_readFruit P qJ rY qM bI wD gF pE qA) (hq : P (F_X3_readFruit qJ rY qM bI wD gF pE qA).1 (F_X3_readFruit qJ rY qM bI wD gF pE qA).2.1 (F_X3_readFruit qJ rY qM bI wD gF pE qA).2.2.1 (F_X3_readFruit qJ rY qM bI wD gF pE qA).2.2.2.1 (F_X3_readFruit qJ rY qM bI wD gF pE qA).2.2.2.2.1 (F_X3_readFruit qJ rY qM bI wD gF pE qA).2.2.2.2.2.1 (F_X3_readFruit qJ rY qM bI wD gF pE qA).2.2.2.2.2.2 → Q (F_X3_readFruit qJ rY qM bI wD gF pE qA).1 (F_X3_readFruit qJ rY qM bI wD gF pE qA).2.1 (F_X3_readFruit qJ rY qM bI wD gF pE qA).2.2.1 (F_X3_readFruit qJ rY qM bI wD gF pE qA).2.2.2.1 (F_X3_readFruit qJ rY qM bI wD gF pE qA).2.2.2.2.1 (F_X3_readFruit qJ rY qM bI wD gF pE qA).2.2.2.2.2.1 (F_X3_readFruit qJ rY qM bI wD gF pE qA).2.2.2.2.2.2) : wp_X3_readFruit Q qJ rY qM bI wD gF pE qA := dt_X3_readFruit h (fun o eo => by rw [eo]; exact hq)
noncomputable def F_X3_readPair_b2 (p3 qJ rY : Int32) (qM nJ nY : Nat → Int32) : Int32 × Int32 × (Nat → Int32) × (Nat → Int32) := if (F_X8_readNumber 2 qJ rY qM).1 = (-1) then (0, (F_X8_readNumber 2 qJ rY qM).2, nJ, nY) else (if (F_X8_take 44 (F_X8_readNumber 2 qJ rY qM).2 rY qM).1 = 0 then (0, (F_X8_take 44 (F_X8_readNumber 2 qJ rY qM).2 rY qM).2, nJ, nY) else (if (F_X8_readNumber 2 (F_X8_take 44 (F_X8_readNumber 2 qJ rY qM).2 rY qM).2 rY qM).1 = (-1) then (0, (F_X8_readNumber 2 (F_X8_take 44 (F_X8_readNumber 2 qJ rY qM).2 rY qM).2 rY qM).2, nJ, nY) else (if p3 < 0 then (0, (F_X8_readNumber 2 (F_X8_take 44 (F_X8_readNumber 2 qJ rY qM).2 rY qM).2 rY qM).2, nJ, nY) else (if 8 ≤ p3 then (0, (F_X8_readNumber 2 (F_X8_take 44 (F_X8_readNumber 2 qJ rY qM).2 rY qM).2 rY qM).2, nJ, nY) else (if p3 < 8 then (1, (F_X8_readNumber 2 (F_X8_take 44 (F_X8_readNumber 2 qJ rY qM).2 rY qM).2 rY qM).2, (upd nJ p3.toNatClampNeg (F_X8_readNumber 2 qJ rY qM).1), (upd nY p3.toNatClampNeg (F_X8_readNumber 2 (F_X8_take 44 (F_X8_readNumber 2 qJ rY qM).2 rY qM).2 rY qM).1)) else (0, (F_X8_readNumber 2 (F_X8_take 44 (F_X8_readNumber 2 qJ rY qM).2 rY qM).2 rY qM).2, nJ, nY))))))
set_option maxHeartbeats 200000 in
set_option maxRecDepth 10000 in
theorem dt_X3_readPair_b2 {P Q : Int32 → Int32 → (Nat → Int32) → (Nat → Int32) → Prop} {p3 qJ rY : Int32} {qM nJ nY : Nat → Int32} (h : wp_X3_readPair_b2 P p3 qJ rY qM nJ nY) (hq : ∀ o : Int32 × Int32 × (Nat → Int32) × (Nat → Int32), o = F_X3_readPair_b2 p3 qJ rY qM nJ nY → P o.1 o.2.1 o.2.2.1 o.2.2.2 → Q o.1 o.2.1 o.2.2.1 o.2.2.2) : wp_X3_readPair_b2 Q p3 qJ rY qM nJ nY := by
  rw [F_X3_readPair_b2] at hq
  refine du_X8_readNumber (by decide) h ?_
  intro h
  refine And.intro (fun c1 => ?_) (fun c1 => ?_)
  · have h := And.left h c1
    rw [if_pos c1] at hq
    have q9 := hq _ rfl
    dsimp only at q9
    exact q9 h
  · have h := And.right h c1
    rw [if_neg c1] at hq
    refine du_X8_take h ?_
    intro h
    refine And.intro (fun c2 => ?_) (fun c2 => ?_)
    · have h := And.left h c2
      rw [if_neg c2] at hq
      refine du_X8_readNumber (by decide) h ?_
      intro h
      refine And.intro (fun c3 => ?_) (fun c3 => ?_)
      · have h := And.left h c3
        rw [if_pos c3] at hq
        have q9 := hq _ rfl
        dsimp only at q9
        exact q9 h
      · have h := And.right h c3
        rw [if_neg c3] at hq
        refine And.intro (fun c4 => ?_) (fun c4 => ?_)
        · have h := And.left h c4
          rw [if_pos c4] at hq
          have q9 := hq _ rfl
          dsimp only at q9
          exact q9 h
        · have h := And.right h c4
          rw [if_neg c4] at hq
          refine And.intro (fun c5 => ?_) (fun c5 => ?_)
          · have h := And.left h c5
            rw [if_pos c5] at hq
            have q9 := hq _ rfl
            dsimp only at q9
            exact q9 h
          · have h := And.right h c5
            rw [if_neg c5] at hq
            refine And.intro (fun c6 => ?_) (fun c6 => ?_)
            · have h := And.left h c6
              rw [if_pos c6] at hq
              refine And.intro (And.left h) ?_
              have h := And.right h
              refine And.intro (And.left h) ?_
              have h := And.right h
              have q9 := hq _ rfl
              dsimp only at q9
              exact q9 h
            · have h := And.right h c6
              rw [if_neg c6] at hq
              have q9 := hq _ rfl
              dsimp only at q9
              exact q9 h
    · have h := And.right h c2
      rw [if_pos c2] at hq
      have q9 := hq _ rfl
      dsimp only at q9
      exact q9 h
theorem du_X3_readPair_b2 {P Q : Int32 → Int32 → (Nat → Int32) → (Nat → Int32) → Prop} {p3 qJ rY : Int32} {qM nJ nY : Nat → Int32} (h : wp_X3_readPair_b2 P p3 qJ rY qM nJ nY) (hq : P (F_X3_readPair_b2 p3 qJ rY qM nJ nY).1 (F_X3_readPair_b2 p3 qJ rY qM nJ nY).2.1 (F_X3_readPair_b2 p3 qJ rY qM nJ nY).2.2.1 (F_X3_readPair_b2 p3 qJ rY qM nJ nY).2.2.2 → Q (F_X3_readPair_b2 p3 qJ rY qM nJ nY).1 (F_X3_readPair_b2 p3 qJ rY qM nJ nY).2.1 (F_X3_readPair_b2 p3 qJ rY qM nJ nY).2.2.1 (F_X3_readPair_b2 p3 qJ rY qM nJ nY).2.2.2) : wp_X3_readPair_b2 Q p3 qJ rY qM nJ nY := dt_X3_readPair_b2 h (fun o eo => by rw [eo]; exact hq)
noncomputable def F_X3_readStanding (qJ rY : Int32) (qM : Nat → Int32) (aI : Int32) (nJ nY : Nat → Int32) : Int32 × Int32 × Int32 × (Nat → Int32) × (Nat → Int32) := if (F_X3_readPair_b2 aI qJ rY qM nJ nY).1 = 0 then (0, (F_X3_readPair_b2 aI qJ rY qM nJ nY).2.1, aI, (F_X3_readPair_b2 aI qJ rY qM nJ nY).2.2.1, (F_X3_readPair_b2 aI qJ rY qM nJ nY).2.2.2) else (1, (F_X3_readPair_b2 aI qJ rY qM nJ nY).2.1, (aI + 1), (F_X3_readPair_b2 aI qJ rY qM nJ nY).2.2.1, (F_X3_readPair_b2 aI qJ rY qM nJ nY).2.2.2)
set_option maxHeartbeats 200000 in
set_option maxRecDepth 10000 in
theorem dt_X3_readStanding {P Q : Int32 → Int32 → Int32 → (Nat → Int32) → (Nat → Int32) → Prop} {qJ rY : Int32} {qM : Nat → Int32} {aI : Int32} {nJ nY : Nat → Int32} (h : wp_X3_readStanding P qJ rY qM aI nJ nY) (hq : ∀ o : Int32 × Int32 × Int32 × (Nat → Int32) × (Nat → Int32), o = F_X3_readStanding qJ rY qM aI nJ nY → P o.1 o.2.1 o.2.2.1 o.2.2.2.1 o.2.2.2.2 → Q o.1 o.2.1 o.2.2.1 o.2.2.2.1 o.2.2.2.2) : wp_X3_readStanding Q qJ rY qM aI nJ nY := by
  rw [F_X3_readStanding] at hq
  refine du_X3_readPair_b2 h ?_
  intro h
  refine And.intro (fun c1 => ?_) (fun c1 => ?_)
  · have h := And.left h c1
    rw [if_neg c1] at hq
    refine ae ?_
    have h := h _ rfl
    have q9 := hq _ rfl
    dsimp only at q9
    exact q9 h
  · have h := And.right h c1
    rw [if_pos c1] at hq
    have q9 := hq _ rfl
    dsimp only at q9
    exact q9 h
theorem du_X3_readStanding {P Q : Int32 → Int32 → Int32 → (Nat → Int32) → (Nat → Int32) → Prop} {qJ rY : Int32} {qM : Nat → Int32} {aI : Int32} {nJ nY : Nat → Int32} (h : wp_X3_readStanding P qJ rY qM aI nJ nY) (hq : P (F_X3_readStanding qJ rY qM aI nJ nY).1 (F_X3_readStanding qJ rY qM aI nJ nY).2.1 (F_X3_readStanding qJ rY qM aI nJ nY).2.2.1 (F_X3_readStanding qJ rY qM aI nJ nY).2.2.2.1 (F_X3_readStanding qJ rY qM aI nJ nY).2.2.2.2 → Q (F_X3_readStanding qJ rY qM aI nJ nY).1 (F_X3_readStanding qJ rY qM aI nJ nY).2.1 (F_X3_readStanding qJ rY qM aI nJ nY).2.2.1 (F_X3_readStanding qJ rY qM aI nJ nY).2.2.2.1 (F_X3_readStanding qJ rY qM aI nJ nY).2.2.2.2) : wp_X3_readStanding Q qJ rY qM aI nJ nY := dt_X3_readStanding h (fun o eo => by rw [eo]; exact hq)
noncomputable def j_X3_readLine_28 {R : Type} (po : Int32 → Int32 → Int32 → Int32 → (Nat → Int32) → (Nat → Int32) → (Nat → Int32) → (Nat → Int32) → (Nat → Int32) → (Nat → Int32) → R) (rY : Int32) (qM : Nat → Int32) (qJ bI aI : Int32) (wD gF pE qA nJ nY : Nat → Int32) : R := if (F_X8_here qJ rY qM) = 115 then (if 8 ≤ aI then (po 0 qJ bI aI wD gF pE qA nJ nY) else (po ((F_X3_readStanding (F_X8_skip qJ rY) rY qM aI nJ nY).1) ((F_X3_readStanding (F_X8_skip qJ rY) rY qM aI nJ nY).2.1) bI ((F_X3_readStanding (F_X8_skip qJ rY) rY qM aI nJ nY).2.2.1) wD gF pE qA ((F_X3_readStanding (F_X8_skip qJ rY) rY qM aI nJ nY).2.2.2.1) ((F_X3_readStanding (F_X8_skip qJ rY) rY qM aI nJ nY).2.2.2.2))) else (po 0 qJ bI aI wD gF pE qA nJ nY)
noncomputable def F_X3_readLine (qJ rY : Int32) (qM : Nat → Int32) (bI aI : Int32) (wD gF pE qA nJ nY : Nat → Int32) : Int32 × Int32 × Int32 × Int32 × (Nat → Int32) × (Nat → Int32) × (Nat → Int32) × (Nat → Int32) × (Nat → Int32) × (Nat → Int32) := if (F_X8_here qJ rY qM) = 102 then (if 16 ≤ bI then (j_X3_readLine_28 (fun o0 o1 o2 o3 o4 o5 o6 o7 o8 o9 => (o0, o1, o2, o3, o4, o5, o6, o7, o8, o9)) rY qM qJ bI aI wD gF pE qA nJ nY) else ((F_X3_readFruit (F_X8_skip qJ rY) rY qM bI wD gF pE qA).1, (F_X3_readFruit (F_X8_skip qJ rY) rY qM bI wD gF pE qA).2.1, (F_X3_readFruit (F_X8_skip qJ rY) rY qM bI wD gF pE qA).2.2.1, aI, (F_X3_readFruit (F_X8_skip qJ rY) rY qM bI wD gF pE qA).2.2.2.1, (F_X3_readFruit (F_X8_skip qJ rY) rY qM bI wD gF pE qA).2.2.2.2.1, (F_X3_readFruit (F_X8_skip qJ rY) rY qM bI wD gF pE qA).2.2.2.2.2.1, (F_X3_readFruit (F_X8_skip qJ rY) rY qM bI wD gF pE qA).2.2.2.2.2.2, nJ, nY)) else (j_X3_readLine_28 (fun o0 o1 o2 o3 o4 o5 o6 o7 o8 o9 => (o0, o1, o2, o3, o4, o5, o6, o7, o8, o9)) rY qM qJ bI aI wD gF pE qA nJ nY)
set_option maxHeartbeats 200000 in
set_option maxRecDepth 10000 in
theorem dt_X3_readLine {P Q : Int32 → Int32 → Int32 → Int32 → (Nat → Int32) → (Nat → Int32) → (Nat → Int32) → (Nat → Int32) → (Nat → Int32) → (Nat → Int32) → Prop} {qJ rY : Int32} {qM : Nat → Int32} {bI aI : Int32} {wD gF pE qA nJ nY : Nat → Int32} (h : wp_X3_readLine P qJ rY qM bI aI wD gF pE qA nJ nY) (hq : ∀ o : Int32 × Int32 × Int32 × Int32 × (Nat → Int32) × (Nat → Int32) × (Nat → Int32) × (Nat → Int32) × (Nat → Int32) × (Nat → Int32), o = F_X3_readLine qJ rY qM bI aI wD gF pE qA nJ nY → P o.1 o.2.1 o.2.2.1 o.2.2.2.1 o.2.2.2.2.1 o.2.2.2.2.2.1 o.2.2.2.2.2.2.1 o.2.2.2.2.2.2.2.1 o.2.2.2.2.2.2.2.2.1 o.2.2.2.2.2.2.2.2.2 → Q o.1 o.2.1 o.2.2.1 o.2.2.2.1 o.2.2.2.2.1 o.2.2.2.2.2.1 o.2.2.2.2.2.2.1 o.2.2.2.2.2.2.2.1 o.2.2.2.2.2.2.2.2.1 o.2.2.2.2.2.2.2.2.2) : wp_X3_readLine Q qJ rY qM bI aI wD gF pE qA nJ nY := by
  rw [F_X3_readLine] at hq
  refine du_X8_here h ?_
  intro h
  refine And.intro (fun c1 => ?_) (fun c1 => ?_)
  · have h := And.left h c1
    rw [if_neg c1] at hq
    rw [j_X3_readLine_28] at hq
    unfold ws_X3_readLine_28 at h ⊢
    refine du_X8_here h ?_
    intro h
    refine And.intro (fun c2 => ?_) (fun c2 => ?_)
    · have h := And.left h c2
      rw [if_neg c2] at hq
      have q9 := hq _ rfl
      dsimp only at q9
      exact q9 h
    · have h := And.right h c2
      rw [if_pos c2] at hq
      refine And.intro (fun c3 => ?_) (fun c3 => ?_)
      · have h := And.left h c3
        rw [if_pos c3] at hq
        have q9 := hq _ rfl
        dsimp only at q9
        exact q9 h
      · have h := And.right h c3
        rw [if_neg c3] at hq
        refine du_X8_skip h ?_
        intro h
        refine du_X3_readStanding h ?_
        intro h
        refine And.intro (And.left h) ?_
        have h := And.right h
        have q9 := hq _ rfl
        dsimp only at q9
        exact q9 h
  · have h := And.right h c1
    rw [if_pos c1] at hq
    refine And.intro (fun c4 => ?_) (fun c4 => ?_)
    · have h := And.left h c4
      rw [if_pos c4] at hq
      rw [j_X3_readLine_28] at hq
      unfold ws_X3_readLine_28 at h ⊢
      refine du_X8_here h ?_
      intro h
      refine And.intro (fun c5 => ?_) (fun c5 => ?_)
      · have h := And.left h c5
        rw [if_neg c5] at hq
        have q9 := hq _ rfl
        dsimp only at q9
        exact q9 h
      · have h := And.right h c5
        rw [if_pos c5] at hq
        refine And.intro (fun c6 => ?_) (fun c6 => ?_)
        · have h := And.left h c6
          rw [if_pos c6] at hq
          have q9 := hq _ rfl
          dsimp only at q9
          exact q9 h
        · have h := And.right h c6
          rw [if_neg c6] at hq
          refine du_X8_skip h ?_
          intro h
          refine du_X3_readStanding h ?_
          intro h
          refine And.intro (And.left h) ?_
          have h := And.right h
          have q9 := hq _ rfl
          dsimp only at q9
          exact q9 h
    · have h := And.right h c4
      rw [if_neg c4] at hq
      refine du_X8_skip h ?_
      intro h
      refine du_X3_readFruit h ?_
      intro h
      refine And.intro (And.left h) ?_
      have h := And.right h
      have q9 := hq _ rfl
      dsimp only at q9
      exact q9 h
theorem du_X3_readLine {P Q : Int32 → Int32 → Int32 → Int32 → (Nat → Int32) → (Nat → Int32) → (Nat → Int32) → (Nat → Int32) → (Nat → Int32) → (Nat → Int32) → Prop} {qJ rY : Int32} {qM : Nat → Int32} {bI aI : Int32} {wD gF pE qA nJ nY : Nat → Int32} (h : wp_X3_readLine P qJ rY qM bI aI wD gF pE qA nJ nY) (hq : P (F_X3_readLine qJ rY qM bI aI wD gF pE qA nJ nY).1 (F_X3_readLine qJ rY qM bI aI wD gF pE qA nJ nY).2.1 (F_X3_readLine qJ rY qM bI aI wD gF pE qA nJ nY).2.2.1 (F_X3_readLine qJ rY qM bI aI wD gF pE qA nJ nY).2.2.2.1 (F_X3_readLine qJ rY qM bI aI wD gF pE qA nJ nY).2.2.2.2.1 (F_X3_readLine qJ rY qM bI aI wD gF pE qA nJ nY).2.2.2.2.2.1 (F_X3_readLine qJ rY qM bI aI wD gF pE qA nJ nY).2.2.2.2.2.2.1 (F_X3_readLine qJ rY qM bI aI wD gF pE qA nJ nY).2.2.2.2.2.2.2.1 (F_X3_readLine qJ rY qM bI aI wD gF pE qA nJ nY).2.2.2.2.2.2.2.2.1 (F_X3_readLine qJ rY qM bI aI wD gF pE qA nJ nY).2.2.2.2.2.2.2.2.2 → Q (F_X3_readLine qJ rY qM bI aI wD gF pE qA nJ nY).1 (F_X3_readLine qJ rY qM bI aI wD gF pE qA nJ nY).2.1 (F_X3_readLine qJ rY qM bI aI wD gF pE qA nJ nY).2.2.1 (F_X3_readLine qJ rY qM bI aI wD gF pE qA nJ nY).2.2.2.1 (F_X3_readLine qJ rY qM bI aI wD gF pE qA nJ nY).2.2.2.2.1 (F_X3_readLine qJ rY qM bI aI wD gF pE qA nJ nY).2.2.2.2.2.1 (F_X3_readLine qJ rY qM bI aI wD gF pE qA nJ nY).2.2.2.2.2.2.1 (F_X3_readLine qJ rY qM bI aI wD gF pE qA nJ nY).2.2.2.2.2.2.2.1 (F_X3_readLine qJ rY qM bI aI wD gF pE qA nJ nY).2.2.2.2.2.2.2.2.1 (F_X3_readLine qJ rY qM bI aI wD gF pE qA nJ nY).2.2.2.2.2.2.2.2.2) : wp_X3_readLine Q qJ rY qM bI aI wD gF pE qA nJ nY := dt_X3_readLine h (fun o eo => by rw [eo]; exact hq)
noncomputable def fs_X3_readLines_18 {R : Type} (po : Int32 → Int32 → Int32 → Int32 → (Nat → Int32) → (Nat → Int32) → (Nat → Int32) → (Nat → Int32) → (Nat → Int32) → (Nat → Int32) → R) (rY : Int32) (qM : Nat → Int32) (bZ bD : Int32) (nx : Int32 → Int32 → Int32 → Int32 → (Nat → Int32) → (Nat → Int32) → (Nat → Int32) → (Nat → Int32) → (Nat → Int32) → (Nat → Int32) → R) (x2 qJ bI aI : Int32) (wD gF pE qA nJ nY : Nat → Int32) : R := if 76 < x2 then (po (-1) qJ bI aI wD gF pE qA nJ nY) else (if (F_X3_readLine qJ rY qM bI aI wD gF pE qA nJ nY).1 = 0 then (po (-1) ((F_X3_readLine qJ rY qM bI aI wD gF pE qA nJ nY).2.1) ((F_X3_readLine qJ rY qM bI aI wD gF pE qA nJ nY).2.2.1) ((F_X3_readLine qJ rY qM bI aI wD gF pE qA nJ nY).2.2.2.1) ((F_X3_readLine qJ rY qM bI aI wD gF pE qA nJ nY).2.2.2.2.1) ((F_X3_readLine qJ rY qM bI aI wD gF pE qA nJ nY).2.2.2.2.2.1) ((F_X3_readLine qJ rY qM bI aI wD gF pE qA nJ nY).2.2.2.2.2.2.1) ((F_X3_readLine qJ rY qM bI aI wD gF pE qA nJ nY).2.2.2.2.2.2.2.1) ((F_X3_readLine qJ rY qM bI aI wD gF pE qA nJ nY).2.2.2.2.2.2.2.2.1) ((F_X3_readLine qJ rY qM bI aI wD gF pE qA nJ nY).2.2.2.2.2.2.2.2.2)) else (if (F_X8_take 59 (F_X3_readLine qJ rY qM bI aI wD gF pE qA nJ nY).2.1 rY qM).1 = 0 then (po x2 ((F_X8_take 59 (F_X3_readLine qJ rY qM bI aI wD gF pE qA nJ nY).2.1 rY qM).2) ((F_X3_readLine qJ rY qM bI aI wD gF pE qA nJ nY).2.2.1) ((F_X3_readLine qJ rY qM bI aI wD gF pE qA nJ nY).2.2.2.1) ((F_X3_readLine qJ rY qM bI aI wD gF pE qA nJ nY).2.2.2.2.1) ((F_X3_readLine qJ rY qM bI aI wD gF pE qA nJ nY).2.2.2.2.2.1) ((F_X3_readLine qJ rY qM bI aI wD gF pE qA nJ nY).2.2.2.2.2.2.1) ((F_X3_readLine qJ rY qM bI aI wD gF pE qA nJ nY).2.2.2.2.2.2.2.1) ((F_X3_readLine qJ rY qM bI aI wD gF pE qA nJ nY).2.2.2.2.2.2.2.2.1) ((F_X3_readLine qJ rY qM bI aI wD gF pE qA nJ nY).2.2.2.2.2.2.2.2.2)) else (nx (x2 + 1) ((F_X8_take 59 (F_X3_readLine qJ rY qM bI aI wD gF pE qA nJ nY).2.1 rY qM).2) ((F_X3_readLine qJ rY qM bI aI wD gF pE qA nJ nY).2.2.1) ((F_X3_readLine qJ rY qM bI aI wD gF pE qA nJ nY).2.2.2.1) ((F_X3_readLine qJ rY qM bI aI wD gF pE qA nJ nY).2.2.2.2.1) ((F_X3_readLine qJ rY qM bI aI wD gF pE qA nJ nY).2.2.2.2.2.1) ((F_X3_readLine qJ rY qM bI aI wD gF pE qA nJ nY).2.2.2.2.2.2.1) ((F_X3_readLine qJ rY qM bI aI wD gF pE qA nJ nY).2.2.2.2.2.2.2.1) ((F_X3_readLine qJ rY qM bI aI wD gF pE qA nJ nY).2.2.2.2.2.2.2.2.1) ((F_X3_readLine qJ rY qM bI aI wD gF pE qA nJ nY).2.2.2.2.2.2.2.2.2))))
set_option maxHeartbeats 200000 in
set_option maxRecDepth 10000 in
theorem dl_X3_readLines_18 {P Q : Int32 → Int32 → Int32 → Int32 → (Nat → Int32) → (Nat → Int32) → (Nat → Int32) → (Nat → Int32) → (Nat → Int32) → (Nat → Int32) → Prop} {rY : Int32} {qM : Nat → Int32} {bZ bD : Int32} {R : Type} {po d : Int32 → Int32 → Int32 → Int32 → (Nat → Int32) → (Nat → Int32) → (Nat → Int32) → (Nat → Int32) → (Nat → Int32) → (Nat → Int32) → R} : ∀ (n m : Nat) (x2 qJ bI aI : Int32) (wD gF pE qA nJ nY : Nat → Int32), 1 ≤ Int32.toInt x2 ∧ Int32.toInt x2 ≤ 77 → 77 - Int32.toInt x2 < (m : Int) → wb_X3_readLines_18 P rY qM bZ bD n x2 qJ bI aI wD gF pE qA nJ nY → (∀ (b0 b1 b2 b3 : Int32) (b4 b5 b6 b7 b8 b9 : Nat → Int32), po b0 b1 b2 b3 b4 b5 b6 b7 b8 b9 = flp (fs_X3_readLines_18 po rY qM bZ bD) d m x2 qJ bI aI wD gF pE qA nJ nY → P b0 b1 b2 b3 b4 b5 b6 b7 b8 b9 → Q b0 b1 b2 b3 b4 b5 b6 b7 b8 b9) → wb_X3_readLines_18 Q rY qM bZ bD n x2 qJ bI aI wD gF pE qA nJ nY := by
  have l1 : Int32.toInt (1 : Int32) = 1 := by decide
  have l76 : Int32.toInt (76 : Int32) = 76 := by decide
  intro n
  induction n with
  | zero => intro m x2 qJ bI aI wD gF pE qA nJ nY hv hm h hq; exact False.elim h
  | succ n ih =>
    intro m x2 qJ bI aI wD gF pE qA nJ nY hv hm h hq
    cases m with
    | zero => exfalso; omega
    | succ m =>
      rw [flp_s, fs_X3_readLines_18] at hq
      have h : ws_X3_readLines_18 P (wb_X3_readLines_18 P rY qM bZ bD n) rY qM bZ bD x2 qJ bI aI wD gF pE qA nJ nY := h
      show ws_X3_readLines_18 Q (wb_X3_readLines_18 Q rY qM bZ bD n) rY qM bZ bD x2 qJ bI aI wD gF pE qA nJ nY
      unfold ws_X3_readLines_18 at h ⊢
      refine And.intro (fun c1 => ?_) (fun c1 => ?_)
      · have h := And.left h c1
        rw [if_pos c1] at hq
        have dc1 := (fa_lt _ _).mp c1
        exact hq _ _ _ _ _ _ _ _ _ _ rfl h
      · have h := And.right h c1
        rw [if_neg c1] at hq
        have dc1 := mt (fa_lt _ _).mpr c1
        refine du_X3_readLine h ?_
        intro h
        refine And.intro (fun c2 => ?_) (fun c2 => ?_)
        · have h := And.left h c2
          rw [if_neg c2] at hq
          have dc2 := mt (fa_eq _ _).mpr c2
          refine du_X8_take h ?_
          intro h
          refine And.intro (fun c3 => ?_) (fun c3 => ?_)
          · have h := And.left h c3
            rw [if_neg c3] at hq
            have dc3 := mt (fa_eq _ _).mpr c3
            refine ae ?_
            have h := h _ rfl
            have f9 := ta_add x2 1 (by omega)
            exact ih m _ _ _ _ _ _ _ _ _ _ (by omega) (by omega) h hq
          · have h := And.right h c3
            rw [if_pos c3] at hq
            have dc3 := (fa_eq _ _).mp c3
            exact hq _ _ _ _ _ _ _ _ _ _ rfl h
        · have h := And.right h c2
          rw [if_pos c2] at hq
          have dc2 := (fa_eq _ _).mp c2
          exact hq _ _ _ _ _ _ _ _ _ _ rfl h
noncomputable def F_X3_readLines (qJ rY : Int32) (qM : Nat → Int32) (bZ bD bI aI : Int32) (wD gF pE qA nJ nY : Nat → Int32) : Int32 × Int32 × Int32 × Int32 × (Nat → Int32) × (Nat → Int32) × (Nat → Int32) × (Nat → Int32) × (Nat → Int32) × (Nat → Int32) := flp (fs_X3_readLines_18 (fun o0 o1 o2 o3 o4 o5 o6 o7 o8 o9 => (o0, o1, o2, o3, o4, o5, o6, o7, o8, o9)) rY qM bZ bD) (fun _ _ _ _ _ _ _ _ _ _ => (0, 0, 0, 0, (fun _ => 0), (fun _ => 0), (fun _ => 0), (fun _ => 0), (fun _ => 0), (fun _ => 0))) 77 1 qJ bZ bD wD gF pE qA nJ nY
set_option maxHeartbeats 200000 in
set_option maxRecDepth 10000 in
theorem dt_X3_readLines {P Q : Int32 → Int32 → Int32 → Int32 → (Nat → Int32) → (Nat → Int32) → (Nat → Int32) → (Nat → Int32) → (Nat → Int32) → (Nat → Int32) → Prop} {qJ rY : Int32} {qM : Nat → Int32} {bZ bD bI aI : Int32} {wD gF pE qA nJ nY : Nat → Int32} (h : wp_X3_readLines P qJ rY qM bZ bD bI aI wD gF pE qA nJ nY) (hq : ∀ o : Int32 × Int32 × Int32 × Int32 × (Nat → Int32) × (Nat → Int32) × (Nat → Int32) × (Nat → Int32) × (Nat → Int32) × (Nat → Int32), o = F_X3_readLines qJ rY qM bZ bD bI aI wD gF pE qA nJ nY → P o.1 o.2.1 o.2.2.1 o.2.2.2.1 o.2.2.2.2.1 o.2.2.2.2.2.1 o.2.2.2.2.2.2.1 o.2.2.2.2.2.2.2.1 o.2.2.2.2.2.2.2.2.1 o.2.2.2.2.2.2.2.2.2 → Q o.1 o.2.1 o.2.2.1 o.2.2.2.1 o.2.2.2.2.1 o.2.2.2.2.2.1 o.2.2.2.2.2.2.1 o.2.2.2.2.2.2.2.1 o.2.2.2.2.2.2.2.2.1 o.2.2.2.2.2.2.2.2.2) : wp_X3_readLines Q qJ rY qM bZ bD bI aI wD gF pE qA nJ nY := by
  rw [F_X3_readLines] at hq
  obtain ⟨n1, h⟩ := h
  exact ⟨n1, dl_X3_readLines_18 n1 77 _ _ _ _ _ _ _ _ _ _ (by decide) (by decide) h (fun b0 b1 b2 b3 b4 b5 b6 b7 b8 b9 e9 h9 => hq (b0, b1, b2, b3, b4, b5, b6, b7, b8, b9) e9 h9)⟩
theorem du_X3_readLines {P Q : Int32 → Int32 → Int32 → Int32 → (Nat → Int32) → (Nat → Int32) → (Nat → Int32) → (Nat → Int32) → (Nat → Int32) → (Nat → Int32) → Prop} {qJ rY : Int32} {qM : Nat → Int32} {bZ bD bI aI : Int32} {wD gF pE qA nJ nY : Nat → Int32} (h : wp_X3_readLines P qJ rY qM bZ bD bI aI wD gF pE qA nJ nY) (hq : P (F_X3_readLines qJ rY qM bZ bD bI aI wD gF pE qA nJ nY).1 (F_X3_readLines qJ rY qM bZ bD bI aI wD gF pE qA nJ nY).2.1 (F_X3_readLines qJ rY qM bZ bD bI aI wD gF pE qA nJ nY).2.2.1 (F_X3_readLines qJ rY qM bZ bD bI aI wD gF pE qA nJ nY).2.2.2.1 (F_X3_readLines qJ rY qM bZ bD bI aI wD gF pE qA nJ nY).2.2.2.2.1 (F_X3_readLines qJ rY qM bZ bD bI aI wD gF pE qA nJ nY).2.2.2.2.2.1 (F_X3_readLines qJ rY qM bZ bD bI aI wD gF pE qA nJ nY).2.2.2.2.2.2.1 (F_X3_readLines qJ rY qM bZ bD bI aI wD gF pE qA nJ nY).2.2.2.2.2.2.2.1 (F_X3_readLines qJ rY qM bZ bD bI aI wD gF pE qA nJ nY).2.2.2.2.2.2.2.2.1 (F_X3_readLines qJ rY qM bZ bD bI aI wD gF pE qA nJ nY).2.2.2.2.2.2.2.2.2 → Q (F_X3_readLines qJ rY qM bZ bD bI aI wD gF pE qA nJ nY).1 (F_X3_readLines qJ rY qM bZ bD bI aI wD gF pE qA nJ nY).2.1 (F_X3_readLines qJ rY qM bZ bD bI aI wD gF pE qA nJ nY).2.2.1 (F_X3_readLines qJ rY qM bZ bD bI aI wD gF pE qA nJ nY).2.2.2.1 (F_X3_readLines qJ rY qM bZ bD bI aI wD gF pE qA nJ nY).2.2.2.2.1 (F_X3_readLines qJ rY qM bZ bD bI aI wD gF pE qA nJ nY).2.2.2.2.2.1 (F_X3_readLines qJ rY qM bZ bD bI aI wD gF pE qA nJ nY).2.2.2.2.2.2.1 (F_X3_readLines qJ rY qM bZ bD bI aI wD gF pE qA nJ nY).2.2.2.2.2.2.2.1 (F_X3_readLines qJ rY qM bZ bD bI aI wD gF pE qA nJ nY).2.2.2.2.2.2.2.2.1 (F_X3_readLines qJ rY qM bZ bD bI aI wD gF pE qA nJ nY).2.2.2.2.2.2.2.2.2) : wp_X3_readLines Q qJ rY qM bZ bD bI aI wD gF pE qA nJ nY := dt_X3_readLines h (fun o eo => by rw [eo]; exact hq)
noncomputable def F_X3_takeLines (bZ bD bI aI : Int32) : Int32 × Int32 := (bI, aI)
set_option maxHeartbeats 200000 in
set_option maxRecDepth 10000 in
theorem dt_X3_takeLines {P Q : Int32 → Int32 → Prop} {bZ bD bI aI : Int32} (h : wp_X3_takeLines P bZ bD bI aI) (hq : ∀ o : Int32 × Int32, o = F_X3_takeLines bZ bD bI aI → P o.1 o.2 → Q o.1 o.2) : wp_X3_takeLines Q bZ bD bI aI := by
  rw [F_X3_takeLines] at hq
  have q9 := hq _ rfl
  dsimp only at q9
  exact q9 h
theorem du_X3_takeLines {P Q : Int32 → Int32 → Prop} {bZ bD bI aI : Int32} (h : wp_X3_takeLines P bZ bD bI aI) (hq : P (F_X3_takeLines bZ bD bI aI).1 (F_X3_takeLines bZ bD bI aI).2 → Q (F_X3_takeLines bZ bD bI aI).1 (F_X3_takeLines bZ bD bI aI).2) : wp_X3_takeLines Q bZ bD bI aI := dt_X3_takeLines h (fun o eo => by rw [eo]; exact hq)
noncomputable def bd_X4_forgetAll_7 (oE c : Int32) (s : (Nat → Int32)) : (Nat → Int32) := (upd s c.toNatClampNeg (vp_nar .boolean 0))
noncomputable def ex_X4_forgetAll_7 {R : Type} (po : Int32 → (Nat → Int32) → R) (oE c : Int32) (s : (Nat → Int32)) : R := po oE s
set_option maxHeartbeats 200000 in
set_option maxRecDepth 10000 in
theorem dl_X4_forgetAll_7 {P Q : Int32 → (Nat → Int32) → Prop} {oE : Int32} {a : (Nat → Int32)} {i : Nat} (hi0 : i < 2147483648) (hE : ∀ (c : Int32) (s : (Nat → Int32)), c = nI (i + (Int32.toInt 2 - ((i : Nat) : Int)).toNat) → s = itr (bd_X4_forgetAll_7 oE) a i (Int32.toInt 2 - ((i : Nat) : Int)).toNat → (P oE s) → (Q oE s)) : ∀ (n k : Nat) (c : Int32), c = nI (i + k) → k ≤ (Int32.toInt 2 - ((i : Nat) : Int)).toNat → wb_X4_forgetAll_7 P n c oE (itr (bd_X4_forgetAll_7 oE) a i k) → wb_X4_forgetAll_7 Q n c oE (itr (bd_X4_forgetAll_7 oE) a i k) := by
  intro n
  induction n with
  | zero => intro k c hc hk h; exact False.elim h
  | succ n ih =>
    intro k c hc hk h
    have hr := tp_r 2
    have hi : Int32.toInt c = ((i + k : Nat) : Int) := by rw [hc]; exact nI_toInt (by omega)
    refine And.intro (fun t0 => ?_) (fun t0 => ?_)
    · have h := And.left h t0
      have t1 := (fa_le _ _).mp t0
      have hk2 : k = (Int32.toInt 2 - ((i : Nat) : Int)).toNat := by omega
      subst hk2
      exact hE _ _ hc rfl h
    · have h := And.right h t0
      have t1 := mt (fa_le _ _).mpr t0
      have hs : ∀ o : (Nat → Int32), o = itr (bd_X4_forgetAll_7 oE) a i (k + 1) → wb_X4_forgetAll_7 P n (c + 1) oE o → wb_X4_forgetAll_7 Q n (c + 1) oE o := by
        intro o eo h9
        have q := ih (k + 1) (c + 1) (by rw [hc]; exact nI_1 _) (by omega)
        rw [← eo] at q
        exact q h9
      rw [itr_s, ← hc, bd_X4_forgetAll_7] at hs
      refine And.intro (And.left h) ?_
      have h := And.right h
      refine ae ?_
      have h := h _ rfl
      have q9 := hs _ rfl
      exact q9 h
noncomputable def F_X4_forgetAll (oE : Int32) (tJ : Nat → Int32) : Int32 × (Nat → Int32) := ex_X4_forgetAll_7 (fun o0 o1 => (o0, o1)) 0 (nI (0 + (Int32.toInt 2 - ((0 : Nat) : Int)).toNat)) (itr (bd_X4_forgetAll_7 0) tJ 0 (Int32.toInt 2 - ((0 : Nat) : Int)).toNat)
set_option maxHeartbeats 200000 in
set_option maxRecDepth 10000 in
theorem dt_X4_forgetAll {P Q : Int32 → (Nat → Int32) → Prop} {oE : Int32} {tJ : Nat → Int32} (h : wp_X4_forgetAll P oE tJ) (hq : ∀ o : Int32 × (Nat → Int32), o = F_X4_forgetAll oE tJ → P o.1 o.2 → Q o.1 o.2) : wp_X4_forgetAll Q oE tJ := by
  rw [F_X4_forgetAll] at hq
  obtain ⟨n1, h⟩ := h
  refine ⟨n1, dl_X4_forgetAll_7 (a := tJ) (i := 0) (by decide) ?_ n1 0 0 (by decide) (Nat.zero_le _) h⟩
  intro cc2 s3 ec4 es5 h
  rw [← ec4, ← es5, ex_X4_forgetAll_7] at hq
  have q9 := hq _ rfl
  dsimp only at q9
  exact q9 h
theorem du_X4_forgetAll {P Q : Int32 → (Nat → Int32) → Prop} {oE : Int32} {tJ : Nat → Int32} (h : wp_X4_forgetAll P oE tJ) (hq : P (F_X4_forgetAll oE tJ).1 (F_X4_forgetAll oE tJ).2 → Q (F_X4_forgetAll oE tJ).1 (F_X4_forgetAll oE tJ).2) : wp_X4_forgetAll Q oE tJ := dt_X4_forgetAll h (fun o eo => by rw [eo]; exact hq)
noncomputable def j_X9_orchard_94 {R : Type} (po : Int32 → Int32 → Int32 → Int32 → Int32 → Int32 → Int32 → Int32 → (Nat → Int32) → (Nat → Int32) → (Nat → Int32) → (Nat → Int32) → (Nat → Int32) → (Nat → Int32) → Int32 → (Nat → Int32) → R) (qM : Nat → Int32) (x3 qI qJ rY bZ bD bI aI : Int32) (wD gF pE qA nJ nY : Nat → Int32) (oE : Int32) (tJ : Nat → Int32) : R := po x3 (F_X8_clear qI) qJ rY bZ bD bI aI wD gF pE qA nJ nY oE tJ
noncomputable def j_X9_orchard_71 {R : Type} (po : Int32 → Int32 → Int32 → Int32 → Int32 → Int32 → Int32 → Int32 → (Nat → Int32) → (Nat → Int32) → (Nat → Int32) → (Nat → Int32) → (Nat → Int32) → (Nat → Int32) → Int32 → (Nat → Int32) → R) (qM : Nat → Int32) (x1 x2 k0 qI qJ rY bZ bD bI aI : Int32) (wD gF pE qA nJ nY : Nat → Int32) (oE : Int32) (tJ : Nat → Int32) : R := if x2 = 0 then (j_X9_orchard_94 po qM k0 qI qJ rY bZ bD bI aI wD gF pE qA nJ nY oE tJ) else (if x1 ≤ 0 then (j_X9_orchard_94 po qM k0 qI qJ rY bZ bD bI aI wD gF pE qA nJ nY oE tJ) else (j_X9_orchard_94 po qM k0 qI qJ rY ((F_X3_takeLines bZ bD bI aI).1) ((F_X3_takeLines bZ bD bI aI).2) bI aI wD gF pE qA nJ nY ((F_X4_forgetAll oE tJ).1) ((F_X4_forgetAll oE tJ).2)))
noncomputable def j_X9_orchard_55 {R : Type} (po : Int32 → Int32 → Int32 → Int32 → Int32 → Int32 → Int32 → Int32 → (Nat → Int32) → (Nat → Int32) → (Nat → Int32) → (Nat → Int32) → (Nat → Int32) → (Nat → Int32) → Int32 → (Nat → Int32) → R) (qM : Nat → Int32) (x1 k0 qI qJ rY bZ bD bI aI : Int32) (wD gF pE qA nJ nY : Nat → Int32) (oE : Int32) (tJ : Nat → Int32) : R := if k0 = 0 then (j_X9_orchard_71 po qM x1 k0 (F_X8_wrong qJ) qI qJ rY bZ bD bI aI wD gF pE qA nJ nY oE tJ) else (j_X9_orchard_71 po qM x1 k0 x1 qI qJ rY bZ bD bI aI wD gF pE qA nJ nY oE tJ)
noncomputable def j_X9_orchard_54 {R : Type} (po : Int32 → Int32 → Int32 → Int32 → Int32 → Int32 → Int32 → Int32 → (Nat → Int32) → (Nat → Int32) → (Nat → Int32) → (Nat → Int32) → (Nat → Int32) → (Nat → Int32) → Int32 → (Nat → Int32) → R) (qM : Nat → Int32) (x1 qI qJ rY bZ bD bI aI : Int32) (wD gF pE qA nJ nY : Nat → Int32) (oE : Int32) (tJ : Nat → Int32) : R := j_X9_orchard_55 po qM x1 0 qI qJ rY bZ bD bI aI wD gF pE qA nJ nY oE tJ
noncomputable def j_X9_orchard_34 {R : Type} (po : Int32 → Int32 → Int32 → Int32 → Int32 → Int32 → Int32 → Int32 → (Nat → Int32) → (Nat → Int32) → (Nat → Int32) → (Nat → Int32) → (Nat → Int32) → (Nat → Int32) → Int32 → (Nat → Int32) → R) (qM : Nat → Int32) (k0 qI qJ rY bZ bD bI aI : Int32) (wD gF pE qA nJ nY : Nat → Int32) (oE : Int32) (tJ : Nat → Int32) : R := if k0 = (-1) then (j_X9_orchard_54 po qM k0 qI qJ rY bZ bD bI aI wD gF pE qA nJ nY oE tJ) else (if (F_X8_isThrough qI qJ) = 0 then (j_X9_orchard_54 po qM k0 qI qJ rY bZ bD bI aI wD gF pE qA nJ nY oE tJ) else (j_X9_orchard_55 po qM k0 1 qI qJ rY bZ bD bI aI wD gF pE qA nJ nY oE tJ))
noncomputable def F_X9_orchard (qI qJ rY : Int32) (qM : Nat → Int32) (bZ bD bI aI : Int32) (wD gF pE qA nJ nY : Nat → Int32) (oE : Int32) (tJ : Nat → Int32) : Int32 × Int32 × Int32 × Int32 × Int32 × Int32 × Int32 × Int32 × (Nat → Int32) × (Nat → Int32) × (Nat → Int32) × (Nat → Int32) × (Nat → Int32) × (Nat → Int32) × Int32 × (Nat → Int32) := if qI = 0 then (j_X9_orchard_34 (fun o0 o1 o2 o3 o4 o5 o6 o7 o8 o9 o10 o11 o12 o13 o14 o15 => (o0, o1, o2, o3, o4, o5, o6, o7, o8, o9, o10, o11, o12, o13, o14, o15)) qM 0 qI ((F_X8_open 76 qI qJ rY).1) ((F_X8_open 76 qI qJ rY).2) bZ bD bI aI wD gF pE qA nJ nY oE tJ) else (j_X9_orchard_34 (fun o0 o1 o2 o3 o4 o5 o6 o7 o8 o9 o10 o11 o12 o13 o14 o15 => (o0, o1, o2, o3, o4, o5, o6, o7, o8, o9, o10, o11, o12, o13, o14, o15)) qM ((F_X3_readLines (F_X8_open 76 qI qJ rY).1 (F_X8_open 76 qI qJ rY).2 qM bZ bD bI aI wD gF pE qA nJ nY).1) qI ((F_X3_readLines (F_X8_open 76 qI qJ rY).1 (F_X8_open 76 qI qJ rY).2 qM bZ bD bI aI wD gF pE qA nJ nY).2.1) ((F_X8_open 76 qI qJ rY).2) bZ bD ((F_X3_readLines (F_X8_open 76 qI qJ rY).1 (F_X8_open 76 qI qJ rY).2 qM bZ bD bI aI wD gF pE qA nJ nY).2.2.1) ((F_X3_readLines (F_X8_open 76 qI qJ rY).1 (F_X8_open 76 qI qJ rY).2 qM bZ bD bI aI wD gF pE qA nJ nY).2.2.2.1) ((F_X3_readLines (F_X8_open 76 qI qJ rY).1 (F_X8_open 76 qI qJ rY).2 qM bZ bD bI aI wD gF pE qA nJ nY).2.2.2.2.1) ((F_X3_readLines (F_X8_open 76 qI qJ rY).1 (F_X8_open 76 qI qJ rY).2 qM bZ bD bI aI wD gF pE qA nJ nY).2.2.2.2.2.1) ((F_X3_readLines (F_X8_open 76 qI qJ rY).1 (F_X8_open 76 qI qJ rY).2 qM bZ bD bI aI wD gF pE qA nJ nY).2.2.2.2.2.2.1) ((F_X3_readLines (F_X8_open 76 qI qJ rY).1 (F_X8_open 76 qI qJ rY).2 qM bZ bD bI aI wD gF pE qA nJ nY).2.2.2.2.2.2.2.1) ((F_X3_readLines (F_X8_open 76 qI qJ rY).1 (F_X8_open 76 qI qJ rY).2 qM bZ bD bI aI wD gF pE qA nJ nY).2.2.2.2.2.2.2.2.1) ((F_X3_readLines (F_X8_open 76 qI qJ rY).1 (F_X8_open 76 qI qJ rY).2 qM bZ bD bI aI wD gF pE qA nJ nY).2.2.2.2.2.2.2.2.2) oE tJ)
set_option maxHeartbeats 200000 in
set_option maxRecDepth 10000 in
theorem dt_X9_orchard {P Q : Int32 → Int32 → Int32 → Int32 → Int32 → Int32 → Int32 → Int32 → (Nat → Int32) → (Nat → Int32) → (Nat → Int32) → (Nat → Int32) → (Nat → Int32) → (Nat → Int32) → Int32 → (Nat → Int32) → Prop} {qI qJ rY : Int32} {qM : Nat → Int32} {bZ bD bI aI : Int32} {wD gF pE qA nJ nY : Nat → Int32} {oE : Int32} {tJ : Nat → Int32} (h : wp_X9_orchard P qI qJ rY qM bZ bD bI aI wD gF pE qA nJ nY oE tJ) (hq : ∀ o : Int32 × Int32 × Int32 × Int32 × Int32 × Int32 × Int32 × Int32 × (Nat → Int32) × (Nat → Int32) × (Nat → Int32) × (Nat → Int32) × (Nat → Int32) × (Nat → Int32) × Int32 × (Nat → Int32), o = F_X9_orchard qI qJ rY qM bZ bD bI aI wD gF pE qA nJ nY oE tJ → P o.1 o.2.1 o.2.2.1 o.2.2.2.1 o.2.2.2.2.1 o.2.2.2.2.2.1 o.2.2.2.2.2.2.1 o.2.2.2.2.2.2.2.1 o.2.2.2.2.2.2.2.2.1 o.2.2.2.2.2.2.2.2.2.1 o.2.2.2.2.2.2.2.2.2.2.1 o.2.2.2.2.2.2.2.2.2.2.2.1 o.2.2.2.2.2.2.2.2.2.2.2.2.1 o.2.2.2.2.2.2.2.2.2.2.2.2.2.1 o.2.2.2.2.2.2.2.2.2.2.2.2.2.2.1 o.2.2.2.2.2.2.2.2.2.2.2.2.2.2.2 → Q o.1 o.2.1 o.2.2.1 o.2.2.2.1 o.2.2.2.2.1 o.2.2.2.2.2.1 o.2.2.2.2.2.2.1 o.2.2.2.2.2.2.2.1 o.2.2.2.2.2.2.2.2.1 o.2.2.2.2.2.2.2.2.2.1 o.2.2.2.2.2.2.2.2.2.2.1 o.2.2.2.2.2.2.2.2.2.2.2.1 o.2.2.2.2.2.2.2.2.2.2.2.2.1 o.2.2.2.2.2.2.2.2.2.2.2.2.2.1 o.2.2.2.2.2.2.2.2.2.2.2.2.2.2.1 o.2.2.2.2.2.2.2.2.2.2.2.2.2.2.2) : wp_X9_orchard Q qI qJ rY qM bZ bD bI aI wD gF pE qA nJ nY oE tJ := by
  rw [F_X9_orchard] at hq
  refine du_X8_open h ?_
  intro h
  refine And.intro (fun c1 => ?_) (fun c1 => ?_)
  · have h := And.left h c1
    rw [if_neg c1] at hq
    refine du_X3_readLines h ?_
    intro h
    rw [j_X9_orchard_34] at hq
    unfold ws_X9_orchard_34 at h ⊢
    refine And.intro (fun c2 => ?_) (fun c2 => ?_)
    · have h := And.left h c2
      rw [if_pos c2] at hq
      rw [j_X9_orchard_54] at hq
      unfold ws_X9_orchard_54 at h ⊢
      rw [j_X9_orchard_55] at hq
      unfold ws_X9_orchard_55 at h ⊢
      refine And.intro (fun c3 => ?_) (fun c3 => ?_)
      · have h := And.left h c3
        rw [if_pos c3] at hq
        refine du_X8_wrong h ?_
        intro h
        rw [j_X9_orchard_71] at hq
        unfold ws_X9_orchard_71 at h ⊢
        refine And.intro (fun c4 => ?_) (fun c4 => ?_)
        · have h := And.left h c4
          rw [if_pos c4] at hq
          rw [j_X9_orchard_94] at hq
          unfold ws_X9_orchard_94 at h ⊢
          refine du_X8_clear h ?_
          intro h
          have q9 := hq _ rfl
          dsimp only at q9
          exact q9 h
        · have h := And.right h c4
          rw [if_neg c4] at hq
          refine And.intro (fun c5 => ?_) (fun c5 => ?_)
          · have h := And.left h c5
            rw [if_pos c5] at hq
            rw [j_X9_orchard_94] at hq
            unfold ws_X9_orchard_94 at h ⊢
            refine du_X8_clear h ?_
            intro h
            have q9 := hq _ rfl
            dsimp only at q9
            exact q9 h
          · have h := And.right h c5
            rw [if_neg c5] at hq
            refine du_X3_takeLines h ?_
            intro h
            refine du_X4_forgetAll h ?_
            intro h
            rw [j_X9_orchard_94] at hq
            unfold ws_X9_orchard_94 at h ⊢
            refine du_X8_clear h ?_
            intro h
            have q9 := hq _ rfl
            dsimp only at q9
            exact q9 h
      · have h := And.right h c3
        rw [if_neg c3] at hq
        rw [j_X9_orchard_71] at hq
        unfold ws_X9_orchard_71 at h ⊢
        refine And.intro (fun c6 => ?_) (fun c6 => ?_)
        · have h := And.left h c6
          rw [if_pos c6] at hq
          rw [j_X9_orchard_94] at hq
          unfold ws_X9_orchard_94 at h ⊢
          refine du_X8_clear h ?_
          intro h
          have q9 := hq _ rfl
          dsimp only at q9
          exact q9 h
        · have h := And.right h c6
          rw [if_neg c6] at hq
          refine And.intro (fun c7 => ?_) (fun c7 => ?_)
          · have h := And.left h c7
            rw [if_pos c7] at hq
            rw [j_X9_orchard_94] at hq
            unfold ws_X9_orchard_94 at h ⊢
            refine du_X8_clear h ?_
            intro h
            have q9 := hq _ rfl
            dsimp only at q9
            exact q9 h
          · have h := And.right h c7
            rw [if_neg c7] at hq
            refine du_X3_takeLines h ?_
            intro h
            refine du_X4_forgetAll h ?_
            intro h
            rw [j_X9_orchard_94] at hq
            unfold ws_X9_orchard_94 at h ⊢
            refine du_X8_clear h ?_
            intro h
            have q9 := hq _ rfl
            dsimp only at q9
            exact q9 h
    · have h := And.right h c2
      rw [if_neg c2] at hq
      refine du_X8_isThrough h ?_
      intro h
      refine And.intro (fun c8 => ?_) (fun c8 => ?_)
      · have h := And.left h c8
        rw [if_pos c8] at hq
        rw [j_X9_orchard_54] at hq
        unfold ws_X9_orchard_54 at h ⊢
        rw [j_X9_orchard_55] at hq
        unfold ws_X9_orchard_55 at h ⊢
        refine And.intro (fun c9 => ?_) (fun c9 => ?_)
        · have h := And.left h c9
          rw [if_pos c9] at hq
          refine du_X8_wrong h ?_
          intro h
          rw [j_X9_orchard_71] at hq
          unfold ws_X9_orchard_71 at h ⊢
          refine And.intro (fun c10 => ?_) (fun c10 => ?_)
          · have h := And.left h c10
            rw [if_pos c10] at hq
            rw [j_X9_orchard_94] at hq
            unfold ws_X9_orchard_94 at h ⊢
            refine du_X8_clear h ?_
            intro h
            have q9 := hq _ rfl
            dsimp only at q9
            exact q9 h
          · have h := And.right h c10
            rw [if_neg c10] at hq
            refine And.intro (fun c11 => ?_) (fun c11 => ?_)
            · have h := And.left h c11
              rw [if_pos c11] at hq
              rw [j_X9_orchard_94] at hq
              unfold ws_X9_orchard_94 at h ⊢
              refine du_X8_clear h ?_
              intro h
              have q9 := hq _ rfl
              dsimp only at q9
              exact q9 h
            · have h := And.right h c11
              rw [if_neg c11] at hq
              refine du_X3_takeLines h ?_
              intro h
              refine du_X4_forgetAll h ?_
              intro h
              rw [j_X9_orchard_94] at hq
              unfold ws_X9_orchard_94 at h ⊢
              refine du_X8_clear h ?_
              intro h
              have q9 := hq _ rfl
              dsimp only at q9
              exact q9 h
        · have h := And.right h c9
          rw [if_neg c9] at hq
          rw [j_X9_orchard_71] at hq
          unfold ws_X9_orchard_71 at h ⊢
          refine And.intro (fun c12 => ?_) (fun c12 => ?_)
          · have h := And.left h c12
            rw [if_pos c12] at hq
            rw [j_X9_orchard_94] at hq
            unfold ws_X9_orchard_94 at h ⊢
            refine du_X8_clear h ?_
            intro h
            have q9 := hq _ rfl
            dsimp only at q9
            exact q9 h
          · have h := And.right h c12
            rw [if_neg c12] at hq
            refine And.intro (fun c13 => ?_) (fun c13 => ?_)
            · have h := And.left h c13
              rw [if_pos c13] at hq
              rw [j_X9_orchard_94] at hq
              unfold ws_X9_orchard_94 at h ⊢
              refine du_X8_clear h ?_
              intro h
              have q9 := hq _ rfl
              dsimp only at q9
              exact q9 h
            · have h := And.right h c13
              rw [if_neg c13] at hq
              refine du_X3_takeLines h ?_
              intro h
              refine du_X4_forgetAll h ?_
              intro h
              rw [j_X9_orchard_94] at hq
              unfold ws_X9_orchard_94 at h ⊢
              refine du_X8_clear h ?_
              intro h
              have q9 := hq _ rfl
              dsimp only at q9
              exact q9 h
      · have h := And.right h c8
        rw [if_neg c8] at hq
        rw [j_X9_orchard_55] at hq
        unfold ws_X9_orchard_55 at h ⊢
        refine And.intro (fun c14 => ?_) (fun c14 => ?_)
        · have h := And.left h c14
          rw [if_pos c14] at hq
          refine du_X8_wrong h ?_
          intro h
          rw [j_X9_orchard_71] at hq
          unfold ws_X9_orchard_71 at h ⊢
          refine And.intro (fun c15 => ?_) (fun c15 => ?_)
          · have h := And.left h c15
            rw [if_pos c15] at hq
            rw [j_X9_orchard_94] at hq
            unfold ws_X9_orchard_94 at h ⊢
            refine du_X8_clear h ?_
            intro h
            have q9 := hq _ rfl
            dsimp only at q9
            exact q9 h
          · have h := And.right h c15
            rw [if_neg c15] at hq
            refine And.intro (fun c16 => ?_) (fun c16 => ?_)
            · have h := And.left h c16
              rw [if_pos c16] at hq
              rw [j_X9_orchard_94] at hq
              unfold ws_X9_orchard_94 at h ⊢
              refine du_X8_clear h ?_
              intro h
              have q9 := hq _ rfl
              dsimp only at q9
              exact q9 h
            · have h := And.right h c16
              rw [if_neg c16] at hq
              refine du_X3_takeLines h ?_
              intro h
              refine du_X4_forgetAll h ?_
              intro h
              rw [j_X9_orchard_94] at hq
              unfold ws_X9_orchard_94 at h ⊢
              refine du_X8_clear h ?_
              intro h
              have q9 := hq _ rfl
              dsimp only at q9
              exact q9 h
        · have h := And.right h c14
          rw [if_neg c14] at hq
          rw [j_X9_orchard_71] at hq
          unfold ws_X9_orchard_71 at h ⊢
          refine And.intro (fun c17 => ?_) (fun c17 => ?_)
          · have h := And.left h c17
            rw [if_pos c17] at hq
            rw [j_X9_orchard_94] at hq
            unfold ws_X9_orchard_94 at h ⊢
            refine du_X8_clear h ?_
            intro h
            have q9 := hq _ rfl
            dsimp only at q9
            exact q9 h
          · have h := And.right h c17
            rw [if_neg c17] at hq
            refine And.intro (fun c18 => ?_) (fun c18 => ?_)
            · have h := And.left h c18
              rw [if_pos c18] at hq
              rw [j_X9_orchard_94] at hq
              unfold ws_X9_orchard_94 at h ⊢
              refine du_X8_clear h ?_
              intro h
              have q9 := hq _ rfl
              dsimp only at q9
              exact q9 h
            · have h := And.right h c18
              rw [if_neg c18] at hq
              refine du_X3_takeLines h ?_
              intro h
              refine du_X4_forgetAll h ?_
              intro h
              rw [j_X9_orchard_94] at hq
              unfold ws_X9_orchard_94 at h ⊢
              refine du_X8_clear h ?_
              intro h
              have q9 := hq _ rfl
              dsimp only at q9
              exact q9 h
  · have h := And.right h c1
    rw [if_pos c1] at hq
    rw [j_X9_orchard_34] at hq
    unfold ws_X9_orchard_34 at h ⊢
    refine And.intro (fun c19 => ?_) (fun c19 => ?_)
    · have h := And.left h c19
      rw [if_pos c19] at hq
      rw [j_X9_orchard_54] at hq
      unfold ws_X9_orchard_54 at h ⊢
      rw [j_X9_orchard_55] at hq
      unfold ws_X9_orchard_55 at h ⊢
      refine And.intro (fun c20 => ?_) (fun c20 => ?_)
      · have h := And.left h c20
        rw [if_pos c20] at hq
        refine du_X8_wrong h ?_
        intro h
        rw [j_X9_orchard_71] at hq
        unfold ws_X9_orchard_71 at h ⊢
        refine And.intro (fun c21 => ?_) (fun c21 => ?_)
        · have h := And.left h c21
          rw [if_pos c21] at hq
          rw [j_X9_orchard_94] at hq
          unfold ws_X9_orchard_94 at h ⊢
          refine du_X8_clear h ?_
          intro h
          have q9 := hq _ rfl
          dsimp only at q9
          exact q9 h
        · have h := And.right h c21
          rw [if_neg c21] at hq
          refine And.intro (fun c22 => ?_) (fun c22 => ?_)
          · have h := And.left h c22
            rw [if_pos c22] at hq
            rw [j_X9_orchard_94] at hq
            unfold ws_X9_orchard_94 at h ⊢
            refine du_X8_clear h ?_
            intro h
            have q9 := hq _ rfl
            dsimp only at q9
            exact q9 h
          · have h := And.right h c22
            rw [if_neg c22] at hq
            refine du_X3_takeLines h ?_
            intro h
            refine du_X4_forgetAll h ?_
            intro h
            rw [j_X9_orchard_94] at hq
            unfold ws_X9_orchard_94 at h ⊢
            refine du_X8_clear h ?_
            intro h
            have q9 := hq _ rfl
            dsimp only at q9
            exact q9 h
      · have h := And.right h c20
        rw [if_neg c20] at hq
        rw [j_X9_orchard_71] at hq
        unfold ws_X9_orchard_71 at h ⊢
        refine And.intro (fun c23 => ?_) (fun c23 => ?_)
        · have h := And.left h c23
          rw [if_pos c23] at hq
          rw [j_X9_orchard_94] at hq
          unfold ws_X9_orchard_94 at h ⊢
          refine du_X8_clear h ?_
          intro h
          have q9 := hq _ rfl
          dsimp only at q9
          exact q9 h
        · have h := And.right h c23
          rw [if_neg c23] at hq
          refine And.intro (fun c24 => ?_) (fun c24 => ?_)
          · have h := And.left h c24
            rw [if_pos c24] at hq
            rw [j_X9_orchard_94] at hq
            unfold ws_X9_orchard_94 at h ⊢
            refine du_X8_clear h ?_
            intro h
            have q9 := hq _ rfl
            dsimp only at q9
            exact q9 h
          · have h := And.right h c24
            rw [if_neg c24] at hq
            refine du_X3_takeLines h ?_
            intro h
            refine du_X4_forgetAll h ?_
            intro h
            rw [j_X9_orchard_94] at hq
            unfold ws_X9_orchard_94 at h ⊢
            refine du_X8_clear h ?_
            intro h
            have q9 := hq _ rfl
            dsimp only at q9
            exact q9 h
    · have h := And.right h c19
      rw [if_neg c19] at hq
      refine du_X8_isThrough h ?_
      intro h
      refine And.intro (fun c25 => ?_) (fun c25 => ?_)
      · have h := And.left h c25
        rw [if_pos c25] at hq
        rw [j_X9_orchard_54] at hq
        unfold ws_X9_orchard_54 at h ⊢
        rw [j_X9_orchard_55] at hq
        unfold ws_X9_orchard_55 at h ⊢
        refine And.intro (fun c26 => ?_) (fun c26 => ?_)
        · have h := And.left h c26
          rw [if_pos c26] at hq
          refine du_X8_wrong h ?_
          intro h
          rw [j_X9_orchard_71] at hq
          unfold ws_X9_orchard_71 at h ⊢
          refine And.intro (fun c27 => ?_) (fun c27 => ?_)
          · have h := And.left h c27
            rw [if_pos c27] at hq
            rw [j_X9_orchard_94] at hq
            unfold ws_X9_orchard_94 at h ⊢
            refine du_X8_clear h ?_
            intro h
            have q9 := hq _ rfl
            dsimp only at q9
            exact q9 h
          · have h := And.right h c27
            rw [if_neg c27] at hq
            refine And.intro (fun c28 => ?_) (fun c28 => ?_)
            · have h := And.left h c28
              rw [if_pos c28] at hq
              rw [j_X9_orchard_94] at hq
              unfold ws_X9_orchard_94 at h ⊢
              refine du_X8_clear h ?_
              intro h
              have q9 := hq _ rfl
              dsimp only at q9
              exact q9 h
            · have h := And.right h c28
              rw [if_neg c28] at hq
              refine du_X3_takeLines h ?_
              intro h
              refine du_X4_forgetAll h ?_
              intro h
              rw [j_X9_orchard_94] at hq
              unfold ws_X9_orchard_94 at h ⊢
              refine du_X8_clear h ?_
              intro h
              have q9 := hq _ rfl
              dsimp only at q9
              exact q9 h
        · have h := And.right h c26
          rw [if_neg c26] at hq
          rw [j_X9_orchard_71] at hq
          unfold ws_X9_orchard_71 at h ⊢
          refine And.intro (fun c29 => ?_) (fun c29 => ?_)
          · have h := And.left h c29
            rw [if_pos c29] at hq
            rw [j_X9_orchard_94] at hq
            unfold ws_X9_orchard_94 at h ⊢
            refine du_X8_clear h ?_
            intro h
            have q9 := hq _ rfl
            dsimp only at q9
            exact q9 h
          · have h := And.right h c29
            rw [if_neg c29] at hq
            refine And.intro (fun c30 => ?_) (fun c30 => ?_)
            · have h := And.left h c30
              rw [if_pos c30] at hq
              rw [j_X9_orchard_94] at hq
              unfold ws_X9_orchard_94 at h ⊢
              refine du_X8_clear h ?_
              intro h
              have q9 := hq _ rfl
              dsimp only at q9
              exact q9 h
            · have h := And.right h c30
              rw [if_neg c30] at hq
              refine du_X3_takeLines h ?_
              intro h
              refine du_X4_forgetAll h ?_
              intro h
              rw [j_X9_orchard_94] at hq
              unfold ws_X9_orchard_94 at h ⊢
              refine du_X8_clear h ?_
              intro h
              have q9 := hq _ rfl
              dsimp only at q9
              exact q9 h
      · have h := And.right h c25
        rw [if_neg c25] at hq
        rw [j_X9_orchard_55] at hq
        unfold ws_X9_orchard_55 at h ⊢
        refine And.intro (fun c31 => ?_) (fun c31 => ?_)
        · have h := And.left h c31
          rw [if_pos c31] at hq
          refine du_X8_wrong h ?_
          intro h
          rw [j_X9_orchard_71] at hq
          unfold ws_X9_orchard_71 at h ⊢
          refine And.intro (fun c32 => ?_) (fun c32 => ?_)
          · have h := And.left h c32
            rw [if_pos c32] at hq
            rw [j_X9_orchard_94] at hq
            unfold ws_X9_orchard_94 at h ⊢
            refine du_X8_clear h ?_
            intro h
            have q9 := hq _ rfl
            dsimp only at q9
            exact q9 h
          · have h := And.right h c32
            rw [if_neg c32] at hq
            refine And.intro (fun c33 => ?_) (fun c33 => ?_)
            · have h := And.left h c33
              rw [if_pos c33] at hq
              rw [j_X9_orchard_94] at hq
              unfold ws_X9_orchard_94 at h ⊢
              refine du_X8_clear h ?_
              intro h
              have q9 := hq _ rfl
              dsimp only at q9
              exact q9 h
            · have h := And.right h c33
              rw [if_neg c33] at hq
              refine du_X3_takeLines h ?_
              intro h
              refine du_X4_forgetAll h ?_
              intro h
              rw [j_X9_orchard_94] at hq
              unfold ws_X9_orchard_94 at h ⊢
              refine du_X8_clear h ?_
              intro h
              have q9 := hq _ rfl
              dsimp only at q9
              exact q9 h
        · have h := And.right h c31
          rw [if_neg c31] at hq
          rw [j_X9_orchard_71] at hq
          unfold ws_X9_orchard_71 at h ⊢
          refine And.intro (fun c34 => ?_) (fun c34 => ?_)
          · have h := And.left h c34
            rw [if_pos c34] at hq
            rw [j_X9_orchard_94] at hq
            unfold ws_X9_orchard_94 at h ⊢
            refine du_X8_clear h ?_
            intro h
            have q9 := hq _ rfl
            dsimp only at q9
            exact q9 h
          · have h := And.right h c34
            rw [if_neg c34] at hq
            refine And.intro (fun c35 => ?_) (fun c35 => ?_)
            · have h := And.left h c35
              rw [if_pos c35] at hq
              rw [j_X9_orchard_94] at hq
              unfold ws_X9_orchard_94 at h ⊢
              refine du_X8_clear h ?_
              intro h
              have q9 := hq _ rfl
              dsimp only at q9
              exact q9 h
            · have h := And.right h c35
              rw [if_neg c35] at hq
              refine du_X3_takeLines h ?_
              intro h
              refine du_X4_forgetAll h ?_
              intro h
              rw [j_X9_orchard_94] at hq
              unfold ws_X9_orchard_94 at h ⊢
              refine du_X8_clear h ?_
              intro h
              have q9 := hq _ rfl
              dsimp only at q9
              exact q9 h
theorem du_X9_orchard {P Q : Int32 → Int32 → Int32 → Int32 → Int32 → Int32 → Int32 → Int32 → (Nat → Int32) → (Nat → Int32) → (Nat → Int32) → (Nat → Int32) → (Nat → Int32) → (Nat → Int32) → Int32 → (Nat → Int32) → Prop} {qI qJ rY : Int32} {qM : Nat → Int32} {bZ bD bI aI : Int32} {wD gF pE qA nJ nY : Nat → Int32} {oE : Int32} {tJ : Nat → Int32} (h : wp_X9_orchard P qI qJ rY qM bZ bD bI aI wD gF pE qA nJ nY oE tJ) (hq : P (F_X9_orchard qI qJ rY qM bZ bD bI aI wD gF pE qA nJ nY oE tJ).1 (F_X9_orchard qI qJ rY qM bZ bD bI aI wD gF pE qA nJ nY oE tJ).2.1 (F_X9_orchard qI qJ rY qM bZ bD bI aI wD gF pE qA nJ nY oE tJ).2.2.1 (F_X9_orchard qI qJ rY qM bZ bD bI aI wD gF pE qA nJ nY oE tJ).2.2.2.1 (F_X9_orchard qI qJ rY qM bZ bD bI aI wD gF pE qA nJ nY oE tJ).2.2.2.2.1 (F_X9_orchard qI qJ rY qM bZ bD bI aI wD gF pE qA nJ nY oE tJ).2.2.2.2.2.1 (F_X9_orchard qI qJ rY qM bZ bD bI aI wD gF pE qA nJ nY oE tJ).2.2.2.2.2.2.1 (F_X9_orchard qI qJ rY qM bZ bD bI aI wD gF pE qA nJ nY oE tJ).2.2.2.2.2.2.2.1 (F_X9_orchard qI qJ rY qM bZ bD bI aI wD gF pE qA nJ nY oE tJ).2.2.2.2.2.2.2.2.1 (F_X9_orchard qI qJ rY qM bZ bD bI aI wD gF pE qA nJ nY oE tJ).2.2.2.2.2.2.2.2.2.1 (F_X9_orchard qI qJ rY qM bZ bD bI aI wD gF pE qA nJ nY oE tJ).2.2.2.2.2.2.2.2.2.2.1 (F_X9_orchard qI qJ rY qM bZ bD bI aI wD gF pE qA nJ nY oE tJ).2.2.2.2.2.2.2.2.2.2.2.1 (F_X9_orchard qI qJ rY qM bZ bD bI aI wD gF pE qA nJ nY oE tJ).2.2.2.2.2.2.2.2.2.2.2.2.1 (F_X9_orchard qI qJ rY qM bZ bD bI aI wD gF pE qA nJ nY oE tJ).2.2.2.2.2.2.2.2.2.2.2.2.2.1 (F_X9_orchard qI qJ rY qM bZ bD bI aI wD gF pE qA nJ nY oE tJ).2.2.2.2.2.2.2.2.2.2.2.2.2.2.1 (F_X9_orchard qI qJ rY qM bZ bD bI aI wD gF pE qA nJ nY oE tJ).2.2.2.2.2.2.2.2.2.2.2.2.2.2.2 → Q (F_X9_orchard qI qJ rY qM bZ bD bI aI wD gF pE qA nJ nY oE tJ).1 (F_X9_orchard qI qJ rY qM bZ bD bI aI wD gF pE qA nJ nY oE tJ).2.1 (F_X9_orchard qI qJ rY qM bZ bD bI aI wD gF pE qA nJ nY oE tJ).2.2.1 (F_X9_orchard qI qJ rY qM bZ bD bI aI wD gF pE qA nJ nY oE tJ).2.2.2.1 (F_X9_orchard qI qJ rY qM bZ bD bI aI wD gF pE qA nJ nY oE tJ).2.2.2.2.1 (F_X9_orchard qI qJ rY qM bZ bD bI aI wD gF pE qA nJ nY oE tJ).2.2.2.2.2.1 (F_X9_orchard qI qJ rY qM bZ bD bI aI wD gF pE qA nJ nY oE tJ).2.2.2.2.2.2.1 (F_X9_orchard qI qJ rY qM bZ bD bI aI wD gF pE qA nJ nY oE tJ).2.2.2.2.2.2.2.1 (F_X9_orchard qI qJ rY qM bZ bD bI aI wD gF pE qA nJ nY oE tJ).2.2.2.2.2.2.2.2.1 (F_X9_orchard qI qJ rY qM bZ bD bI aI wD gF pE qA nJ nY oE tJ).2.2.2.2.2.2.2.2.2.1 (F_X9_orchard qI qJ rY qM bZ bD bI aI wD gF pE qA nJ nY oE tJ).2.2.2.2.2.2.2.2.2.2.1 (F_X9_orchard qI qJ rY qM bZ bD bI aI wD gF pE qA nJ nY oE tJ).2.2.2.2.2.2.2.2.2.2.2.1 (F_X9_orchard qI qJ rY qM bZ bD bI aI wD gF pE qA nJ nY oE tJ).2.2.2.2.2.2.2.2.2.2.2.2.1 (F_X9_orchard qI qJ rY qM bZ bD bI aI wD gF pE qA nJ nY oE tJ).2.2.2.2.2.2.2.2.2.2.2.2.2.1 (F_X9_orchard qI qJ rY qM bZ bD bI aI wD gF pE qA nJ nY oE tJ).2.2.2.2.2.2.2.2.2.2.2.2.2.2.1 (F_X9_orchard qI qJ rY qM bZ bD bI aI wD gF pE qA nJ nY oE tJ).2.2.2.2.2.2.2.2.2.2.2.2.2.2.2) : wp_X9_orchard Q qI qJ rY qM bZ bD bI aI wD gF pE qA nJ nY oE tJ := dt_X9_orchard h (fun o eo => by rw [eo]; exact hq)
theorem dw_X9_orchard {Q : Int32 → Int32 → Int32 → Int32 → Int32 → Int32 → Int32 → Int32 → (Nat → Int32) → (Nat → Int32) → (Nat → Int32) → (Nat → Int32) → (Nat → Int32) → (Nat → Int32) → Int32 → (Nat → Int32) → Prop} {qI qJ rY : Int32} {qM : Nat → Int32} {bZ bD bI aI : Int32} {wD gF pE qA nJ nY : Nat → Int32} {oE : Int32} {tJ : Nat → Int32} (h : wp_X9_orchard (fun o0 o1 o2 o3 o4 o5 o6 o7 o8 o9 o10 o11 o12 o13 o14 o15 => (o0, o1, o2, o3, o4, o5, o6, o7, o8, o9, o10, o11, o12, o13, o14, o15) = F_X9_orchard qI qJ rY qM bZ bD bI aI wD gF pE qA nJ nY oE tJ → Q o0 o1 o2 o3 o4 o5 o6 o7 o8 o9 o10 o11 o12 o13 o14 o15) qI qJ rY qM bZ bD bI aI wD gF pE qA nJ nY oE tJ) : wp_X9_orchard Q qI qJ rY qM bZ bD bI aI wD gF pE qA nJ nY oE tJ := dt_X9_orchard h (fun o eo hp => hp eo)
noncomputable def F_X10_here (jY : Nat) (m_length qG uW : Int32) (rG rQ : Nat → Int32) : Int32 := if m_length ≤ uW then (-1) else (if qG ≤ uW then (-1) else (if jY = 1 then ((rG uW.toNatClampNeg) &&& 255) else ((rQ uW.toNatClampNeg) &&& 255)))
set_option maxHeartbeats 200000 in
set_option maxRecDepth 10000 in
theorem dt_X10_here {P Q : Int32 → Prop} {jY : Nat} {m_length qG uW : Int32} {rG rQ : Nat → Int32} (h : wp_X10_here P jY m_length qG uW rG rQ) (hq : ∀ o : Int32, o = F_X10_here jY m_length qG uW rG rQ → P o → Q o) : wp_X10_here Q jY m_length qG uW rG rQ := by
  rw [F_X10_here] at hq
  refine And.intro (fun c1 => ?_) (fun c1 => ?_)
  · have h := And.left h c1
    rw [if_pos c1] at hq
    have q9 := hq _ rfl
    exact q9 h
  · have h := And.right h c1
    rw [if_neg c1] at hq
    refine And.intro (fun c2 => ?_) (fun c2 => ?_)
    · have h := And.left h c2
      rw [if_pos c2] at hq
      have q9 := hq _ rfl
      exact q9 h
    · have h := And.right h c2
      rw [if_neg c2] at hq
      rcases h with ⟨hr9, hv9, h⟩ | ⟨hr9, hv9, h⟩
      · refine Or.inl ⟨hr9, hv9, ?_⟩
        rw [if_pos hr9] at hq
        refine ae ?_
        have h := h _ rfl
        refine ae ?_
        have h := h _ rfl
        have q9 := hq _ rfl
        exact q9 h
      · refine Or.inr ⟨hr9, hv9, ?_⟩
        rw [if_neg (by rw [hr9]; decide)] at hq
        refine ae ?_
        have h := h _ rfl
        refine ae ?_
        have h := h _ rfl
        have q9 := hq _ rfl
        exact q9 h
theorem du_X10_here {P Q : Int32 → Prop} {jY : Nat} {m_length qG uW : Int32} {rG rQ : Nat → Int32} (h : wp_X10_here P jY m_length qG uW rG rQ) (hq : P (F_X10_here jY m_length qG uW rG rQ) → Q (F_X10_here jY m_length qG uW rG rQ)) : wp_X10_here Q jY m_length qG uW rG rQ := dt_X10_here h (fun o eo => by rw [eo]; exact hq)
theorem dw_X10_here {Q : Int32 → Prop} {jY : Nat} {m_length qG uW : Int32} {rG rQ : Nat → Int32} (h : wp_X10_here (fun o0 => o0 = F_X10_here jY m_length qG uW rG rQ → Q o0) jY m_length qG uW rG rQ) : wp_X10_here Q jY m_length qG uW rG rQ := dt_X10_here h (fun o eo hp => hp eo)
noncomputable def F_X10_fine (eY : Int32) : Int32 := if eY = (-1) then 1 else 0
set_option maxHeartbeats 200000 in
set_option maxRecDepth 10000 in
theorem dt_X10_fine {P Q : Int32 → Prop} {eY : Int32} (h : wp_X10_fine P eY) (hq : ∀ o : Int32, o = F_X10_fine eY → P o → Q o) : wp_X10_fine Q eY := by
  rw [F_X10_fine] at hq
  refine And.intro (fun c1 => ?_) (fun c1 => ?_)
  · have h := And.left h c1
    rw [if_neg c1] at hq
    have q9 := hq _ rfl
    exact q9 h
  · have h := And.right h c1
    rw [if_pos c1] at hq
    have q9 := hq _ rfl
    exact q9 h
theorem du_X10_fine {P Q : Int32 → Prop} {eY : Int32} (h : wp_X10_fine P eY) (hq : P (F_X10_fine eY) → Q (F_X10_fine eY)) : wp_X10_fine Q eY := dt_X10_fine h (fun o eo => by rw [eo]; exact hq)
theorem dw_X10_fine {Q : Int32 → Prop} {eY : Int32} (h : wp_X10_fine (fun o0 => o0 = F_X10_fine eY → Q o0) eY) : wp_X10_fine Q eY := dt_X10_fine h (fun o eo hp => hp eo)
noncomputable def F_X10_fault (p0 eY : Int32) : Int32 := if (F_X10_fine eY) = 0 then eY else p0
set_option maxHeartbeats 200000 in
set_option maxRecDepth 10000 in
theorem dt_X10_fault {P Q : Int32 → Prop} {p0 eY : Int32} (h : wp_X10_fault P p0 eY) (hq : ∀ o : Int32, o = F_X10_fault p0 eY → P o → Q o) : wp_X10_fault Q p0 eY := by
  rw [F_X10_fault] at hq
  refine du_X10_fine h ?_
  intro h
  refine And.intro (fun c1 => ?_) (fun c1 => ?_)
  · have h := And.left h c1
    rw [if_pos c1] at hq
    have q9 := hq _ rfl
    exact q9 h
  · have h := And.right h c1
    rw [if_neg c1] at hq
    have q9 := hq _ rfl
    exact q9 h
theorem du_X10_fault {P Q : Int32 → Prop} {p0 eY : Int32} (h : wp_X10_fault P p0 eY) (hq : P (F_X10_fault p0 eY) → Q (F_X10_fault p0 eY)) : wp_X10_fault Q p0 eY := dt_X10_fault h (fun o eo => by rw [eo]; exact hq)
theorem dw_X10_fault {Q : Int32 → Prop} {p0 eY : Int32} (h : wp_X10_fault (fun o0 => o0 = F_X10_fault p0 eY → Q o0) p0 eY) : wp_X10_fault Q p0 eY := dt_X10_fault h (fun o eo hp => hp eo)
noncomputable def F_X10_in (p0 p1 p2 : Int32) : Int32 := if p0 < p1 then 0 else (if p2 < p0 then 0 else 1)
set_option maxHeartbeats 200000 in
set_option maxRecDepth 10000 in
theorem dt_X10_in {P Q : Int32 → Prop} {p0 p1 p2 : Int32} (h : wp_X10_in P p0 p1 p2) (hq : ∀ o : Int32, o = F_X10_in p0 p1 p2 → P o → Q o) : wp_X10_in Q p0 p1 p2 := by
  rw [F_X10_in] at hq
  refine And.intro (fun c1 => ?_) (fun c1 => ?_)
  · have h := And.left h c1
    rw [if_pos c1] at hq
    have q9 := hq _ rfl
    exact q9 h
  · have h := And.right h c1
    rw [if_neg c1] at hq
    refine And.intro (fun c2 => ?_) (fun c2 => ?_)
    · have h := And.left h c2
      rw [if_pos c2] at hq
      have q9 := hq _ rfl
      exact q9 h
    · have h := And.right h c2
      rw [if_neg c2] at hq
      have q9 := hq _ rfl
      exact q9 h
theorem du_X10_in {P Q : Int32 → Prop} {p0 p1 p2 : Int32} (h : wp_X10_in P p0 p1 p2) (hq : P (F_X10_in p0 p1 p2) → Q (F_X10_in p0 p1 p2)) : wp_X10_in Q p0 p1 p2 := dt_X10_in h (fun o eo => by rw [eo]; exact hq)
theorem dw_X10_in {Q : Int32 → Prop} {p0 p1 p2 : Int32} (h : wp_X10_in (fun o0 => o0 = F_X10_in p0 p1 p2 → Q o0) p0 p1 p2) : wp_X10_in Q p0 p1 p2 := dt_X10_in h (fun o eo hp => hp eo)
theorem in_hi {v a b : Int32} (h : ¬ F_X10_in v a b = 0) : Int32.toInt v ≤ Int32.toInt b := by
  rw [F_X10_in] at h
  by_cases h1 : v < a
  · rw [if_pos h1] at h
    exact absurd rfl h
  · rw [if_neg h1] at h
    by_cases h2 : b < v
    · rw [if_pos h2] at h
      exact absurd rfl h
    · have q := mt (fa_lt b v).mpr h2
      omega
theorem in30 {v a : Int32} (h : ¬ F_X10_in v a 30 = 0) : Int32.toInt v < 2147483647 := by
  have l : Int32.toInt (30 : Int32) = 30 := by decide
  have q := in_hi h
  omega
noncomputable def j_X10_number_66 {R : Type} (po : Int32 → Int32 → Int32 → R) (jY : Nat) (m_length qG : Int32) (rG rQ : Nat → Int32) (x2 x3 uW eY : Int32) : R := if uW = x2 then (po x3 uW (F_X10_fault uW eY)) else (po x3 uW eY)
noncomputable def fs_X10_number_16 {R : Type} (po : Int32 → Int32 → Int32 → R) (jY : Nat) (m_length qG : Int32) (rG rQ : Nat → Int32) (nx : Int32 → Int32 → Int32 → Int32 → Int32 → R) (x1 x2 x3 uW eY : Int32) : R := if (x2 + x1) ≤ uW then (j_X10_number_66 po jY m_length qG rG rQ x2 x3 uW eY) else (if (F_X10_in (F_X10_here jY m_length qG uW rG rQ) 48 57) = 0 then (j_X10_number_66 po jY m_length qG rG rQ x2 x3 uW eY) else (nx x1 x2 (((10 * x3) + (F_X10_here jY m_length qG uW rG rQ)) - 48) (uW + 1) eY))
set_option maxHeartbeats 200000 in
set_option maxRecDepth 10000 in
theorem dl_X10_number_16 {P Q : Int32 → Int32 → Int32 → Prop} {jY : Nat} {m_length qG : Int32} {rG rQ : Nat → Int32} {R : Type} {po : Int32 → Int32 → Int32 → R} {d : Int32 → Int32 → Int32 → Int32 → Int32 → R} : ∀ (n m : Nat) (x1 x2 x3 uW eY : Int32), True → (((Int32.toInt (x2 + x1) - Int32.toInt uW).toNat : Nat) : Int) < (m : Int) → wb_X10_number_16 P jY m_length qG rG rQ n x1 x2 x3 uW eY → (∀ (b0 b1 b2 : Int32), po b0 b1 b2 = flp (fs_X10_number_16 po jY m_length qG rG rQ) d m x1 x2 x3 uW eY → P b0 b1 b2 → Q b0 b1 b2) → wb_X10_number_16 Q jY m_length qG rG rQ n x1 x2 x3 uW eY := by
  have l1 : Int32.toInt (1 : Int32) = 1 := by decide
  intro n
  induction n with
  | zero => intro m x1 x2 x3 uW eY hv hm h hq; exact False.elim h
  | succ n ih =>
    intro m x1 x2 x3 uW eY hv hm h hq
    cases m with
    | zero => exfalso; omega
    | succ m =>
      rw [flp_s, fs_X10_number_16] at hq
      have h : ws_X10_number_16 P (wb_X10_number_16 P jY m_length qG rG rQ n) jY m_length qG rG rQ x1 x2 x3 uW eY := h
      show ws_X10_number_16 Q (wb_X10_number_16 Q jY m_length qG rG rQ n) jY m_length qG rG rQ x1 x2 x3 uW eY
      unfold ws_X10_number_16 at h ⊢
      refine And.intro (fun c1 => ?_) (fun c1 => ?_)
      · have h := And.left h c1
        rw [if_pos c1] at hq
        have dc1 := (fa_le _ _).mp c1
        rw [j_X10_number_66] at hq
        unfold ws_X10_number_66 at h ⊢
        refine And.intro (fun c2 => ?_) (fun c2 => ?_)
        · have h := And.left h c2
          rw [if_neg c2] at hq
          have dc2 := mt (fa_eq _ _).mpr c2
          exact hq _ _ _ rfl h
        · have h := And.right h c2
          rw [if_pos c2] at hq
          have dc2 := (fa_eq _ _).mp c2
          refine du_X10_fault h ?_
          intro h
          exact hq _ _ _ rfl h
      · have h := And.right h c1
        rw [if_neg c1] at hq
        have dc1 := mt (fa_le _ _).mpr c1
        refine du_X10_here h ?_
        intro h
        refine du_X10_in h ?_
        intro h
        refine And.intro (fun c3 => ?_) (fun c3 => ?_)
        · have h := And.left h c3
          rw [if_pos c3] at hq
          have dc3 := (fa_eq _ _).mp c3
          rw [j_X10_number_66] at hq
          unfold ws_X10_number_66 at h ⊢
          refine And.intro (fun c4 => ?_) (fun c4 => ?_)
          · have h := And.left h c4
            rw [if_neg c4] at hq
            have dc4 := mt (fa_eq _ _).mpr c4
            exact hq _ _ _ rfl h
          · have h := And.right h c4
            rw [if_pos c4] at hq
            have dc4 := (fa_eq _ _).mp c4
            refine du_X10_fault h ?_
            intro h
            exact hq _ _ _ rfl h
        · have h := And.right h c3
          rw [if_neg c3] at hq
          have dc3 := mt (fa_eq _ _).mpr c3
          refine ae ?_
          have h := h _ rfl
          refine du_X10_here h ?_
          intro h
          refine ae ?_
          have h := h _ rfl
          refine ae ?_
          have h := h _ rfl
          refine ae ?_
          have h := h _ rfl
          have r9 := tp_r (x2 + x1)
          have r8 := tp_r uW
          have f9 := ta_add uW 1 (by omega)
          exact ih m _ _ _ _ _ trivial (by omega) h hq
noncomputable def F_X10_number (p0 : Int32) (jY : Nat) (m_length qG uW eY : Int32) (rG rQ : Nat → Int32) : Int32 × Int32 × Int32 := if (F_X10_fine eY) = 0 then (0, uW, eY) else (flp (fs_X10_number_16 (fun o0 o1 o2 => (o0, o1, o2)) jY m_length qG rG rQ) (fun _ _ _ _ _ => (0, 0, 0)) 4 p0 uW 0 uW eY)
set_option maxHeartbeats 200000 in
set_option maxRecDepth 10000 in
theorem dt_X10_number {P Q : Int32 → Int32 → Int32 → Prop} {p0 : Int32} {jY : Nat} {m_length qG uW eY : Int32} {rG rQ : Nat → Int32} (hy0 : 0 ≤ Int32.toInt p0 ∧ Int32.toInt p0 ≤ 3) (h : wp_X10_number P p0 jY m_length qG uW eY rG rQ) (hq : ∀ o : Int32 × Int32 × Int32, o = F_X10_number p0 jY m_length qG uW eY rG rQ → P o.1 o.2.1 o.2.2 → Q o.1 o.2.1 o.2.2) : wp_X10_number Q p0 jY m_length qG uW eY rG rQ := by
  rw [F_X10_number] at hq
  refine du_X10_fine h ?_
  intro h
  refine And.intro (fun c1 => ?_) (fun c1 => ?_)
  · have h := And.left h c1
    rw [if_neg c1] at hq
    obtain ⟨n2, h⟩ := h
    exact ⟨n2, dl_X10_number_16 n2 4 _ _ _ _ _ trivial (ad_lt hy0) h (fun b0 b1 b2 e9 h9 => hq (b0, b1, b2) e9 h9)⟩
  · have h := And.right h c1
    rw [if_pos c1] at hq
    have q9 := hq _ rfl
    dsimp only at q9
    exact q9 h
theorem du_X10_number {P Q : Int32 → Int32 → Int32 → Prop} {p0 : Int32} {jY : Nat} {m_length qG uW eY : Int32} {rG rQ : Nat → Int32} (hy0 : 0 ≤ Int32.toInt p0 ∧ Int32.toInt p0 ≤ 3) (h : wp_X10_number P p0 jY m_length qG uW eY rG rQ) (hq : P (F_X10_number p0 jY m_length qG uW eY rG rQ).1 (F_X10_number p0 jY m_length qG uW eY rG rQ).2.1 (F_X10_number p0 jY m_length qG uW eY rG rQ).2.2 → Q (F_X10_number p0 jY m_length qG uW eY rG rQ).1 (F_X10_number p0 jY m_length qG uW eY rG rQ).2.1 (F_X10_number p0 jY m_length qG uW eY rG rQ).2.2) : wp_X10_number Q p0 jY m_length qG uW eY rG rQ := dt_X10_number hy0 h (fun o eo => by rw [eo]; exact hq)
theorem dw_X10_number {Q : Int32 → Int32 → Int32 → Prop} {p0 : Int32} {jY : Nat} {m_length qG uW eY : Int32} {rG rQ : Nat → Int32} (hy0 : 0 ≤ Int32.toInt p0 ∧ Int32.toInt p0 ≤ 3) (h : wp_X10_number (fun o0 o1 o2 => (o0, o1, o2) = F_X10_number p0 jY m_length qG uW eY rG rQ → Q o0 o1 o2) p0 jY m_length qG uW eY rG rQ) : wp_X10_number Q p0 jY m_length qG uW eY rG rQ := dt_X10_number hy0 h (fun o eo hp => hp eo)
noncomputable def F_X10_passes (p0 : Int32) (jY : Nat) (m_length qG uW eY : Int32) (rG rQ : Nat → Int32) : Int32 × Int32 := if (F_X10_fine eY) = 0 then (0, uW) else (if (F_X10_here jY m_length qG uW rG rQ) = p0 then (1, (uW + 1)) else (0, uW))
set_option maxHeartbeats 200000 in
set_option maxRecDepth 10000 in
theorem dt_X10_passes {P Q : Int32 → Int32 → Prop} {p0 : Int32} {jY : Nat} {m_length qG uW eY : Int32} {rG rQ : Nat → Int32} (h : wp_X10_passes P p0 jY m_length qG uW eY rG rQ) (hq : ∀ o : Int32 × Int32, o = F_X10_passes p0 jY m_length qG uW eY rG rQ → P o.1 o.2 → Q o.1 o.2) : wp_X10_passes Q p0 jY m_length qG uW eY rG rQ := by
  rw [F_X10_passes] at hq
  refine du_X10_fine h ?_
  intro h
  refine And.intro (fun c1 => ?_) (fun c1 => ?_)
  · have h := And.left h c1
    rw [if_pos c1] at hq
    have q9 := hq _ rfl
    dsimp only at q9
    exact q9 h
  · have h := And.right h c1
    rw [if_neg c1] at hq
    refine du_X10_here h ?_
    intro h
    refine And.intro (fun c2 => ?_) (fun c2 => ?_)
    · have h := And.left h c2
      rw [if_pos c2] at hq
      refine ae ?_
      have h := h _ rfl
      have q9 := hq _ rfl
      dsimp only at q9
      exact q9 h
    · have h := And.right h c2
      rw [if_neg c2] at hq
      have q9 := hq _ rfl
      dsimp only at q9
      exact q9 h
theorem du_X10_passes {P Q : Int32 → Int32 → Prop} {p0 : Int32} {jY : Nat} {m_length qG uW eY : Int32} {rG rQ : Nat → Int32} (h : wp_X10_passes P p0 jY m_length qG uW eY rG rQ) (hq : P (F_X10_passes p0 jY m_length qG uW eY rG rQ).1 (F_X10_passes p0 jY m_length qG uW eY rG rQ).2 → Q (F_X10_passes p0 jY m_length qG uW eY rG rQ).1 (F_X10_passes p0 jY m_length qG uW eY rG rQ).2) : wp_X10_passes Q p0 jY m_length qG uW eY rG rQ := dt_X10_passes h (fun o eo => by rw [eo]; exact hq)
theorem dw_X10_passes {Q : Int32 → Int32 → Prop} {p0 : Int32} {jY : Nat} {m_length qG uW eY : Int32} {rG rQ : Nat → Int32} (h : wp_X10_passes (fun o0 o1 => (o0, o1) = F_X10_passes p0 jY m_length qG uW eY rG rQ → Q o0 o1) p0 jY m_length qG uW eY rG rQ) : wp_X10_passes Q p0 jY m_length qG uW eY rG rQ := dt_X10_passes h (fun o eo hp => hp eo)
noncomputable def F_X10_need (p0 : Int32) (jY : Nat) (m_length qG uW eY : Int32) (rG rQ : Nat → Int32) : Int32 × Int32 := if (F_X10_passes p0 jY m_length qG uW eY rG rQ).1 = 0 then ((F_X10_passes p0 jY m_length qG uW eY rG rQ).2, (F_X10_fault (F_X10_passes p0 jY m_length qG uW eY rG rQ).2 eY)) else ((F_X10_passes p0 jY m_length qG uW eY rG rQ).2, eY)
set_option maxHeartbeats 200000 in
set_option maxRecDepth 10000 in
theorem dt_X10_need {P Q : Int32 → Int32 → Prop} {p0 : Int32} {jY : Nat} {m_length qG uW eY : Int32} {rG rQ : Nat → Int32} (h : wp_X10_need P p0 jY m_length qG uW eY rG rQ) (hq : ∀ o : Int32 × Int32, o = F_X10_need p0 jY m_length qG uW eY rG rQ → P o.1 o.2 → Q o.1 o.2) : wp_X10_need Q p0 jY m_length qG uW eY rG rQ := by
  rw [F_X10_need] at hq
  refine du_X10_passes h ?_
  intro h
  refine And.intro (fun c1 => ?_) (fun c1 => ?_)
  · have h := And.left h c1
    rw [if_neg c1] at hq
    have q9 := hq _ rfl
    dsimp only at q9
    exact q9 h
  · have h := And.right h c1
    rw [if_pos c1] at hq
    refine du_X10_fault h ?_
    intro h
    have q9 := hq _ rfl
    dsimp only at q9
    exact q9 h
theorem du_X10_need {P Q : Int32 → Int32 → Prop} {p0 : Int32} {jY : Nat} {m_length qG uW eY : Int32} {rG rQ : Nat → Int32} (h : wp_X10_need P p0 jY m_length qG uW eY rG rQ) (hq : P (F_X10_need p0 jY m_length qG uW eY rG rQ).1 (F_X10_need p0 jY m_length qG uW eY rG rQ).2 → Q (F_X10_need p0 jY m_length qG uW eY rG rQ).1 (F_X10_need p0 jY m_length qG uW eY rG rQ).2) : wp_X10_need Q p0 jY m_length qG uW eY rG rQ := dt_X10_need h (fun o eo => by rw [eo]; exact hq)
theorem dw_X10_need {Q : Int32 → Int32 → Prop} {p0 : Int32} {jY : Nat} {m_length qG uW eY : Int32} {rG rQ : Nat → Int32} (h : wp_X10_need (fun o0 o1 => (o0, o1) = F_X10_need p0 jY m_length qG uW eY rG rQ → Q o0 o1) p0 jY m_length qG uW eY rG rQ) : wp_X10_need Q p0 jY m_length qG uW eY rG rQ := dt_X10_need h (fun o eo hp => hp eo)
noncomputable def j_X10_readLine_218 {R : Type} (po : Int32 → Int32 → Int32 → Int32 → (Nat → Int32) → (Nat → Int32) → R) (bW aG : Int32) (jY : Nat) (m_length qG : Int32) (rG rQ : Nat → Int32) (uW eY aJ aB : Int32) (qL pL : Nat → Int32) : R := po uW (F_X10_fault uW eY) aJ aB qL pL
noncomputable def j_X10_readLine_135 {R : Type} (po : Int32 → Int32 → Int32 → Int32 → (Nat → Int32) → (Nat → Int32) → R) (bW aG : Int32) (jY : Nat) (m_length qG : Int32) (rG rQ : Nat → Int32) (uW eY aJ aB : Int32) (qL pL : Nat → Int32) : R := if (F_X10_here jY m_length qG uW rG rQ) = 115 then (if 8 ≤ (aG + aB) then (j_X10_readLine_218 po bW aG jY m_length qG rG rQ uW eY aJ aB qL pL) else (po ((F_X10_number 2 jY m_length qG (F_X10_need 44 jY m_length qG (F_X10_number 2 jY m_length qG (uW + 1) eY rG rQ).2.1 (F_X10_number 2 jY m_length qG (uW + 1) eY rG rQ).2.2 rG rQ).1 (F_X10_need 44 jY m_length qG (F_X10_number 2 jY m_length qG (uW + 1) eY rG rQ).2.1 (F_X10_number 2 jY m_length qG (uW + 1) eY rG rQ).2.2 rG rQ).2 rG rQ).2.1) ((F_X10_number 2 jY m_length qG (F_X10_need 44 jY m_length qG (F_X10_number 2 jY m_length qG (uW + 1) eY rG rQ).2.1 (F_X10_number 2 jY m_length qG (uW + 1) eY rG rQ).2.2 rG rQ).1 (F_X10_need 44 jY m_length qG (F_X10_number 2 jY m_length qG (uW + 1) eY rG rQ).2.1 (F_X10_number 2 jY m_length qG (uW + 1) eY rG rQ).2.2 rG rQ).2 rG rQ).2.2) aJ (aB + 1) qL (upd (upd pL (2 * aB).toNatClampNeg (F_X10_number 2 jY m_length qG (uW + 1) eY rG rQ).1) ((2 * aB) + 1).toNatClampNeg (F_X10_number 2 jY m_length qG (F_X10_need 44 jY m_length qG (F_X10_number 2 jY m_length qG (uW + 1) eY rG rQ).2.1 (F_X10_number 2 jY m_length qG (uW + 1) eY rG rQ).2.2 rG rQ).1 (F_X10_need 44 jY m_length qG (F_X10_number 2 jY m_length qG (uW + 1) eY rG rQ).2.1 (F_X10_number 2 jY m_length qG (uW + 1) eY rG rQ).2.2 rG rQ).2 rG rQ).1))) else (j_X10_readLine_218 po bW aG jY m_length qG rG rQ uW eY aJ aB qL pL)
noncomputable def j_X10_readLine_121 {R : Type} (po : Int32 → Int32 → Int32 → Int32 → (Nat → Int32) → (Nat → Int32) → R) (bW aG : Int32) (jY : Nat) (m_length qG : Int32) (rG rQ : Nat → Int32) (k1 k2 uW eY aJ aB : Int32) (qL pL : Nat → Int32) : R := po uW eY (aJ + 1) aB (upd qL k1.toNatClampNeg k2) pL
noncomputable def j_X10_readLine_95 {R : Type} (po : Int32 → Int32 → Int32 → Int32 → (Nat → Int32) → (Nat → Int32) → R) (bW aG : Int32) (jY : Nat) (m_length qG : Int32) (rG rQ : Nat → Int32) (x1 k1 k2 uW eY aJ aB : Int32) (qL pL : Nat → Int32) : R := if (F_X10_passes 64 jY m_length qG uW eY rG rQ).1 = 0 then (j_X10_readLine_121 po bW aG jY m_length qG rG rQ (x1 + 3) 0 ((F_X10_passes 64 jY m_length qG uW eY rG rQ).2) eY aJ aB (upd qL k1.toNatClampNeg k2) pL) else (j_X10_readLine_121 po bW aG jY m_length qG rG rQ (x1 + 3) ((F_X10_number 1 jY m_length qG (F_X10_passes 64 jY m_length qG uW eY rG rQ).2 eY rG rQ).1) ((F_X10_number 1 jY m_length qG (F_X10_passes 64 jY m_length qG uW eY rG rQ).2 eY rG rQ).2.1) ((F_X10_number 1 jY m_length qG (F_X10_passes 64 jY m_length qG uW eY rG rQ).2 eY rG rQ).2.2) aJ aB (upd qL k1.toNatClampNeg k2) pL)
noncomputable def F_X10_readLine (bW aG : Int32) (jY : Nat) (m_length qG uW eY aJ aB : Int32) (rG qL pL rQ : Nat → Int32) : Int32 × Int32 × Int32 × Int32 × (Nat → Int32) × (Nat → Int32) := if (F_X10_here jY m_length qG uW rG rQ) = 102 then (if 16 ≤ (bW + aJ) then (j_X10_readLine_135 (fun o0 o1 o2 o3 o4 o5 => (o0, o1, o2, o3, o4, o5)) bW aG jY m_length qG rG rQ uW eY aJ aB qL pL) else (if (F_X10_passes 42 jY m_length qG (F_X10_number 2 jY m_length qG (F_X10_need 44 jY m_length qG (F_X10_number 2 jY m_length qG (uW + 1) eY rG rQ).2.1 (F_X10_number 2 jY m_length qG (uW + 1) eY rG rQ).2.2 rG rQ).1 (F_X10_need 44 jY m_length qG (F_X10_number 2 jY m_length qG (uW + 1) eY rG rQ).2.1 (F_X10_number 2 jY m_length qG (uW + 1) eY rG rQ).2.2 rG rQ).2 rG rQ).2.1 (F_X10_number 2 jY m_length qG (F_X10_need 44 jY m_length qG (F_X10_number 2 jY m_length qG (uW + 1) eY rG rQ).2.1 (F_X10_number 2 jY m_length qG (uW + 1) eY rG rQ).2.2 rG rQ).1 (F_X10_need 44 jY m_length qG (F_X10_number 2 jY m_length qG (uW + 1) eY rG rQ).2.1 (F_X10_number 2 jY m_length qG (uW + 1) eY rG rQ).2.2 rG rQ).2 rG rQ).2.2 rG rQ).1 = 0 then (j_X10_readLine_95 (fun o0 o1 o2 o3 o4 o5 => (o0, o1, o2, o3, o4, o5)) bW aG jY m_length qG rG rQ (4 * aJ) ((4 * aJ) + 2) 1 ((F_X10_passes 42 jY m_length qG (F_X10_number 2 jY m_length qG (F_X10_need 44 jY m_length qG (F_X10_number 2 jY m_length qG (uW + 1) eY rG rQ).2.1 (F_X10_number 2 jY m_length qG (uW + 1) eY rG rQ).2.2 rG rQ).1 (F_X10_need 44 jY m_length qG (F_X10_number 2 jY m_length qG (uW + 1) eY rG rQ).2.1 (F_X10_number 2 jY m_length qG (uW + 1) eY rG rQ).2.2 rG rQ).2 rG rQ).2.1 (F_X10_number 2 jY m_length qG (F_X10_need 44 jY m_length qG (F_X10_number 2 jY m_length qG (uW + 1) eY rG rQ).2.1 (F_X10_number 2 jY m_length qG (uW + 1) eY rG rQ).2.2 rG rQ).1 (F_X10_need 44 jY m_length qG (F_X10_number 2 jY m_length qG (uW + 1) eY rG rQ).2.1 (F_X10_number 2 jY m_length qG (uW + 1) eY rG rQ).2.2 rG rQ).2 rG rQ).2.2 rG rQ).2) ((F_X10_number 2 jY m_length qG (F_X10_need 44 jY m_length qG (F_X10_number 2 jY m_length qG (uW + 1) eY rG rQ).2.1 (F_X10_number 2 jY m_length qG (uW + 1) eY rG rQ).2.2 rG rQ).1 (F_X10_need 44 jY m_length qG (F_X10_number 2 jY m_length qG (uW + 1) eY rG rQ).2.1 (F_X10_number 2 jY m_length qG (uW + 1) eY rG rQ).2.2 rG rQ).2 rG rQ).2.2) aJ aB (upd (upd qL (4 * aJ).toNatClampNeg (F_X10_number 2 jY m_length qG (uW + 1) eY rG rQ).1) ((4 * aJ) + 1).toNatClampNeg (F_X10_number 2 jY m_length qG (F_X10_need 44 jY m_length qG (F_X10_number 2 jY m_length qG (uW + 1) eY rG rQ).2.1 (F_X10_number 2 jY m_length qG (uW + 1) eY rG rQ).2.2 rG rQ).1 (F_X10_need 44 jY m_length qG (F_X10_number 2 jY m_length qG (uW + 1) eY rG rQ).2.1 (F_X10_number 2 jY m_length qG (uW + 1) eY rG rQ).2.2 rG rQ).2 rG rQ).1) pL) else (j_X10_readLine_95 (fun o0 o1 o2 o3 o4 o5 => (o0, o1, o2, o3, o4, o5)) bW aG jY m_length qG rG rQ (4 * aJ) ((4 * aJ) + 2) ((F_X10_number 1 jY m_length qG (F_X10_passes 42 jY m_length qG (F_X10_number 2 jY m_length qG (F_X10_need 44 jY m_length qG (F_X10_number 2 jY m_length qG (uW + 1) eY rG rQ).2.1 (F_X10_number 2 jY m_length qG (uW + 1) eY rG rQ).2.2 rG rQ).1 (F_X10_need 44 jY m_length qG (F_X10_number 2 jY m_length qG (uW + 1) eY rG rQ).2.1 (F_X10_number 2 jY m_length qG (uW + 1) eY rG rQ).2.2 rG rQ).2 rG rQ).2.1 (F_X10_number 2 jY m_length qG (F_X10_need 44 jY m_length qG (F_X10_number 2 jY m_length qG (uW + 1) eY rG rQ).2.1 (F_X10_number 2 jY m_length qG (uW + 1) eY rG rQ).2.2 rG rQ).1 (F_X10_need 44 jY m_length qG (F_X10_number 2 jY m_length qG (uW + 1) eY rG rQ).2.1 (F_X10_number 2 jY m_length qG (uW + 1) eY rG rQ).2.2 rG rQ).2 rG rQ).2.2 rG rQ).2 (F_X10_number 2 jY m_length qG (F_X10_need 44 jY m_length qG (F_X10_number 2 jY m_length qG (uW + 1) eY rG rQ).2.1 (F_X10_number 2 jY m_length qG (uW + 1) eY rG rQ).2.2 rG rQ).1 (F_X10_need 44 jY m_length qG (F_X10_number 2 jY m_length qG (uW + 1) eY rG rQ).2.1 (F_X10_number 2 jY m_length qG (uW + 1) eY rG rQ).2.2 rG rQ).2 rG rQ).2.2 rG rQ).1) ((F_X10_number 1 jY m_length qG (F_X10_passes 42 jY m_length qG (F_X10_number 2 jY m_length qG (F_X10_need 44 jY m_length qG (F_X10_number 2 jY m_length qG (uW + 1) eY rG rQ).2.1 (F_X10_number 2 jY m_length qG (uW + 1) eY rG rQ).2.2 rG rQ).1 (F_X10_need 44 jY m_length qG (F_X10_number 2 jY m_length qG (uW + 1) eY rG rQ).2.1 (F_X10_number 2 jY m_length qG (uW + 1) eY rG rQ).2.2 rG rQ).2 rG rQ).2.1 (F_X10_number 2 jY m_length qG (F_X10_need 44 jY m_length qG (F_X10_number 2 jY m_length qG (uW + 1) eY rG rQ).2.1 (F_X10_number 2 jY m_length qG (uW + 1) eY rG rQ).2.2 rG rQ).1 (F_X10_need 44 jY m_length qG (F_X10_number 2 jY m_length qG (uW + 1) eY rG rQ).2.1 (F_X10_number 2 jY m_length qG (uW + 1) eY rG rQ).2.2 rG rQ).2 rG rQ).2.2 rG rQ).2 (F_X10_number 2 jY m_length qG (F_X10_need 44 jY m_length qG (F_X10_number 2 jY m_length qG (uW + 1) eY rG rQ).2.1 (F_X10_number 2 jY m_length qG (uW + 1) eY rG rQ).2.2 rG rQ).1 (F_X10_need 44 jY m_length qG (F_X10_number 2 jY m_length qG (uW + 1) eY rG rQ).2.1 (F_X10_number 2 jY m_length qG (uW + 1) eY rG rQ).2.2 rG rQ).2 rG rQ).2.2 rG rQ).2.1) ((F_X10_number 1 jY m_length qG (F_X10_passes 42 jY m_length qG (F_X10_number 2 jY m_length qG (F_X10_need 44 jY m_length qG (F_X10_number 2 jY m_length qG (uW + 1) eY rG rQ).2.1 (F_X10_number 2 jY m_length qG (uW + 1) eY rG rQ).2.2 rG rQ).1 (F_X10_need 44 jY m_length qG (F_X10_number 2 jY m_length qG (uW + 1) eY rG rQ).2.1 (F_X10_number 2 jY m_length qG (uW + 1) eY rG rQ).2.2 rG rQ).2 rG rQ).2.1 (F_X10_number 2 jY m_length qG (F_X10_need 44 jY m_length qG (F_X10_number 2 jY m_length qG (uW + 1) eY rG rQ).2.1 (F_X10_number 2 jY m_length qG (uW + 1) eY rG rQ).2.2 rG rQ).1 (F_X10_need 44 jY m_length qG (F_X10_number 2 jY m_length qG (uW + 1) eY rG rQ).2.1 (F_X10_number 2 jY m_length qG (uW + 1) eY rG rQ).2.2 rG rQ).2 rG rQ).2.2 rG rQ).2 (F_X10_number 2 jY m_length qG (F_X10_need 44 jY m_length qG (F_X10_number 2 jY m_length qG (uW + 1) eY rG rQ).2.1 (F_X10_number 2 jY m_length qG (uW + 1) eY rG rQ).2.2 rG rQ).1 (F_X10_need 44 jY m_length qG (F_X10_number 2 jY m_length qG (uW + 1) eY rG rQ).2.1 (F_X10_number 2 jY m_length qG (uW + 1) eY rG rQ).2.2 rG rQ).2 rG rQ).2.2 rG rQ).2.2) aJ aB (upd (upd qL (4 * aJ).toNatClampNeg (F_X10_number 2 jY m_length qG (uW + 1) eY rG rQ).1) ((4 * aJ) + 1).toNatClampNeg (F_X10_number 2 jY m_length qG (F_X10_need 44 jY m_length qG (F_X10_number 2 jY m_length qG (uW + 1) eY rG rQ).2.1 (F_X10_number 2 jY m_length qG (uW + 1) eY rG rQ).2.2 rG rQ).1 (F_X10_need 44 jY m_length qG (F_X10_number 2 jY m_length qG (uW + 1) eY rG rQ).2.1 (F_X10_number 2 jY m_length qG (uW + 1) eY rG rQ).2.2 rG rQ).2 rG rQ).1) pL))) else (j_X10_readLine_135 (fun o0 o1 o2 o3 o4 o5 => (o0, o1, o2, o3, o4, o5)) bW aG jY m_length qG rG rQ uW eY aJ aB qL pL)
set_option maxHeartbeats 200000 in
set_option maxRecDepth 10000 in
theorem dt_X10_readLine {P Q : Int32 → Int32 → Int32 → Int32 → (Nat → Int32) → (Nat → Int32) → Prop} {bW aG : Int32} {jY : Nat} {m_length qG uW eY aJ aB : Int32} {rG qL pL rQ : Nat → Int32} (h : wp_X10_readLine P bW aG jY m_length qG uW eY aJ aB rG qL pL rQ) (hq : ∀ o : Int32 × Int32 × Int32 × Int32 × (Nat → Int32) × (Nat → Int32), o = F_X10_readLine bW aG jY m_length qG uW eY aJ aB rG qL pL rQ → P o.1 o.2.1 o.2.2.1 o.2.2.2.1 o.2.2.2.2.1 o.2.2.2.2.2 → Q o.1 o.2.1 o.2.2.1 o.2.2.2.1 o.2.2.2.2.1 o.2.2.2.2.2) : wp_X10_readLine Q bW aG jY m_length qG uW eY aJ aB rG qL pL rQ := by
  rw [F_X10_readLine] at hq
  refine du_X10_here h ?_
  intro h
  refine And.intro (fun c1 => ?_) (fun c1 => ?_)
  · have h := And.left h c1
    rw [if_neg c1] at hq
    rw [j_X10_readLine_135] at hq
    unfold ws_X10_readLine_135 at h ⊢
    refine du_X10_here h ?_
    intro h
    refine And.intro (fun c2 => ?_) (fun c2 => ?_)
    · have h := And.left h c2
      rw [if_neg c2] at hq
      rw [j_X10_readLine_218] at hq
      unfold ws_X10_readLine_218 at h ⊢
      refine du_X10_fault h ?_
      intro h
      have q9 := hq _ rfl
      dsimp only at q9
      exact q9 h
    · have h := And.right h c2
      rw [if_pos c2] at hq
      refine ae ?_
      have h := h _ rfl
      refine And.intro (fun c3 => ?_) (fun c3 => ?_)
      · have h := And.left h c3
        rw [if_pos c3] at hq
        rw [j_X10_readLine_218] at hq
        unfold ws_X10_readLine_218 at h ⊢
        refine du_X10_fault h ?_
        intro h
        have q9 := hq _ rfl
        dsimp only at q9
        exact q9 h
      · have h := And.right h c3
        rw [if_neg c3] at hq
        refine ae ?_
        have h := h _ rfl
        refine ae ?_
        have h := h _ rfl
        refine du_X10_number (by decide) h ?_
        intro h
        refine And.intro (And.left h) ?_
        have h := And.right h
        refine du_X10_need h ?_
        intro h
        refine ae ?_
        have h := h _ rfl
        refine du_X10_number (by decide) h ?_
        intro h
        refine And.intro (And.left h) ?_
        have h := And.right h
        refine ae ?_
        have h := h _ rfl
        have q9 := hq _ rfl
        dsimp only at q9
        exact q9 h
  · have h := And.right h c1
    rw [if_pos c1] at hq
    refine ae ?_
    have h := h _ rfl
    refine And.intro (fun c4 => ?_) (fun c4 => ?_)
    · have h := And.left h c4
      rw [if_pos c4] at hq
      rw [j_X10_readLine_135] at hq
      unfold ws_X10_readLine_135 at h ⊢
      refine du_X10_here h ?_
      intro h
      refine And.intro (fun c5 => ?_) (fun c5 => ?_)
      · have h := And.left h c5
        rw [if_neg c5] at hq
        rw [j_X10_readLine_218] at hq
        unfold ws_X10_readLine_218 at h ⊢
        refine du_X10_fault h ?_
        intro h
        have q9 := hq _ rfl
        dsimp only at q9
        exact q9 h
      · have h := And.right h c5
        rw [if_pos c5] at hq
        refine ae ?_
        have h := h _ rfl
        refine And.intro (fun c6 => ?_) (fun c6 => ?_)
        · have h := And.left h c6
          rw [if_pos c6] at hq
          rw [j_X10_readLine_218] at hq
          unfold ws_X10_readLine_218 at h ⊢
          refine du_X10_fault h ?_
          intro h
          have q9 := hq _ rfl
          dsimp only at q9
          exact q9 h
        · have h := And.right h c6
          rw [if_neg c6] at hq
          refine ae ?_
          have h := h _ rfl
          refine ae ?_
          have h := h _ rfl
          refine du_X10_number (by decide) h ?_
          intro h
          refine And.intro (And.left h) ?_
          have h := And.right h
          refine du_X10_need h ?_
          intro h
          refine ae ?_
          have h := h _ rfl
          refine du_X10_number (by decide) h ?_
          intro h
          refine And.intro (And.left h) ?_
          have h := And.right h
          refine ae ?_
          have h := h _ rfl
          have q9 := hq _ rfl
          dsimp only at q9
          exact q9 h
    · have h := And.right h c4
      rw [if_neg c4] at hq
      refine ae ?_
      have h := h _ rfl
      refine ae ?_
      have h := h _ rfl
      refine du_X10_number (by decide) h ?_
      intro h
      refine And.intro (And.left h) ?_
      have h := And.right h
      refine du_X10_need h ?_
      intro h
      refine ae ?_
      have h := h _ rfl
      refine du_X10_number (by decide) h ?_
      intro h
      refine And.intro (And.left h) ?_
      have h := And.right h
      refine ae ?_
      have h := h _ rfl
      refine du_X10_passes h ?_
      intro h
      refine And.intro (fun c7 => ?_) (fun c7 => ?_)
      · have h := And.left h c7
        rw [if_pos c7] at hq
        rw [j_X10_readLine_95] at hq
        unfold ws_X10_readLine_95 at h ⊢
        refine And.intro (And.left h) ?_
        have h := And.right h
        refine ae ?_
        have h := h _ rfl
        refine du_X10_passes h ?_
        intro h
        refine And.intro (fun c8 => ?_) (fun c8 => ?_)
        · have h := And.left h c8
          rw [if_pos c8] at hq
          rw [j_X10_readLine_121] at hq
          unfold ws_X10_readLine_121 at h ⊢
          refine And.intro (And.left h) ?_
          have h := And.right h
          refine ae ?_
          have h := h _ rfl
          have q9 := hq _ rfl
          dsimp only at q9
          exact q9 h
        · have h := And.right h c8
          rw [if_neg c8] at hq
          refine du_X10_number (by decide) h ?_
          intro h
          rw [j_X10_readLine_121] at hq
          unfold ws_X10_readLine_121 at h ⊢
          refine And.intro (And.left h) ?_
          have h := And.right h
          refine ae ?_
          have h := h _ rfl
          have q9 := hq _ rfl
          dsimp only at q9
          exact q9 h
      · have h := And.right h c7
        rw [if_neg c7] at hq
        refine du_X10_number (by decide) h ?_
        intro h
        rw [j_X10_readLine_95] at hq
        unfold ws_X10_readLine_95 at h ⊢
        refine And.intro (And.left h) ?_
        have h := And.right h
        refine ae ?_
        have h := h _ rfl
        refine du_X10_passes h ?_
        intro h
        refine And.intro (fun c9 => ?_) (fun c9 => ?_)
        · have h := And.left h c9
          rw [if_pos c9] at hq
          rw [j_X10_readLine_121] at hq
          unfold ws_X10_readLine_121 at h ⊢
          refine And.intro (And.left h) ?_
          have h := And.right h
          refine ae ?_
          have h := h _ rfl
          have q9 := hq _ rfl
          dsimp only at q9
          exact q9 h
        · have h := And.right h c9
          rw [if_neg c9] at hq
          refine du_X10_number (by decide) h ?_
          intro h
          rw [j_X10_readLine_121] at hq
          unfold ws_X10_readLine_121 at h ⊢
          refine And.intro (And.left h) ?_
          have h := And.right h
          refine ae ?_
          have h := h _ rfl
          have q9 := hq _ rfl
          dsimp only at q9
          exact q9 h
theorem du_X10_readLine {P Q : Int32 → Int32 → Int32 → Int32 → (Nat → Int32) → (Nat → Int32) → Prop} {bW aG : Int32} {jY : Nat} {m_length qG uW eY aJ aB : Int32} {rG qL pL rQ : Nat → Int32} (h : wp_X10_readLine P bW aG jY m_length qG uW eY aJ aB rG qL pL rQ) (hq : P (F_X10_readLine bW aG jY m_length qG uW eY aJ aB rG qL pL rQ).1 (F_X10_readLine bW aG jY m_length qG uW eY aJ aB rG qL pL rQ).2.1 (F_X10_readLine bW aG jY m_length qG uW eY aJ aB rG qL pL rQ).2.2.1 (F_X10_readLine bW aG jY m_length qG uW eY aJ aB rG qL pL rQ).2.2.2.1 (F_X10_readLine bW aG jY m_length qG uW eY aJ aB rG qL pL rQ).2.2.2.2.1 (F_X10_readLine bW aG jY m_length qG uW eY aJ aB rG qL pL rQ).2.2.2.2.2 → Q (F_X10_readLine bW aG jY m_length qG uW eY aJ aB rG qL pL rQ).1 (F_X10_readLine bW aG jY m_length qG uW eY aJ aB rG qL pL rQ).2.1 (F_X10_readLine bW aG jY m_length qG uW eY aJ aB rG qL pL rQ).2.2.1 (F_X10_readLine bW aG jY m_length qG uW eY aJ aB rG qL pL rQ).2.2.2.1 (F_X10_readLine bW aG jY m_length qG uW eY aJ aB rG qL pL rQ).2.2.2.2.1 (F_X10_readLine bW aG jY m_length qG uW eY aJ aB rG qL pL rQ).2.2.2.2.2) : wp_X10_readLine Q bW aG jY m_length qG uW eY aJ aB rG qL pL rQ := dt_X10_readLine h (fun o eo => by rw [eo]; exact hq)
theorem dw_X10_readLine {Q : Int32 → Int32 → Int32 → Int32 → (Nat → Int32) → (Nat → Int32) → Prop} {bW aG : Int32} {jY : Nat} {m_length qG uW eY aJ aB : Int32} {rG qL pL rQ : Nat → Int32} (h : wp_X10_readLine (fun o0 o1 o2 o3 o4 o5 => (o0, o1, o2, o3, o4, o5) = F_X10_readLine bW aG jY m_length qG uW eY aJ aB rG qL pL rQ → Q o0 o1 o2 o3 o4 o5) bW aG jY m_length qG uW eY aJ aB rG qL pL rQ) : wp_X10_readLine Q bW aG jY m_length qG uW eY aJ aB rG qL pL rQ := dt_X10_readLine h (fun o eo hp => hp eo)
noncomputable def F_X10_begin (p1 p2 : Int32) (jY : Nat) (m_length qG uW eY : Int32) : Nat × Int32 × Int32 × Int32 × Int32 := (1, p1, p2, 0, (-1))
set_option maxHeartbeats 200000 in
set_option maxRecDepth 10000 in
theorem dt_X10_begin {P Q : Nat → Int32 → Int32 → Int32 → Int32 → Prop} {p1 p2 : Int32} {jY : Nat} {m_length qG uW eY : Int32} (h : wp_X10_begin P p1 p2 jY m_length qG uW eY) (hq : ∀ o : Nat × Int32 × Int32 × Int32 × Int32, o = F_X10_begin p1 p2 jY m_length qG uW eY → P o.1 o.2.1 o.2.2.1 o.2.2.2.1 o.2.2.2.2 → Q o.1 o.2.1 o.2.2.1 o.2.2.2.1 o.2.2.2.2) : wp_X10_begin Q p1 p2 jY m_length qG uW eY := by
  rw [F_X10_begin] at hq
  have q9 := hq _ rfl
  dsimp only at q9
  exact q9 h
theorem du_X10_begin {P Q : Nat → Int32 → Int32 → Int32 → Int32 → Prop} {p1 p2 : Int32} {jY : Nat} {m_length qG uW eY : Int32} (h : wp_X10_begin P p1 p2 jY m_length qG uW eY) (hq : P (F_X10_begin p1 p2 jY m_length qG uW eY).1 (F_X10_begin p1 p2 jY m_length qG uW eY).2.1 (F_X10_begin p1 p2 jY m_length qG uW eY).2.2.1 (F_X10_begin p1 p2 jY m_length qG uW eY).2.2.2.1 (F_X10_begin p1 p2 jY m_length qG uW eY).2.2.2.2 → Q (F_X10_begin p1 p2 jY m_length qG uW eY).1 (F_X10_begin p1 p2 jY m_length qG uW eY).2.1 (F_X10_begin p1 p2 jY m_length qG uW eY).2.2.1 (F_X10_begin p1 p2 jY m_length qG uW eY).2.2.2.1 (F_X10_begin p1 p2 jY m_length qG uW eY).2.2.2.2) : wp_X10_begin Q p1 p2 jY m_length qG uW eY := dt_X10_begin h (fun o eo => by rw [eo]; exact hq)
theorem dw_X10_begin {Q : Nat → Int32 → Int32 → Int32 → Int32 → Prop} {p1 p2 : Int32} {jY : Nat} {m_length qG uW eY : Int32} (h : wp_X10_begin (fun o0 o1 o2 o3 o4 => (o0, o1, o2, o3, o4) = F_X10_begin p1 p2 jY m_length qG uW eY → Q o0 o1 o2 o3 o4) p1 p2 jY m_length qG uW eY) : wp_X10_begin Q p1 p2 jY m_length qG uW eY := dt_X10_begin h (fun o eo hp => hp eo)
noncomputable def fs_X8_add_14 {R : Type} (po : Int32 → Int32 → (Nat → Int32) → R) (nx : Int32 → Int32 → Int32 → (Nat → Int32) → R) (x1 x2 qI : Int32) (qM : Nat → Int32) : R := if x2 < 0 then (po qI qI qM) else (nx x1 (x2 + (-8)) (qI + 1) (upd qM qI.toNatClampNeg (vp_nar .char (((((x1.toUInt32 >>> (x2.toUInt32 &&& Int32.toUInt32 31)).toInt32) &&& 255).toUInt32 % 65536).toInt32))))
set_option maxHeartbeats 200000 in
set_option maxRecDepth 10000 in
theorem dl_X8_add_14 {P Q : Int32 → Int32 → (Nat → Int32) → Prop} {R : Type} {po : Int32 → Int32 → (Nat → Int32) → R} {d : Int32 → Int32 → Int32 → (Nat → Int32) → R} : ∀ (n m : Nat) (x1 x2 qI : Int32) (qM : Nat → Int32), -8 ≤ Int32.toInt x2 ∧ Int32.toInt x2 ≤ 24 → Int32.toInt x2 + 8 < (m : Int) → wb_X8_add_14 P n x1 x2 qI qM → (∀ (b0 b1 : Int32) (b2 : Nat → Int32), po b0 b1 b2 = flp (fs_X8_add_14 po) d m x1 x2 qI qM → P b0 b1 b2 → Q b0 b1 b2) → wb_X8_add_14 Q n x1 x2 qI qM := by
  have l0 : Int32.toInt (0 : Int32) = 0 := by decide
  intro n
  induction n with
  | zero => intro m x1 x2 qI qM hv hm h hq; exact False.elim h
  | succ n ih =>
    intro m x1 x2 qI qM hv hm h hq
    cases m with
    | zero => exfalso; omega
    | succ m =>
      rw [flp_s, fs_X8_add_14] at hq
      have h : ws_X8_add_14 P (wb_X8_add_14 P n) x1 x2 qI qM := h
      show ws_X8_add_14 Q (wb_X8_add_14 Q n) x1 x2 qI qM
      unfold ws_X8_add_14 at h ⊢
      refine And.intro (fun c1 => ?_) (fun c1 => ?_)
      · have h := And.left h c1
        rw [if_pos c1] at hq
        have dc1 := (fa_lt _ _).mp c1
        exact hq _ _ _ rfl h
      · have h := And.right h c1
        rw [if_neg c1] at hq
        have dc1 := mt (fa_lt _ _).mpr c1
        refine ae ?_
        have h := h _ rfl
        refine ae ?_
        have h := h _ rfl
        refine And.intro (And.left h) ?_
        have h := And.right h
        refine ae ?_
        have h := h _ rfl
        refine ae ?_
        have h := h _ rfl
        have l8 : Int32.toInt (-8 : Int32) = -8 := by decide
        have f9 := ta_add x2 (-8) (by omega)
        exact ih m _ _ _ _ (by omega) (by omega) h hq
noncomputable def F_X8_add (p0 qI : Int32) (qM : Nat → Int32) : Int32 × Int32 × (Nat → Int32) := if qI ≤ 76 then (flp (fs_X8_add_14 (fun o0 o1 o2 => (o0, o1, o2))) (fun _ _ _ _ => (0, 0, (fun _ => 0))) 33 p0 24 qI qM) else ((-1), qI, qM)
set_option maxHeartbeats 200000 in
set_option maxRecDepth 10000 in
theorem dt_X8_add {P Q : Int32 → Int32 → (Nat → Int32) → Prop} {p0 qI : Int32} {qM : Nat → Int32} (h : wp_X8_add P p0 qI qM) (hq : ∀ o : Int32 × Int32 × (Nat → Int32), o = F_X8_add p0 qI qM → P o.1 o.2.1 o.2.2 → Q o.1 o.2.1 o.2.2) : wp_X8_add Q p0 qI qM := by
  rw [F_X8_add] at hq
  refine And.intro (fun c1 => ?_) (fun c1 => ?_)
  · have h := And.left h c1
    rw [if_pos c1] at hq
    obtain ⟨n2, h⟩ := h
    exact ⟨n2, dl_X8_add_14 n2 33 _ _ _ _ (by decide) (by decide) h (fun b0 b1 b2 e9 h9 => hq (b0, b1, b2) e9 h9)⟩
  · have h := And.right h c1
    rw [if_neg c1] at hq
    have q9 := hq _ rfl
    dsimp only at q9
    exact q9 h
theorem du_X8_add {P Q : Int32 → Int32 → (Nat → Int32) → Prop} {p0 qI : Int32} {qM : Nat → Int32} (h : wp_X8_add P p0 qI qM) (hq : P (F_X8_add p0 qI qM).1 (F_X8_add p0 qI qM).2.1 (F_X8_add p0 qI qM).2.2 → Q (F_X8_add p0 qI qM).1 (F_X8_add p0 qI qM).2.1 (F_X8_add p0 qI qM).2.2) : wp_X8_add Q p0 qI qM := dt_X8_add h (fun o eo => by rw [eo]; exact hq)
noncomputable def F_X9_sign (p0 qI : Int32) (qM : Nat → Int32) : Int32 × Int32 × (Nat → Int32) := ((F_X8_add p0 qI qM).1, (F_X8_add p0 qI qM).2.1, (F_X8_add p0 qI qM).2.2)
set_option maxHeartbeats 200000 in
set_option maxRecDepth 10000 in
theorem dt_X9_sign {P Q : Int32 → Int32 → (Nat → Int32) → Prop} {p0 qI : Int32} {qM : Nat → Int32} (h : wp_X9_sign P p0 qI qM) (hq : ∀ o : Int32 × Int32 × (Nat → Int32), o = F_X9_sign p0 qI qM → P o.1 o.2.1 o.2.2 → Q o.1 o.2.1 o.2.2) : wp_X9_sign Q p0 qI qM := by
  rw [F_X9_sign] at hq
  refine du_X8_add h ?_
  intro h
  have q9 := hq _ rfl
  dsimp only at q9
  exact q9 h
theorem du_X9_sign {P Q : Int32 → Int32 → (Nat → Int32) → Prop} {p0 qI : Int32} {qM : Nat → Int32} (h : wp_X9_sign P p0 qI qM) (hq : P (F_X9_sign p0 qI qM).1 (F_X9_sign p0 qI qM).2.1 (F_X9_sign p0 qI qM).2.2 → Q (F_X9_sign p0 qI qM).1 (F_X9_sign p0 qI qM).2.1 (F_X9_sign p0 qI qM).2.2) : wp_X9_sign Q p0 qI qM := dt_X9_sign h (fun o eo => by rw [eo]; exact hq)
theorem dw_X9_sign {Q : Int32 → Int32 → (Nat → Int32) → Prop} {p0 qI : Int32} {qM : Nat → Int32} (h : wp_X9_sign (fun o0 o1 o2 => (o0, o1, o2) = F_X9_sign p0 qI qM → Q o0 o1 o2) p0 qI qM) : wp_X9_sign Q p0 qI qM := dt_X9_sign h (fun o eo hp => hp eo)
noncomputable def fs_X10_sign_20 {R : Type} (po : Int32 → Int32 → Int32 → (Nat → Int32) → R) (nx : Int32 → Int32 → Int32 → Int32 → (Nat → Int32) → R) (x1 x2 jG dG : Int32) (rG : Nat → Int32) : R := if x2 < 0 then (po jG jG dG rG) else (nx x1 (x2 + (-1)) (jG + 1) dG (upd rG jG.toNatClampNeg (vp_nar .byte ((x1 >>> ((8 * x2) &&& 31)).toInt8.toInt32))))
set_option maxHeartbeats 200000 in
set_option maxRecDepth 10000 in
theorem dl_X10_sign_20 {P Q : Int32 → Int32 → Int32 → (Nat → Int32) → Prop} {R : Type} {po : Int32 → Int32 → Int32 → (Nat → Int32) → R} {d : Int32 → Int32 → Int32 → Int32 → (Nat → Int32) → R} : ∀ (n m : Nat) (x1 x2 jG dG : Int32) (rG : Nat → Int32), -1 ≤ Int32.toInt x2 ∧ Int32.toInt x2 ≤ 3 → Int32.toInt x2 + 1 < (m : Int) → wb_X10_sign_20 P n x1 x2 jG dG rG → (∀ (b0 b1 b2 : Int32) (b3 : Nat → Int32), po b0 b1 b2 b3 = flp (fs_X10_sign_20 po) d m x1 x2 jG dG rG → P b0 b1 b2 b3 → Q b0 b1 b2 b3) → wb_X10_sign_20 Q n x1 x2 jG dG rG := by
  have l0 : Int32.toInt (0 : Int32) = 0 := by decide
  intro n
  induction n with
  | zero => intro m x1 x2 jG dG rG hv hm h hq; exact False.elim h
  | succ n ih =>
    intro m x1 x2 jG dG rG hv hm h hq
    cases m with
    | zero => exfalso; omega
    | succ m =>
      rw [flp_s, fs_X10_sign_20] at hq
      have h : ws_X10_sign_20 P (wb_X10_sign_20 P n) x1 x2 jG dG rG := h
      show ws_X10_sign_20 Q (wb_X10_sign_20 Q n) x1 x2 jG dG rG
      unfold ws_X10_sign_20 at h ⊢
      refine And.intro (fun c1 => ?_) (fun c1 => ?_)
      · have h := And.left h c1
        rw [if_pos c1] at hq
        have dc1 := (fa_lt _ _).mp c1
        exact hq _ _ _ _ rfl h
      · have h := And.right h c1
        rw [if_neg c1] at hq
        have dc1 := mt (fa_lt _ _).mpr c1
        refine ae ?_
        have h := h _ rfl
        refine ae ?_
        have h := h _ rfl
        refine And.intro (And.left h) ?_
        have h := And.right h
        refine ae ?_
        have h := h _ rfl
        have l8 : Int32.toInt (-1 : Int32) = -1 := by decide
        have f9 := ta_add x2 (-1) (by omega)
        exact ih m _ _ _ _ _ (by omega) (by omega) h hq
noncomputable def F_X10_sign (p0 jG dG : Int32) (rG : Nat → Int32) : Int32 × Int32 × Int32 × (Nat → Int32) := if (jG + 4) ≤ 80 then (flp (fs_X10_sign_20 (fun o0 o1 o2 o3 => (o0, o1, o2, o3))) (fun _ _ _ _ _ => (0, 0, 0, (fun _ => 0))) 5 p0 3 jG 0 rG) else ((-1), jG, 0, rG)
set_option maxHeartbeats 200000 in
set_option maxRecDepth 10000 in
theorem dt_X10_sign {P Q : Int32 → Int32 → Int32 → (Nat → Int32) → Prop} {p0 jG dG : Int32} {rG : Nat → Int32} (h : wp_X10_sign P p0 jG dG rG) (hq : ∀ o : Int32 × Int32 × Int32 × (Nat → Int32), o = F_X10_sign p0 jG dG rG → P o.1 o.2.1 o.2.2.1 o.2.2.2 → Q o.1 o.2.1 o.2.2.1 o.2.2.2) : wp_X10_sign Q p0 jG dG rG := by
  rw [F_X10_sign] at hq
  refine ae ?_
  have h := h _ rfl
  refine And.intro (fun c1 => ?_) (fun c1 => ?_)
  · have h := And.left h c1
    rw [if_pos c1] at hq
    obtain ⟨n2, h⟩ := h
    exact ⟨n2, dl_X10_sign_20 n2 5 _ _ _ _ _ (by decide) (by decide) h (fun b0 b1 b2 b3 e9 h9 => hq (b0, b1, b2, b3) e9 h9)⟩
  · have h := And.right h c1
    rw [if_neg c1] at hq
    have q9 := hq _ rfl
    dsimp only at q9
    exact q9 h
theorem du_X10_sign {P Q : Int32 → Int32 → Int32 → (Nat → Int32) → Prop} {p0 jG dG : Int32} {rG : Nat → Int32} (h : wp_X10_sign P p0 jG dG rG) (hq : P (F_X10_sign p0 jG dG rG).1 (F_X10_sign p0 jG dG rG).2.1 (F_X10_sign p0 jG dG rG).2.2.1 (F_X10_sign p0 jG dG rG).2.2.2 → Q (F_X10_sign p0 jG dG rG).1 (F_X10_sign p0 jG dG rG).2.1 (F_X10_sign p0 jG dG rG).2.2.1 (F_X10_sign p0 jG dG rG).2.2.2) : wp_X10_sign Q p0 jG dG rG := dt_X10_sign h (fun o eo => by rw [eo]; exact hq)
theorem dw_X10_sign {Q : Int32 → Int32 → Int32 → (Nat → Int32) → Prop} {p0 jG dG : Int32} {rG : Nat → Int32} (h : wp_X10_sign (fun o0 o1 o2 o3 => (o0, o1, o2, o3) = F_X10_sign p0 jG dG rG → Q o0 o1 o2 o3) p0 jG dG rG) : wp_X10_sign Q p0 jG dG rG := dt_X10_sign h (fun o eo hp => hp eo)
noncomputable def F_X9_set (p0 p1 : Int32) (dQ : Nat → Int32) : Int32 × (Nat → Int32) := if p0 < 0 then ((-1), dQ) else (if 4 < p0 then ((-1), dQ) else (if p1 < (stL p0.toNatClampNeg) then ((-1), dQ) else (if p1 ≤ (stM p0.toNatClampNeg) then ((dQ p0.toNatClampNeg), (upd dQ p0.toNatClampNeg p1)) else ((-1), dQ))))
set_option maxHeartbeats 200000 in
set_option maxRecDepth 10000 in
theorem dt_X9_set {P Q : Int32 → (Nat → Int32) → Prop} {p0 p1 : Int32} {dQ : Nat → Int32} (h : wp_X9_set P p0 p1 dQ) (hq : ∀ o : Int32 × (Nat → Int32), o = F_X9_set p0 p1 dQ → P o.1 o.2 → Q o.1 o.2) : wp_X9_set Q p0 p1 dQ := by
  rw [F_X9_set] at hq
  refine And.intro (fun c1 => ?_) (fun c1 => ?_)
  · have h := And.left h c1
    rw [if_pos c1] at hq
    have q9 := hq _ rfl
    dsimp only at q9
    exact q9 h
  · have h := And.right h c1
    rw [if_neg c1] at hq
    refine And.intro (fun c2 => ?_) (fun c2 => ?_)
    · have h := And.left h c2
      rw [if_pos c2] at hq
      have q9 := hq _ rfl
      dsimp only at q9
      exact q9 h
    · have h := And.right h c2
      rw [if_neg c2] at hq
      refine And.intro (And.left h) ?_
      have h := And.right h
      refine And.intro (fun c3 => ?_) (fun c3 => ?_)
      · have h := And.left h c3
        rw [if_pos c3] at hq
        have q9 := hq _ rfl
        dsimp only at q9
        exact q9 h
      · have h := And.right h c3
        rw [if_neg c3] at hq
        refine And.intro (And.left h) ?_
        have h := And.right h
        refine And.intro (fun c4 => ?_) (fun c4 => ?_)
        · have h := And.left h c4
          rw [if_pos c4] at hq
          refine And.intro (And.left h) ?_
          have h := And.right h
          refine ae ?_
          have h := h _ rfl
          refine And.intro (And.left h) ?_
          have h := And.right h
          have q9 := hq _ rfl
          dsimp only at q9
          exact q9 h
        · have h := And.right h c4
          rw [if_neg c4] at hq
          have q9 := hq _ rfl
          dsimp only at q9
          exact q9 h
theorem du_X9_set {P Q : Int32 → (Nat → Int32) → Prop} {p0 p1 : Int32} {dQ : Nat → Int32} (h : wp_X9_set P p0 p1 dQ) (hq : P (F_X9_set p0 p1 dQ).1 (F_X9_set p0 p1 dQ).2 → Q (F_X9_set p0 p1 dQ).1 (F_X9_set p0 p1 dQ).2) : wp_X9_set Q p0 p1 dQ := dt_X9_set h (fun o eo => by rw [eo]; exact hq)
theorem dw_X9_set {Q : Int32 → (Nat → Int32) → Prop} {p0 p1 : Int32} {dQ : Nat → Int32} (h : wp_X9_set (fun o0 o1 => (o0, o1) = F_X9_set p0 p1 dQ → Q o0 o1) p0 p1 dQ) : wp_X9_set Q p0 p1 dQ := dt_X9_set h (fun o eo hp => hp eo)
noncomputable def j_X10_set_47 {R : Type} (po : Int32 → Int32 → (Nat → Int32) → R) (x1 x2 k0 k1 k2 dG : Int32) (pX : Nat → Int32) : R := if (F_X10_in k0 k1 k2) = 0 then (po (-1) dG pX) else (po (pX x1.toNatClampNeg) dG (upd pX x1.toNatClampNeg x2))
noncomputable def j_X10_set_25 {R : Type} (po : Int32 → Int32 → (Nat → Int32) → R) (x1 x2 k0 k1 dG : Int32) (pX : Nat → Int32) : R := if x1 = 4 then (j_X10_set_47 po x1 x2 k0 k1 16 dG pX) else (if x1 = 3 then (j_X10_set_47 po x1 x2 k0 k1 9 dG pX) else (j_X10_set_47 po x1 x2 k0 k1 30 dG pX))
noncomputable def F_X10_set (p0 p1 dG : Int32) (pX : Nat → Int32) : Int32 × Int32 × (Nat → Int32) := if (F_X10_in p0 0 4) = 0 then ((-1), 0, pX) else (if p0 = 4 then (j_X10_set_25 (fun o0 o1 o2 => (o0, o1, o2)) p0 p1 p1 1 0 pX) else (j_X10_set_25 (fun o0 o1 o2 => (o0, o1, o2)) p0 p1 p1 0 0 pX))
set_option maxHeartbeats 200000 in
set_option maxRecDepth 10000 in
theorem dt_X10_set {P Q : Int32 → Int32 → (Nat → Int32) → Prop} {p0 p1 dG : Int32} {pX : Nat → Int32} (h : wp_X10_set P p0 p1 dG pX) (hq : ∀ o : Int32 × Int32 × (Nat → Int32), o = F_X10_set p0 p1 dG pX → P o.1 o.2.1 o.2.2 → Q o.1 o.2.1 o.2.2) : wp_X10_set Q p0 p1 dG pX := by
  rw [F_X10_set] at hq
  refine du_X10_in h ?_
  intro h
  refine And.intro (fun c1 => ?_) (fun c1 => ?_)
  · have h := And.left h c1
    rw [if_pos c1] at hq
    have q9 := hq _ rfl
    dsimp only at q9
    exact q9 h
  · have h := And.right h c1
    rw [if_neg c1] at hq
    refine And.intro (fun c2 => ?_) (fun c2 => ?_)
    · have h := And.left h c2
      rw [if_neg c2] at hq
      rw [j_X10_set_25] at hq
      unfold ws_X10_set_25 at h ⊢
      refine And.intro (fun c3 => ?_) (fun c3 => ?_)
      · have h := And.left h c3
        rw [if_neg c3] at hq
        refine And.intro (fun c4 => ?_) (fun c4 => ?_)
        · have h := And.left h c4
          rw [if_neg c4] at hq
          rw [j_X10_set_47] at hq
          unfold ws_X10_set_47 at h ⊢
          refine du_X10_in h ?_
          intro h
          refine And.intro (fun c5 => ?_) (fun c5 => ?_)
          · have h := And.left h c5
            rw [if_neg c5] at hq
            refine And.intro (And.left h) ?_
            have h := And.right h
            refine ae ?_
            have h := h _ rfl
            refine And.intro (And.left h) ?_
            have h := And.right h
            have q9 := hq _ rfl
            dsimp only at q9
            exact q9 h
          · have h := And.right h c5
            rw [if_pos c5] at hq
            have q9 := hq _ rfl
            dsimp only at q9
            exact q9 h
        · have h := And.right h c4
          rw [if_pos c4] at hq
          rw [j_X10_set_47] at hq
          unfold ws_X10_set_47 at h ⊢
          refine du_X10_in h ?_
          intro h
          refine And.intro (fun c6 => ?_) (fun c6 => ?_)
          · have h := And.left h c6
            rw [if_neg c6] at hq
            refine And.intro (And.left h) ?_
            have h := And.right h
            refine ae ?_
            have h := h _ rfl
            refine And.intro (And.left h) ?_
            have h := And.right h
            have q9 := hq _ rfl
            dsimp only at q9
            exact q9 h
          · have h := And.right h c6
            rw [if_pos c6] at hq
            have q9 := hq _ rfl
            dsimp only at q9
            exact q9 h
      · have h := And.right h c3
        rw [if_pos c3] at hq
        rw [j_X10_set_47] at hq
        unfold ws_X10_set_47 at h ⊢
        refine du_X10_in h ?_
        intro h
        refine And.intro (fun c7 => ?_) (fun c7 => ?_)
        · have h := And.left h c7
          rw [if_neg c7] at hq
          refine And.intro (And.left h) ?_
          have h := And.right h
          refine ae ?_
          have h := h _ rfl
          refine And.intro (And.left h) ?_
          have h := And.right h
          have q9 := hq _ rfl
          dsimp only at q9
          exact q9 h
        · have h := And.right h c7
          rw [if_pos c7] at hq
          have q9 := hq _ rfl
          dsimp only at q9
          exact q9 h
    · have h := And.right h c2
      rw [if_pos c2] at hq
      rw [j_X10_set_25] at hq
      unfold ws_X10_set_25 at h ⊢
      refine And.intro (fun c8 => ?_) (fun c8 => ?_)
      · have h := And.left h c8
        rw [if_neg c8] at hq
        refine And.intro (fun c9 => ?_) (fun c9 => ?_)
        · have h := And.left h c9
          rw [if_neg c9] at hq
          rw [j_X10_set_47] at hq
          unfold ws_X10_set_47 at h ⊢
          refine du_X10_in h ?_
          intro h
          refine And.intro (fun c10 => ?_) (fun c10 => ?_)
          · have h := And.left h c10
            rw [if_neg c10] at hq
            refine And.intro (And.left h) ?_
            have h := And.right h
            refine ae ?_
            have h := h _ rfl
            refine And.intro (And.left h) ?_
            have h := And.right h
            have q9 := hq _ rfl
            dsimp only at q9
            exact q9 h
          · have h := And.right h c10
            rw [if_pos c10] at hq
            have q9 := hq _ rfl
            dsimp only at q9
            exact q9 h
        · have h := And.right h c9
          rw [if_pos c9] at hq
          rw [j_X10_set_47] at hq
          unfold ws_X10_set_47 at h ⊢
          refine du_X10_in h ?_
          intro h
          refine And.intro (fun c11 => ?_) (fun c11 => ?_)
          · have h := And.left h c11
            rw [if_neg c11] at hq
            refine And.intro (And.left h) ?_
            have h := And.right h
            refine ae ?_
            have h := h _ rfl
            refine And.intro (And.left h) ?_
            have h := And.right h
            have q9 := hq _ rfl
            dsimp only at q9
            exact q9 h
          · have h := And.right h c11
            rw [if_pos c11] at hq
            have q9 := hq _ rfl
            dsimp only at q9
            exact q9 h
      · have h := And.right h c8
        rw [if_pos c8] at hq
        rw [j_X10_set_47] at hq
        unfold ws_X10_set_47 at h ⊢
        refine du_X10_in h ?_
        intro h
        refine And.intro (fun c12 => ?_) (fun c12 => ?_)
        · have h := And.left h c12
          rw [if_neg c12] at hq
          refine And.intro (And.left h) ?_
          have h := And.right h
          refine ae ?_
          have h := h _ rfl
          refine And.intro (And.left h) ?_
          have h := And.right h
          have q9 := hq _ rfl
          dsimp only at q9
          exact q9 h
        · have h := And.right h c12
          rw [if_pos c12] at hq
          have q9 := hq _ rfl
          dsimp only at q9
          exact q9 h
theorem du_X10_set {P Q : Int32 → Int32 → (Nat → Int32) → Prop} {p0 p1 dG : Int32} {pX : Nat → Int32} (h : wp_X10_set P p0 p1 dG pX) (hq : P (F_X10_set p0 p1 dG pX).1 (F_X10_set p0 p1 dG pX).2.1 (F_X10_set p0 p1 dG pX).2.2 → Q (F_X10_set p0 p1 dG pX).1 (F_X10_set p0 p1 dG pX).2.1 (F_X10_set p0 p1 dG pX).2.2) : wp_X10_set Q p0 p1 dG pX := dt_X10_set h (fun o eo => by rw [eo]; exact hq)
theorem dw_X10_set {Q : Int32 → Int32 → (Nat → Int32) → Prop} {p0 p1 dG : Int32} {pX : Nat → Int32} (h : wp_X10_set (fun o0 o1 o2 => (o0, o1, o2) = F_X10_set p0 p1 dG pX → Q o0 o1 o2) p0 p1 dG pX) : wp_X10_set Q p0 p1 dG pX := dt_X10_set h (fun o eo hp => hp eo)
noncomputable def j_X3_fillWorths_70 {R : Type} (k9 : Int32 → Int32 → Int32 → Int32 → Int32 → Int32 → (Nat → Int32) → R) (bZ x1 x2 x4 x5 x6 x7 k1 k2 : Int32) (pE : Nat → Int32) : R := k9 x1 x2 x4 (x5 + ((upd pE k1.toNatClampNeg k2) x7.toNatClampNeg)) (x6 + x4) (x7 + 1) (upd pE k1.toNatClampNeg k2)
noncomputable def j_X3_fillWorths_41 {R : Type} (k9 : Int32 → Int32 → Int32 → Int32 → Int32 → Int32 → (Nat → Int32) → R) (bZ x1 x2 x4 x5 x6 x7 k0 : Int32) (pE : Nat → Int32) : R := if x2 ≤ x7 then (j_X3_fillWorths_70 k9 bZ x1 x2 x4 x5 x6 x7 x7 0 pE) else (j_X3_fillWorths_70 k9 bZ x1 x2 x4 x5 x6 x7 x7 (if 0 < (if k0 < 9 then k0 else 9) then (if k0 < 9 then k0 else 9) else 0) pE)
noncomputable def bd_X3_fillWorths_9 (bZ x1 x2 x4 c : Int32) (s : Int32 × Int32 × (Nat → Int32)) : Int32 × Int32 × (Nat → Int32) := if x1 = 0 then (j_X3_fillWorths_41 (fun q0 q1 q2 q3 q4 q5 q6 => (q3, q4, q6)) bZ x1 x2 x4 s.1 s.2.1 c s.2.1.toInt8.toInt32 s.2.2) else (if x1 = 1 then (j_X3_fillWorths_41 (fun q0 q1 q2 q3 q4 q5 q6 => (q3, q4, q6)) bZ x1 x2 x4 s.1 s.2.1 c s.2.1.toInt16.toInt32 s.2.2) else (j_X3_fillWorths_41 (fun q0 q1 q2 q3 q4 q5 q6 => (q3, q4, q6)) bZ x1 x2 x4 s.1 s.2.1 c s.2.1 s.2.2))
noncomputable def ex_X3_fillWorths_9 {R : Type} (po : Int32 → (Nat → Int32) → R) (bZ x1 x2 x4 c : Int32) (s : Int32 × Int32 × (Nat → Int32)) : R := po s.1 s.2.2
set_option maxHeartbeats 200000 in
set_option maxRecDepth 10000 in
theorem dl_X3_fillWorths_9 {P Q : Int32 → (Nat → Int32) → Prop} {bZ x1 x2 x4 : Int32} {a : Int32 × Int32 × (Nat → Int32)} {i : Nat} (hi0 : i < 2147483648) (hE : ∀ (c : Int32) (s : Int32 × Int32 × (Nat → Int32)), c = nI (i + (Int32.toInt bZ - ((i : Nat) : Int)).toNat) → s = itr (bd_X3_fillWorths_9 bZ x1 x2 x4) a i (Int32.toInt bZ - ((i : Nat) : Int)).toNat → (P s.1 s.2.2) → (Q s.1 s.2.2)) : ∀ (n k : Nat) (c : Int32), c = nI (i + k) → k ≤ (Int32.toInt bZ - ((i : Nat) : Int)).toNat → wb_X3_fillWorths_9 P bZ n x1 x2 x4 (itr (bd_X3_fillWorths_9 bZ x1 x2 x4) a i k).1 (itr (bd_X3_fillWorths_9 bZ x1 x2 x4) a i k).2.1 c (itr (bd_X3_fillWorths_9 bZ x1 x2 x4) a i k).2.2 → wb_X3_fillWorths_9 Q bZ n x1 x2 x4 (itr (bd_X3_fillWorths_9 bZ x1 x2 x4) a i k).1 (itr (bd_X3_fillWorths_9 bZ x1 x2 x4) a i k).2.1 c (itr (bd_X3_fillWorths_9 bZ x1 x2 x4) a i k).2.2 := by
  intro n
  induction n with
  | zero => intro k c hc hk h; exact False.elim h
  | succ n ih =>
    intro k c hc hk h
    have hr := tp_r bZ
    have hi : Int32.toInt c = ((i + k : Nat) : Int) := by rw [hc]; exact nI_toInt (by omega)
    refine And.intro (fun t0 => ?_) (fun t0 => ?_)
    · have h := And.left h t0
      have t1 := (fa_le _ _).mp t0
      have hk2 : k = (Int32.toInt bZ - ((i : Nat) : Int)).toNat := by omega
      subst hk2
      exact hE _ _ hc rfl h
    · have h := And.right h t0
      have t1 := mt (fa_le _ _).mpr t0
      have hs : ∀ o : Int32 × Int32 × (Nat → Int32), o = itr (bd_X3_fillWorths_9 bZ x1 x2 x4) a i (k + 1) → wb_X3_fillWorths_9 P bZ n x1 x2 x4 o.1 o.2.1 (c + 1) o.2.2 → wb_X3_fillWorths_9 Q bZ n x1 x2 x4 o.1 o.2.1 (c + 1) o.2.2 := by
        intro o eo h9
        have q := ih (k + 1) (c + 1) (by rw [hc]; exact nI_1 _) (by omega)
        rw [← eo] at q
        exact q h9
      rw [itr_s, ← hc, bd_X3_fillWorths_9] at hs
      refine And.intro (fun c1 => ?_) (fun c1 => ?_)
      · have h := And.left h c1
        rw [if_neg c1] at hs
        refine And.intro (fun c2 => ?_) (fun c2 => ?_)
        · have h := And.left h c2
          rw [if_neg c2] at hs
          rw [j_X3_fillWorths_41] at hs
          unfold ws_X3_fillWorths_41 at h ⊢
          refine And.intro (fun c3 => ?_) (fun c3 => ?_)
          · have h := And.left h c3
            rw [if_pos c3] at hs
            rw [j_X3_fillWorths_70] at hs
            unfold ws_X3_fillWorths_70 at h ⊢
            refine And.intro (And.left h) ?_
            have h := And.right h
            refine And.intro (And.left h) ?_
            have h := And.right h
            refine ae ?_
            have h := h _ rfl
            refine ae ?_
            have h := h _ rfl
            refine ae ?_
            have h := h _ rfl
            have q9 := hs _ rfl
            dsimp only at q9
            exact q9 h
          · have h := And.right h c3
            rw [if_neg c3] at hs
            refine ae ?_
            have h := h _ rfl
            refine ae ?_
            have h := h _ rfl
            rw [j_X3_fillWorths_70] at hs
            unfold ws_X3_fillWorths_70 at h ⊢
            refine And.intro (And.left h) ?_
            have h := And.right h
            refine And.intro (And.left h) ?_
            have h := And.right h
            refine ae ?_
            have h := h _ rfl
            refine ae ?_
            have h := h _ rfl
            refine ae ?_
            have h := h _ rfl
            have q9 := hs _ rfl
            dsimp only at q9
            exact q9 h
        · have h := And.right h c2
          rw [if_pos c2] at hs
          refine ae ?_
          have h := h _ rfl
          rw [j_X3_fillWorths_41] at hs
          unfold ws_X3_fillWorths_41 at h ⊢
          refine And.intro (fun c4 => ?_) (fun c4 => ?_)
          · have h := And.left h c4
            rw [if_pos c4] at hs
            rw [j_X3_fillWorths_70] at hs
            unfold ws_X3_fillWorths_70 at h ⊢
            refine And.intro (And.left h) ?_
            have h := And.right h
            refine And.intro (And.left h) ?_
            have h := And.right h
            refine ae ?_
            have h := h _ rfl
            refine ae ?_
            have h := h _ rfl
            refine ae ?_
            have h := h _ rfl
            have q9 := hs _ rfl
            dsimp only at q9
            exact q9 h
          · have h := And.right h c4
            rw [if_neg c4] at hs
            refine ae ?_
            have h := h _ rfl
            refine ae ?_
            have h := h _ rfl
            rw [j_X3_fillWorths_70] at hs
            unfold ws_X3_fillWorths_70 at h ⊢
            refine And.intro (And.left h) ?_
            have h := And.right h
            refine And.intro (And.left h) ?_
            have h := And.right h
            refine ae ?_
            have h := h _ rfl
            refine ae ?_
            have h := h _ rfl
            refine ae ?_
            have h := h _ rfl
            have q9 := hs _ rfl
            dsimp only at q9
            exact q9 h
      · have h := And.right h c1
        rw [if_pos c1] at hs
        refine ae ?_
        have h := h _ rfl
        rw [j_X3_fillWorths_41] at hs
        unfold ws_X3_fillWorths_41 at h ⊢
        refine And.intro (fun c5 => ?_) (fun c5 => ?_)
        · have h := And.left h c5
          rw [if_pos c5] at hs
          rw [j_X3_fillWorths_70] at hs
          unfold ws_X3_fillWorths_70 at h ⊢
          refine And.intro (And.left h) ?_
          have h := And.right h
          refine And.intro (And.left h) ?_
          have h := And.right h
          refine ae ?_
          have h := h _ rfl
          refine ae ?_
          have h := h _ rfl
          refine ae ?_
          have h := h _ rfl
          have q9 := hs _ rfl
          dsimp only at q9
          exact q9 h
        · have h := And.right h c5
          rw [if_neg c5] at hs
          refine ae ?_
          have h := h _ rfl
          refine ae ?_
          have h := h _ rfl
          rw [j_X3_fillWorths_70] at hs
          unfold ws_X3_fillWorths_70 at h ⊢
          refine And.intro (And.left h) ?_
          have h := And.right h
          refine And.intro (And.left h) ?_
          have h := And.right h
          refine ae ?_
          have h := h _ rfl
          refine ae ?_
          have h := h _ rfl
          refine ae ?_
          have h := h _ rfl
          have q9 := hs _ rfl
          dsimp only at q9
          exact q9 h
noncomputable def F_X3_fillWorths (p0 p1 p2 p3 bZ : Int32) (pE : Nat → Int32) : Int32 × (Nat → Int32) := ex_X3_fillWorths_9 (fun o0 o1 => (o0, o1)) bZ p0 p1 p3 (nI (0 + (Int32.toInt bZ - ((0 : Nat) : Int)).toNat)) (itr (bd_X3_fillWorths_9 bZ p0 p1 p3) (0, p2, pE) 0 (Int32.toInt bZ - ((0 : Nat) : Int)).toNat)
set_option maxHeartbeats 200000 in
set_option maxRecDepth 10000 in
theorem dt_X3_fillWorths {P Q : Int32 → (Nat → Int32) → Prop} {p0 p1 p2 p3 bZ : Int32} {pE : Nat → Int32} (h : wp_X3_fillWorths P p0 p1 p2 p3 bZ pE) (hq : ∀ o : Int32 × (Nat → Int32), o = F_X3_fillWorths p0 p1 p2 p3 bZ pE → P o.1 o.2 → Q o.1 o.2) : wp_X3_fillWorths Q p0 p1 p2 p3 bZ pE := by
  rw [F_X3_fillWorths] at hq
  obtain ⟨n1, h⟩ := h
  refine ⟨n1, dl_X3_fillWorths_9 (a := (0, p2, pE)) (i := 0) (by decide) ?_ n1 0 0 (by decide) (Nat.zero_le _) h⟩
  intro cc2 s3 ec4 es5 h
  rw [← ec4, ← es5, ex_X3_fillWorths_9] at hq
  have q9 := hq _ rfl
  dsimp only at q9
  exact q9 h
theorem du_X3_fillWorths {P Q : Int32 → (Nat → Int32) → Prop} {p0 p1 p2 p3 bZ : Int32} {pE : Nat → Int32} (h : wp_X3_fillWorths P p0 p1 p2 p3 bZ pE) (hq : P (F_X3_fillWorths p0 p1 p2 p3 bZ pE).1 (F_X3_fillWorths p0 p1 p2 p3 bZ pE).2 → Q (F_X3_fillWorths p0 p1 p2 p3 bZ pE).1 (F_X3_fillWorths p0 p1 p2 p3 bZ pE).2) : wp_X3_fillWorths Q p0 p1 p2 p3 bZ pE := dt_X3_fillWorths h (fun o eo => by rw [eo]; exact hq)
noncomputable def F_X9_sheet (p0 p1 p2 p3 bZ : Int32) (pE : Nat → Int32) : Int32 × (Nat → Int32) := if p0 < 0 then ((-1), pE) else (if 3 < p0 then ((-1), pE) else (if p1 ≤ 16 then (if p0 = 3 then ((-3), (F_X3_fillWorths 2 0 0 0 bZ pE).2) else (if 0 ≤ p1 then ((F_X3_fillWorths p0 p1 p2 p3 bZ pE).1, (F_X3_fillWorths p0 p1 p2 p3 bZ pE).2) else ((-2), pE))) else ((-1), pE)))
set_option maxHeartbeats 200000 in
set_option maxRecDepth 10000 in
theorem dt_X9_sheet {P Q : Int32 → (Nat → Int32) → Prop} {p0 p1 p2 p3 bZ : Int32} {pE : Nat → Int32} (h : wp_X9_sheet P p0 p1 p2 p3 bZ pE) (hq : ∀ o : Int32 × (Nat → Int32), o = F_X9_sheet p0 p1 p2 p3 bZ pE → P o.1 o.2 → Q o.1 o.2) : wp_X9_sheet Q p0 p1 p2 p3 bZ pE := by
  rw [F_X9_sheet] at hq
  refine And.intro (fun c1 => ?_) (fun c1 => ?_)
  · have h := And.left h c1
    rw [if_pos c1] at hq
    have q9 := hq _ rfl
    dsimp only at q9
    exact q9 h
  · have h := And.right h c1
    rw [if_neg c1] at hq
    refine And.intro (fun c2 => ?_) (fun c2 => ?_)
    · have h := And.left h c2
      rw [if_pos c2] at hq
      have q9 := hq _ rfl
      dsimp only at q9
      exact q9 h
    · have h := And.right h c2
      rw [if_neg c2] at hq
      refine And.intro (fun c3 => ?_) (fun c3 => ?_)
      · have h := And.left h c3
        rw [if_pos c3] at hq
        refine And.intro (fun c4 => ?_) (fun c4 => ?_)
        · have h := And.left h c4
          rw [if_neg c4] at hq
          refine And.intro (fun c5 => ?_) (fun c5 => ?_)
          · have h := And.left h c5
            rw [if_pos c5] at hq
            refine du_X3_fillWorths h ?_
            intro h
            have q9 := hq _ rfl
            dsimp only at q9
            exact q9 h
          · have h := And.right h c5
            rw [if_neg c5] at hq
            have q9 := hq _ rfl
            dsimp only at q9
            exact q9 h
        · have h := And.right h c4
          rw [if_pos c4] at hq
          refine du_X3_fillWorths h ?_
          intro h
          have q9 := hq _ rfl
          dsimp only at q9
          exact q9 h
      · have h := And.right h c3
        rw [if_neg c3] at hq
        have q9 := hq _ rfl
        dsimp only at q9
        exact q9 h
theorem du_X9_sheet {P Q : Int32 → (Nat → Int32) → Prop} {p0 p1 p2 p3 bZ : Int32} {pE : Nat → Int32} (h : wp_X9_sheet P p0 p1 p2 p3 bZ pE) (hq : P (F_X9_sheet p0 p1 p2 p3 bZ pE).1 (F_X9_sheet p0 p1 p2 p3 bZ pE).2 → Q (F_X9_sheet p0 p1 p2 p3 bZ pE).1 (F_X9_sheet p0 p1 p2 p3 bZ pE).2) : wp_X9_sheet Q p0 p1 p2 p3 bZ pE := dt_X9_sheet h (fun o eo => by rw [eo]; exact hq)
theorem dw_X9_sheet {Q : Int32 → (Nat → Int32) → Prop} {p0 p1 p2 p3 bZ : Int32} {pE : Nat → Int32} (h : wp_X9_sheet (fun o0 o1 => (o0, o1) = F_X9_sheet p0 p1 p2 p3 bZ pE → Q o0 o1) p0 p1 p2 p3 bZ pE) : wp_X9_sheet Q p0 p1 p2 p3 bZ pE := dt_X9_sheet h (fun o eo hp => hp eo)
noncomputable def j_X10_sheet_109 {R : Type} (k43 : Int32 → Int32 → Int32 → Int32 → Int32 → Int32 → Int32 → (Nat → Int32) → R) (bW x1 x2 x4 x5 x6 x7 k1 k2 dG : Int32) (pY : Nat → Int32) : R := k43 x1 x2 x4 (x5 + ((upd pY k1.toNatClampNeg k2) x7.toNatClampNeg)) (x6 + x4) (x7 + 1) dG (upd pY k1.toNatClampNeg k2)
noncomputable def j_X10_sheet_94 {R : Type} (k43 : Int32 → Int32 → Int32 → Int32 → Int32 → Int32 → Int32 → (Nat → Int32) → R) (bW x1 x2 x4 x5 x6 x7 k1 dG : Int32) (pY : Nat → Int32) : R := j_X10_sheet_109 k43 bW x1 x2 x4 x5 x6 x7 k1 0 dG pY
noncomputable def j_X10_sheet_75 {R : Type} (k43 : Int32 → Int32 → Int32 → Int32 → Int32 → Int32 → Int32 → (Nat → Int32) → R) (bW x1 x2 x4 x5 x6 x7 k0 dG : Int32) (pY : Nat → Int32) : R := if x1 = 3 then (j_X10_sheet_94 k43 bW x1 x2 x4 x5 x6 x7 x7 dG pY) else (if x7 < x2 then (j_X10_sheet_109 k43 bW x1 x2 x4 x5 x6 x7 x7 (if 0 < (if k0 < 9 then k0 else 9) then (if k0 < 9 then k0 else 9) else 0) dG pY) else (j_X10_sheet_94 k43 bW x1 x2 x4 x5 x6 x7 x7 dG pY))
noncomputable def bd_X10_sheet_43 (bW x1 x2 x4 dG c : Int32) (s : Int32 × Int32 × (Nat → Int32)) : Int32 × Int32 × (Nat → Int32) := if x1 = 0 then (j_X10_sheet_75 (fun q0 q1 q2 q3 q4 q5 q6 q7 => (q3, q4, q7)) bW x1 x2 x4 s.1 s.2.1 c s.2.1.toInt8.toInt32 dG s.2.2) else (if x1 = 1 then (j_X10_sheet_75 (fun q0 q1 q2 q3 q4 q5 q6 q7 => (q3, q4, q7)) bW x1 x2 x4 s.1 s.2.1 c s.2.1.toInt16.toInt32 dG s.2.2) else (j_X10_sheet_75 (fun q0 q1 q2 q3 q4 q5 q6 q7 => (q3, q4, q7)) bW x1 x2 x4 s.1 s.2.1 c s.2.1 dG s.2.2))
noncomputable def ex_X10_sheet_43 {R : Type} (po : Int32 → Int32 → (Nat → Int32) → R) (bW x1 x2 x4 dG c : Int32) (s : Int32 × Int32 × (Nat → Int32)) : R := if x1 = 3 then (po (-3) dG s.2.2) else (po s.1 dG s.2.2)
set_option maxHeartbeats 200000 in
set_option maxRecDepth 10000 in
theorem dl_X10_sheet_43 {P Q : Int32 → Int32 → (Nat → Int32) → Prop} {bW x1 x2 x4 dG : Int32} {a : Int32 × Int32 × (Nat → Int32)} {i : Nat} (hi0 : i < 2147483648) (hE : ∀ (c : Int32) (s : Int32 × Int32 × (Nat → Int32)), c = nI (i + (Int32.toInt bW - ((i : Nat) : Int)).toNat) → s = itr (bd_X10_sheet_43 bW x1 x2 x4 dG) a i (Int32.toInt bW - ((i : Nat) : Int)).toNat → ((¬ x1 = 3 → P s.1 dG s.2.2) ∧ (x1 = 3 → P (-3) dG s.2.2)) → ((¬ x1 = 3 → Q s.1 dG s.2.2) ∧ (x1 = 3 → Q (-3) dG s.2.2))) : ∀ (n k : Nat) (c : Int32), c = nI (i + k) → k ≤ (Int32.toInt bW - ((i : Nat) : Int)).toNat → wb_X10_sheet_43 P bW n x1 x2 x4 (itr (bd_X10_sheet_43 bW x1 x2 x4 dG) a i k).1 (itr (bd_X10_sheet_43 bW x1 x2 x4 dG) a i k).2.1 c dG (itr (bd_X10_sheet_43 bW x1 x2 x4 dG) a i k).2.2 → wb_X10_sheet_43 Q bW n x1 x2 x4 (itr (bd_X10_sheet_43 bW x1 x2 x4 dG) a i k).1 (itr (bd_X10_sheet_43 bW x1 x2 x4 dG) a i k).2.1 c dG (itr (bd_X10_sheet_43 bW x1 x2 x4 dG) a i k).2.2 := by
  intro n
  induction n with
  | zero => intro k c hc hk h; exact False.elim h
  | succ n ih =>
    intro k c hc hk h
    have hr := tp_r bW
    have hi : Int32.toInt c = ((i + k : Nat) : Int) := by rw [hc]; exact nI_toInt (by omega)
    refine And.intro (fun t0 => ?_) (fun t0 => ?_)
    · have h := And.left h t0
      have t1 := (fa_le _ _).mp t0
      have hk2 : k = (Int32.toInt bW - ((i : Nat) : Int)).toNat := by omega
      subst hk2
      exact hE _ _ hc rfl h
    · have h := And.right h t0
      have t1 := mt (fa_le _ _).mpr t0
      have hs : ∀ o : Int32 × Int32 × (Nat → Int32), o = itr (bd_X10_sheet_43 bW x1 x2 x4 dG) a i (k + 1) → wb_X10_sheet_43 P bW n x1 x2 x4 o.1 o.2.1 (c + 1) dG o.2.2 → wb_X10_sheet_43 Q bW n x1 x2 x4 o.1 o.2.1 (c + 1) dG o.2.2 := by
        intro o eo h9
        have q := ih (k + 1) (c + 1) (by rw [hc]; exact nI_1 _) (by omega)
        rw [← eo] at q
        exact q h9
      rw [itr_s, ← hc, bd_X10_sheet_43] at hs
      refine And.intro (fun c1 => ?_) (fun c1 => ?_)
      · have h := And.left h c1
        rw [if_neg c1] at hs
        refine And.intro (fun c2 => ?_) (fun c2 => ?_)
        · have h := And.left h c2
          rw [if_neg c2] at hs
          rw [j_X10_sheet_75] at hs
          unfold ws_X10_sheet_75 at h ⊢
          refine And.intro (fun c3 => ?_) (fun c3 => ?_)
          · have h := And.left h c3
            rw [if_pos c3] at hs
            rw [j_X10_sheet_94] at hs
            unfold ws_X10_sheet_94 at h ⊢
            rw [j_X10_sheet_109] at hs
            unfold ws_X10_sheet_109 at h ⊢
            refine And.intro (And.left h) ?_
            have h := And.right h
            refine And.intro (And.left h) ?_
            have h := And.right h
            refine ae ?_
            have h := h _ rfl
            refine ae ?_
            have h := h _ rfl
            refine ae ?_
            have h := h _ rfl
            have q9 := hs _ rfl
            dsimp only at q9
            exact q9 h
          · have h := And.right h c3
            rw [if_neg c3] at hs
            refine And.intro (fun c4 => ?_) (fun c4 => ?_)
            · have h := And.left h c4
              rw [if_pos c4] at hs
              refine ae ?_
              have h := h _ rfl
              refine ae ?_
              have h := h _ rfl
              rw [j_X10_sheet_109] at hs
              unfold ws_X10_sheet_109 at h ⊢
              refine And.intro (And.left h) ?_
              have h := And.right h
              refine And.intro (And.left h) ?_
              have h := And.right h
              refine ae ?_
              have h := h _ rfl
              refine ae ?_
              have h := h _ rfl
              refine ae ?_
              have h := h _ rfl
              have q9 := hs _ rfl
              dsimp only at q9
              exact q9 h
            · have h := And.right h c4
              rw [if_neg c4] at hs
              rw [j_X10_sheet_94] at hs
              unfold ws_X10_sheet_94 at h ⊢
              rw [j_X10_sheet_109] at hs
              unfold ws_X10_sheet_109 at h ⊢
              refine And.intro (And.left h) ?_
              have h := And.right h
              refine And.intro (And.left h) ?_
              have h := And.right h
              refine ae ?_
              have h := h _ rfl
              refine ae ?_
              have h := h _ rfl
              refine ae ?_
              have h := h _ rfl
              have q9 := hs _ rfl
              dsimp only at q9
              exact q9 h
        · have h := And.right h c2
          rw [if_pos c2] at hs
          refine ae ?_
          have h := h _ rfl
          rw [j_X10_sheet_75] at hs
          unfold ws_X10_sheet_75 at h ⊢
          refine And.intro (fun c5 => ?_) (fun c5 => ?_)
          · have h := And.left h c5
            rw [if_pos c5] at hs
            rw [j_X10_sheet_94] at hs
            unfold ws_X10_sheet_94 at h ⊢
            rw [j_X10_sheet_109] at hs
            unfold ws_X10_sheet_109 at h ⊢
            refine And.intro (And.left h) ?_
            have h := And.right h
            refine And.intro (And.left h) ?_
            have h := And.right h
            refine ae ?_
            have h := h _ rfl
            refine ae ?_
            have h := h _ rfl
            refine ae ?_
            have h := h _ rfl
            have q9 := hs _ rfl
            dsimp only at q9
            exact q9 h
          · have h := And.right h c5
            rw [if_neg c5] at hs
            refine And.intro (fun c6 => ?_) (fun c6 => ?_)
            · have h := And.left h c6
              rw [if_pos c6] at hs
              refine ae ?_
              have h := h _ rfl
              refine ae ?_
              have h := h _ rfl
              rw [j_X10_sheet_109] at hs
              unfold ws_X10_sheet_109 at h ⊢
              refine And.intro (And.left h) ?_
              have h := And.right h
              refine And.intro (And.left h) ?_
              have h := And.right h
              refine ae ?_
              have h := h _ rfl
              refine ae ?_
              have h := h _ rfl
              refine ae ?_
              have h := h _ rfl
              have q9 := hs _ rfl
              dsimp only at q9
              exact q9 h
            · have h := And.right h c6
              rw [if_neg c6] at hs
              rw [j_X10_sheet_94] at hs
              unfold ws_X10_sheet_94 at h ⊢
              rw [j_X10_sheet_109] at hs
              unfold ws_X10_sheet_109 at h ⊢
              refine And.intro (And.left h) ?_
              have h := And.right h
              refine And.intro (And.left h) ?_
              have h := And.right h
              refine ae ?_
              have h := h _ rfl
              refine ae ?_
              have h := h _ rfl
              refine ae ?_
              have h := h _ rfl
              have q9 := hs _ rfl
              dsimp only at q9
              exact q9 h
      · have h := And.right h c1
        rw [if_pos c1] at hs
        refine ae ?_
        have h := h _ rfl
        rw [j_X10_sheet_75] at hs
        unfold ws_X10_sheet_75 at h ⊢
        refine And.intro (fun c7 => ?_) (fun c7 => ?_)
        · have h := And.left h c7
          rw [if_pos c7] at hs
          rw [j_X10_sheet_94] at hs
          unfold ws_X10_sheet_94 at h ⊢
          rw [j_X10_sheet_109] at hs
          unfold ws_X10_sheet_109 at h ⊢
          refine And.intro (And.left h) ?_
          have h := And.right h
          refine And.intro (And.left h) ?_
          have h := And.right h
          refine ae ?_
          have h := h _ rfl
          refine ae ?_
          have h := h _ rfl
          refine ae ?_
          have h := h _ rfl
          have q9 := hs _ rfl
          dsimp only at q9
          exact q9 h
        · have h := And.right h c7
          rw [if_neg c7] at hs
          refine And.intro (fun c8 => ?_) (fun c8 => ?_)
          · have h := And.left h c8
            rw [if_pos c8] at hs
            refine ae ?_
            have h := h _ rfl
            refine ae ?_
            have h := h _ rfl
            rw [j_X10_sheet_109] at hs
            unfold ws_X10_sheet_109 at h ⊢
            refine And.intro (And.left h) ?_
            have h := And.right h
            refine And.intro (And.left h) ?_
            have h := And.right h
            refine ae ?_
            have h := h _ rfl
            refine ae ?_
            have h := h _ rfl
            refine ae ?_
            have h := h _ rfl
            have q9 := hs _ rfl
            dsimp only at q9
            exact q9 h
          · have h := And.right h c8
            rw [if_neg c8] at hs
            rw [j_X10_sheet_94] at hs
            unfold ws_X10_sheet_94 at h ⊢
            rw [j_X10_sheet_109] at hs
            unfold ws_X10_sheet_109 at h ⊢
            refine And.intro (And.left h) ?_
            have h := And.right h
            refine And.intro (And.left h) ?_
            have h := And.right h
            refine ae ?_
            have h := h _ rfl
            refine ae ?_
            have h := h _ rfl
            refine ae ?_
            have h := h _ rfl
            have q9 := hs _ rfl
            dsimp only at q9
            exact q9 h
noncomputable def j_X10_sheet_34 {R : Type} (po : Int32 → Int32 → (Nat → Int32) → R) (bW x1 x2 x3 x4 dG : Int32) (pY : Nat → Int32) : R := ex_X10_sheet_43 po bW x1 x2 x4 dG (nI (0 + (Int32.toInt bW - ((0 : Nat) : Int)).toNat)) (itr (bd_X10_sheet_43 bW x1 x2 x4 dG) (0, x3, pY) 0 (Int32.toInt bW - ((0 : Nat) : Int)).toNat)
noncomputable def F_X10_sheet (p0 p1 p2 p3 bW dG : Int32) (pY : Nat → Int32) : Int32 × Int32 × (Nat → Int32) := if (F_X10_in p0 0 3) = 0 then ((-1), 0, pY) else (if p1 ≤ 16 then (if 3 ≤ p0 then (j_X10_sheet_34 (fun o0 o1 o2 => (o0, o1, o2)) bW p0 p1 p2 p3 0 pY) else (if 0 ≤ p1 then (j_X10_sheet_34 (fun o0 o1 o2 => (o0, o1, o2)) bW p0 p1 p2 p3 0 pY) else ((-2), 0, pY))) else ((-1), 0, pY))
set_option maxHeartbeats 200000 in
set_option maxRecDepth 10000 in
theorem dt_X10_sheet {P Q : Int32 → Int32 → (Nat → Int32) → Prop} {p0 p1 p2 p3 bW dG : Int32} {pY : Nat → Int32} (h : wp_X10_sheet P p0 p1 p2 p3 bW dG pY) (hq : ∀ o : Int32 × Int32 × (Nat → Int32), o = F_X10_sheet p0 p1 p2 p3 bW dG pY → P o.1 o.2.1 o.2.2 → Q o.1 o.2.1 o.2.2) : wp_X10_sheet Q p0 p1 p2 p3 bW dG pY := by
  rw [F_X10_sheet] at hq
  refine du_X10_in h ?_
  intro h
  refine And.intro (fun c1 => ?_) (fun c1 => ?_)
  · have h := And.left h c1
    rw [if_pos c1] at hq
    have q9 := hq _ rfl
    dsimp only at q9
    exact q9 h
  · have h := And.right h c1
    rw [if_neg c1] at hq
    refine And.intro (fun c2 => ?_) (fun c2 => ?_)
    · have h := And.left h c2
      rw [if_pos c2] at hq
      refine And.intro (fun c3 => ?_) (fun c3 => ?_)
      · have h := And.left h c3
        rw [if_pos c3] at hq
        rw [j_X10_sheet_34] at hq
        unfold ws_X10_sheet_34 at h ⊢
        obtain ⟨n4, h⟩ := h
        refine ⟨n4, dl_X10_sheet_43 (a := (0, p2, pY)) (i := 0) (by decide) ?_ n4 0 0 (by decide) (Nat.zero_le _) h⟩
        intro cc5 s6 ec7 es8 h
        rw [← ec7, ← es8, ex_X10_sheet_43] at hq
        refine And.intro (fun c9 => ?_) (fun c9 => ?_)
        · have h := And.left h c9
          rw [if_neg c9] at hq
          have q9 := hq _ rfl
          dsimp only at q9
          exact q9 h
        · have h := And.right h c9
          rw [if_pos c9] at hq
          have q9 := hq _ rfl
          dsimp only at q9
          exact q9 h
      · have h := And.right h c3
        rw [if_neg c3] at hq
        refine And.intro (fun c10 => ?_) (fun c10 => ?_)
        · have h := And.left h c10
          rw [if_pos c10] at hq
          rw [j_X10_sheet_34] at hq
          unfold ws_X10_sheet_34 at h ⊢
          obtain ⟨n11, h⟩ := h
          refine ⟨n11, dl_X10_sheet_43 (a := (0, p2, pY)) (i := 0) (by decide) ?_ n11 0 0 (by decide) (Nat.zero_le _) h⟩
          intro cc12 s13 ec14 es15 h
          rw [← ec14, ← es15, ex_X10_sheet_43] at hq
          refine And.intro (fun c16 => ?_) (fun c16 => ?_)
          · have h := And.left h c16
            rw [if_neg c16] at hq
            have q9 := hq _ rfl
            dsimp only at q9
            exact q9 h
          · have h := And.right h c16
            rw [if_pos c16] at hq
            have q9 := hq _ rfl
            dsimp only at q9
            exact q9 h
        · have h := And.right h c10
          rw [if_neg c10] at hq
          have q9 := hq _ rfl
          dsimp only at q9
          exact q9 h
    · have h := And.right h c2
      rw [if_neg c2] at hq
      have q9 := hq _ rfl
      dsimp only at q9
      exact q9 h
theorem du_X10_sheet {P Q : Int32 → Int32 → (Nat → Int32) → Prop} {p0 p1 p2 p3 bW dG : Int32} {pY : Nat → Int32} (h : wp_X10_sheet P p0 p1 p2 p3 bW dG pY) (hq : P (F_X10_sheet p0 p1 p2 p3 bW dG pY).1 (F_X10_sheet p0 p1 p2 p3 bW dG pY).2.1 (F_X10_sheet p0 p1 p2 p3 bW dG pY).2.2 → Q (F_X10_sheet p0 p1 p2 p3 bW dG pY).1 (F_X10_sheet p0 p1 p2 p3 bW dG pY).2.1 (F_X10_sheet p0 p1 p2 p3 bW dG pY).2.2) : wp_X10_sheet Q p0 p1 p2 p3 bW dG pY := dt_X10_sheet h (fun o eo => by rw [eo]; exact hq)
theorem dw_X10_sheet {Q : Int32 → Int32 → (Nat → Int32) → Prop} {p0 p1 p2 p3 bW dG : Int32} {pY : Nat → Int32} (h : wp_X10_sheet (fun o0 o1 o2 => (o0, o1, o2) = F_X10_sheet p0 p1 p2 p3 bW dG pY → Q o0 o1 o2) p0 p1 p2 p3 bW dG pY) : wp_X10_sheet Q p0 p1 p2 p3 bW dG pY := dt_X10_sheet h (fun o eo hp => hp eo)
noncomputable def j_X3_standingsAt_37 {R : Type} (k5 : Int32 → Int32 → Int32 → Int32 → R) (bD : Int32) (nJ : Nat → Int32) (x1 x2 x3 x4 : Int32) : R := k5 x1 x2 x3 (x4 + 1)
noncomputable def bd_X3_standingsAt_5 (bD : Int32) (nJ : Nat → Int32) (x1 x2 c s : Int32) : Int32 := if x2 < (if 0 ≤ ((nJ c.toNatClampNeg) - x1) then ((nJ c.toNatClampNeg) - x1) else 0 - ((nJ c.toNatClampNeg) - x1)) then (j_X3_standingsAt_37 (fun q0 q1 q2 q3 => q2) bD nJ x1 x2 s c) else (j_X3_standingsAt_37 (fun q0 q1 q2 q3 => q2) bD nJ x1 x2 (s ||| (1 <<< (c &&& 31))) c)
noncomputable def ex_X3_standingsAt_5 {R : Type} (po : Int32 → R) (bD : Int32) (nJ : Nat → Int32) (x1 x2 c s : Int32) : R := po s
set_option maxHeartbeats 200000 in
set_option maxRecDepth 10000 in
theorem dl_X3_standingsAt_5 {P Q : Int32 → Prop} {bD : Int32} {nJ : Nat → Int32} {x1 x2 a : Int32} {i : Nat} (hi0 : i < 2147483648) (hE : ∀ (c : Int32) (s : Int32), c = nI (i + (Int32.toInt bD - ((i : Nat) : Int)).toNat) → s = itr (bd_X3_standingsAt_5 bD nJ x1 x2) a i (Int32.toInt bD - ((i : Nat) : Int)).toNat → (P s) → (Q s)) : ∀ (n k : Nat) (c : Int32), c = nI (i + k) → k ≤ (Int32.toInt bD - ((i : Nat) : Int)).toNat → wb_X3_standingsAt_5 P bD nJ n x1 x2 (itr (bd_X3_standingsAt_5 bD nJ x1 x2) a i k) c → wb_X3_standingsAt_5 Q bD nJ n x1 x2 (itr (bd_X3_standingsAt_5 bD nJ x1 x2) a i k) c := by
  intro n
  induction n with
  | zero => intro k c hc hk h; exact False.elim h
  | succ n ih =>
    intro k c hc hk h
    have hr := tp_r bD
    have hi : Int32.toInt c = ((i + k : Nat) : Int) := by rw [hc]; exact nI_toInt (by omega)
    refine And.intro (fun t0 => ?_) (fun t0 => ?_)
    · have h := And.left h t0
      have t1 := (fa_le _ _).mp t0
      have hk2 : k = (Int32.toInt bD - ((i : Nat) : Int)).toNat := by omega
      subst hk2
      exact hE _ _ hc rfl h
    · have h := And.right h t0
      have t1 := mt (fa_le _ _).mpr t0
      have hs : ∀ o : Int32, o = itr (bd_X3_standingsAt_5 bD nJ x1 x2) a i (k + 1) → wb_X3_standingsAt_5 P bD nJ n x1 x2 o (c + 1) → wb_X3_standingsAt_5 Q bD nJ n x1 x2 o (c + 1) := by
        intro o eo h9
        have q := ih (k + 1) (c + 1) (by rw [hc]; exact nI_1 _) (by omega)
        rw [← eo] at q
        exact q h9
      rw [itr_s, ← hc, bd_X3_standingsAt_5] at hs
      refine And.intro (And.left h) ?_
      have h := And.right h
      refine ae ?_
      have h := h _ rfl
      refine ae ?_
      have h := h _ rfl
      refine ae ?_
      have h := h _ rfl
      refine And.intro (fun c1 => ?_) (fun c1 => ?_)
      · have h := And.left h c1
        rw [if_pos c1] at hs
        rw [j_X3_standingsAt_37] at hs
        unfold ws_X3_standingsAt_37 at h ⊢
        refine ae ?_
        have h := h _ rfl
        have q9 := hs _ rfl
        exact q9 h
      · have h := And.right h c1
        rw [if_neg c1] at hs
        refine ae ?_
        have h := h _ rfl
        rw [j_X3_standingsAt_37] at hs
        unfold ws_X3_standingsAt_37 at h ⊢
        refine ae ?_
        have h := h _ rfl
        have q9 := hs _ rfl
        exact q9 h
noncomputable def F_X3_standingsAt (p0 p1 bD : Int32) (nJ : Nat → Int32) : Int32 := ex_X3_standingsAt_5 (fun o0 => o0) bD nJ p0 p1 (nI (0 + (Int32.toInt bD - ((0 : Nat) : Int)).toNat)) (itr (bd_X3_standingsAt_5 bD nJ p0 p1) 0 0 (Int32.toInt bD - ((0 : Nat) : Int)).toNat)
set_option maxHeartbeats 200000 in
set_option maxRecDepth 10000 in
theorem dt_X3_standingsAt {P Q : Int32 → Prop} {p0 p1 bD : Int32} {nJ : Nat → Int32} (h : wp_X3_standingsAt P p0 p1 bD nJ) (hq : ∀ o : Int32, o = F_X3_standingsAt p0 p1 bD nJ → P o → Q o) : wp_X3_standingsAt Q p0 p1 bD nJ := by
  rw [F_X3_standingsAt] at hq
  obtain ⟨n1, h⟩ := h
  refine ⟨n1, dl_X3_standingsAt_5 (a := 0) (i := 0) (by decide) ?_ n1 0 0 (by decide) (Nat.zero_le _) h⟩
  intro cc2 s3 ec4 es5 h
  rw [← ec4, ← es5, ex_X3_standingsAt_5] at hq
  have q9 := hq _ rfl
  exact q9 h
theorem du_X3_standingsAt {P Q : Int32 → Prop} {p0 p1 bD : Int32} {nJ : Nat → Int32} (h : wp_X3_standingsAt P p0 p1 bD nJ) (hq : P (F_X3_standingsAt p0 p1 bD nJ) → Q (F_X3_standingsAt p0 p1 bD nJ)) : wp_X3_standingsAt Q p0 p1 bD nJ := dt_X3_standingsAt h (fun o eo => by rw [eo]; exact hq)
noncomputable def F_X9_marks (p0 p1 bD : Int32) (nJ : Nat → Int32) : Int32 := if p0 < 0 then (-1) else (if 99 < p0 then (-1) else (if p1 < 0 then (-1) else (if p1 ≤ 99 then (F_X3_standingsAt p0 p1 bD nJ) else (-1))))
set_option maxHeartbeats 200000 in
set_option maxRecDepth 10000 in
theorem dt_X9_marks {P Q : Int32 → Prop} {p0 p1 bD : Int32} {nJ : Nat → Int32} (h : wp_X9_marks P p0 p1 bD nJ) (hq : ∀ o : Int32, o = F_X9_marks p0 p1 bD nJ → P o → Q o) : wp_X9_marks Q p0 p1 bD nJ := by
  rw [F_X9_marks] at hq
  refine And.intro (fun c1 => ?_) (fun c1 => ?_)
  · have h := And.left h c1
    rw [if_pos c1] at hq
    have q9 := hq _ rfl
    exact q9 h
  · have h := And.right h c1
    rw [if_neg c1] at hq
    refine And.intro (fun c2 => ?_) (fun c2 => ?_)
    · have h := And.left h c2
      rw [if_pos c2] at hq
      have q9 := hq _ rfl
      exact q9 h
    · have h := And.right h c2
      rw [if_neg c2] at hq
      refine And.intro (fun c3 => ?_) (fun c3 => ?_)
      · have h := And.left h c3
        rw [if_pos c3] at hq
        have q9 := hq _ rfl
        exact q9 h
      · have h := And.right h c3
        rw [if_neg c3] at hq
        refine And.intro (fun c4 => ?_) (fun c4 => ?_)
        · have h := And.left h c4
          rw [if_pos c4] at hq
          refine du_X3_standingsAt h ?_
          intro h
          have q9 := hq _ rfl
          exact q9 h
        · have h := And.right h c4
          rw [if_neg c4] at hq
          have q9 := hq _ rfl
          exact q9 h
theorem du_X9_marks {P Q : Int32 → Prop} {p0 p1 bD : Int32} {nJ : Nat → Int32} (h : wp_X9_marks P p0 p1 bD nJ) (hq : P (F_X9_marks p0 p1 bD nJ) → Q (F_X9_marks p0 p1 bD nJ)) : wp_X9_marks Q p0 p1 bD nJ := dt_X9_marks h (fun o eo => by rw [eo]; exact hq)
theorem dw_X9_marks {Q : Int32 → Prop} {p0 p1 bD : Int32} {nJ : Nat → Int32} (h : wp_X9_marks (fun o0 => o0 = F_X9_marks p0 p1 bD nJ → Q o0) p0 p1 bD nJ) : wp_X9_marks Q p0 p1 bD nJ := dt_X9_marks h (fun o eo hp => hp eo)
noncomputable def j_X10_marks_66 {R : Type} (k32 : Int32 → Int32 → Int32 → Int32 → Int32 → R) (aG : Int32) (oY : Nat → Int32) (x1 x2 x4 k0 k1 dG : Int32) : R := k32 x1 x2 (k0 ||| k1) (x4 + 1) dG
noncomputable def bd_X10_marks_32 (aG : Int32) (oY : Nat → Int32) (x1 x2 dG c s : Int32) : Int32 := if x2 < (if 0 ≤ ((oY c.toNatClampNeg) - x1) then ((oY c.toNatClampNeg) - x1) else 0 - ((oY c.toNatClampNeg) - x1)) then (j_X10_marks_66 (fun q0 q1 q2 q3 q4 => q2) aG oY x1 x2 c s 0 dG) else (j_X10_marks_66 (fun q0 q1 q2 q3 q4 => q2) aG oY x1 x2 c s (1 <<< (c &&& 31)) dG)
noncomputable def ex_X10_marks_32 {R : Type} (po : Int32 → Int32 → R) (aG : Int32) (oY : Nat → Int32) (x1 x2 dG c s : Int32) : R := po s dG
set_option maxHeartbeats 200000 in
set_option maxRecDepth 10000 in
theorem dl_X10_marks_32 {P Q : Int32 → Int32 → Prop} {aG : Int32} {oY : Nat → Int32} {x1 x2 dG a : Int32} {i : Nat} (hi0 : i < 2147483648) (hE : ∀ (c : Int32) (s : Int32), c = nI (i + (Int32.toInt aG - ((i : Nat) : Int)).toNat) → s = itr (bd_X10_marks_32 aG oY x1 x2 dG) a i (Int32.toInt aG - ((i : Nat) : Int)).toNat → (P s dG) → (Q s dG)) : ∀ (n k : Nat) (c : Int32), c = nI (i + k) → k ≤ (Int32.toInt aG - ((i : Nat) : Int)).toNat → wb_X10_marks_32 P aG oY n x1 x2 (itr (bd_X10_marks_32 aG oY x1 x2 dG) a i k) c dG → wb_X10_marks_32 Q aG oY n x1 x2 (itr (bd_X10_marks_32 aG oY x1 x2 dG) a i k) c dG := by
  intro n
  induction n with
  | zero => intro k c hc hk h; exact False.elim h
  | succ n ih =>
    intro k c hc hk h
    have hr := tp_r aG
    have hi : Int32.toInt c = ((i + k : Nat) : Int) := by rw [hc]; exact nI_toInt (by omega)
    refine And.intro (fun t0 => ?_) (fun t0 => ?_)
    · have h := And.left h t0
      have t1 := (fa_le _ _).mp t0
      have hk2 : k = (Int32.toInt aG - ((i : Nat) : Int)).toNat := by omega
      subst hk2
      exact hE _ _ hc rfl h
    · have h := And.right h t0
      have t1 := mt (fa_le _ _).mpr t0
      have hs : ∀ o : Int32, o = itr (bd_X10_marks_32 aG oY x1 x2 dG) a i (k + 1) → wb_X10_marks_32 P aG oY n x1 x2 o (c + 1) dG → wb_X10_marks_32 Q aG oY n x1 x2 o (c + 1) dG := by
        intro o eo h9
        have q := ih (k + 1) (c + 1) (by rw [hc]; exact nI_1 _) (by omega)
        rw [← eo] at q
        exact q h9
      rw [itr_s, ← hc, bd_X10_marks_32] at hs
      refine And.intro (And.left h) ?_
      have h := And.right h
      refine ae ?_
      have h := h _ rfl
      refine ae ?_
      have h := h _ rfl
      refine ae ?_
      have h := h _ rfl
      refine And.intro (fun c1 => ?_) (fun c1 => ?_)
      · have h := And.left h c1
        rw [if_pos c1] at hs
        rw [j_X10_marks_66] at hs
        unfold ws_X10_marks_66 at h ⊢
        refine ae ?_
        have h := h _ rfl
        refine ae ?_
        have h := h _ rfl
        have q9 := hs _ rfl
        exact q9 h
      · have h := And.right h c1
        rw [if_neg c1] at hs
        refine ae ?_
        have h := h _ rfl
        rw [j_X10_marks_66] at hs
        unfold ws_X10_marks_66 at h ⊢
        refine ae ?_
        have h := h _ rfl
        refine ae ?_
        have h := h _ rfl
        have q9 := hs _ rfl
        exact q9 h
noncomputable def F_X10_marks (p0 p1 aG dG : Int32) (oY : Nat → Int32) : Int32 × Int32 := if (F_X10_in p0 0 99) = 0 then ((-1), 0) else (if (F_X10_in p1 0 99) = 0 then ((-1), 0) else (ex_X10_marks_32 (fun o0 o1 => (o0, o1)) aG oY p0 p1 0 (nI (0 + (Int32.toInt aG - ((0 : Nat) : Int)).toNat)) (itr (bd_X10_marks_32 aG oY p0 p1 0) 0 0 (Int32.toInt aG - ((0 : Nat) : Int)).toNat)))
set_option maxHeartbeats 200000 in
set_option maxRecDepth 10000 in
theorem dt_X10_marks {P Q : Int32 → Int32 → Prop} {p0 p1 aG dG : Int32} {oY : Nat → Int32} (h : wp_X10_marks P p0 p1 aG dG oY) (hq : ∀ o : Int32 × Int32, o = F_X10_marks p0 p1 aG dG oY → P o.1 o.2 → Q o.1 o.2) : wp_X10_marks Q p0 p1 aG dG oY := by
  rw [F_X10_marks] at hq
  refine du_X10_in h ?_
  intro h
  refine And.intro (fun c1 => ?_) (fun c1 => ?_)
  · have h := And.left h c1
    rw [if_pos c1] at hq
    have q9 := hq _ rfl
    dsimp only at q9
    exact q9 h
  · have h := And.right h c1
    rw [if_neg c1] at hq
    refine du_X10_in h ?_
    intro h
    refine And.intro (fun c2 => ?_) (fun c2 => ?_)
    · have h := And.left h c2
      rw [if_neg c2] at hq
      obtain ⟨n3, h⟩ := h
      refine ⟨n3, dl_X10_marks_32 (a := 0) (i := 0) (by decide) ?_ n3 0 0 (by decide) (Nat.zero_le _) h⟩
      intro cc4 s5 ec6 es7 h
      rw [← ec6, ← es7, ex_X10_marks_32] at hq
      have q9 := hq _ rfl
      dsimp only at q9
      exact q9 h
    · have h := And.right h c2
      rw [if_pos c2] at hq
      have q9 := hq _ rfl
      dsimp only at q9
      exact q9 h
theorem du_X10_marks {P Q : Int32 → Int32 → Prop} {p0 p1 aG dG : Int32} {oY : Nat → Int32} (h : wp_X10_marks P p0 p1 aG dG oY) (hq : P (F_X10_marks p0 p1 aG dG oY).1 (F_X10_marks p0 p1 aG dG oY).2 → Q (F_X10_marks p0 p1 aG dG oY).1 (F_X10_marks p0 p1 aG dG oY).2) : wp_X10_marks Q p0 p1 aG dG oY := dt_X10_marks h (fun o eo => by rw [eo]; exact hq)
theorem dw_X10_marks {Q : Int32 → Int32 → Prop} {p0 p1 aG dG : Int32} {oY : Nat → Int32} (h : wp_X10_marks (fun o0 o1 => (o0, o1) = F_X10_marks p0 p1 aG dG oY → Q o0 o1) p0 p1 aG dG oY) : wp_X10_marks Q p0 p1 aG dG oY := dt_X10_marks h (fun o eo hp => hp eo)
noncomputable def F_X3_hasStanding (p0 bD : Int32) : Int32 := if p0 < 0 then 0 else (if bD ≤ p0 then 0 else 1)
set_option maxHeartbeats 200000 in
set_option maxRecDepth 10000 in
theorem dt_X3_hasStanding {P Q : Int32 → Prop} {p0 bD : Int32} (h : wp_X3_hasStanding P p0 bD) (hq : ∀ o : Int32, o = F_X3_hasStanding p0 bD → P o → Q o) : wp_X3_hasStanding Q p0 bD := by
  rw [F_X3_hasStanding] at hq
  refine And.intro (fun c1 => ?_) (fun c1 => ?_)
  · have h := And.left h c1
    rw [if_pos c1] at hq
    have q9 := hq _ rfl
    exact q9 h
  · have h := And.right h c1
    rw [if_neg c1] at hq
    refine And.intro (fun c2 => ?_) (fun c2 => ?_)
    · have h := And.left h c2
      rw [if_pos c2] at hq
      have q9 := hq _ rfl
      exact q9 h
    · have h := And.right h c2
      rw [if_neg c2] at hq
      have q9 := hq _ rfl
      exact q9 h
theorem du_X3_hasStanding {P Q : Int32 → Prop} {p0 bD : Int32} (h : wp_X3_hasStanding P p0 bD) (hq : P (F_X3_hasStanding p0 bD) → Q (F_X3_hasStanding p0 bD)) : wp_X3_hasStanding Q p0 bD := dt_X3_hasStanding h (fun o eo => by rw [eo]; exact hq)
noncomputable def F_X3_downSeconds (p0 : Int32) (nY : Nat → Int32) : Int32 := (3 + (((nY p0.toNatClampNeg) + 9) / 10))
set_option maxHeartbeats 200000 in
set_option maxRecDepth 10000 in
theorem dt_X3_downSeconds {P Q : Int32 → Prop} {p0 : Int32} {nY : Nat → Int32} (h : wp_X3_downSeconds P p0 nY) (hq : ∀ o : Int32, o = F_X3_downSeconds p0 nY → P o → Q o) : wp_X3_downSeconds Q p0 nY := by
  rw [F_X3_downSeconds] at hq
  refine And.intro (And.left h) ?_
  have h := And.right h
  refine ae ?_
  have h := h _ rfl
  refine ae ?_
  have h := h _ rfl
  have q9 := hq _ rfl
  exact q9 h
theorem du_X3_downSeconds {P Q : Int32 → Prop} {p0 : Int32} {nY : Nat → Int32} (h : wp_X3_downSeconds P p0 nY) (hq : P (F_X3_downSeconds p0 nY) → Q (F_X3_downSeconds p0 nY)) : wp_X3_downSeconds Q p0 nY := dt_X3_downSeconds h (fun o eo => by rw [eo]; exact hq)
noncomputable def F_X9_standing (p0 p1 bD : Int32) (nJ nY : Nat → Int32) : Option Int32 := if (F_X3_hasStanding p0 bD) = 0 then none else (if p1 = 0 then (some (nJ p0.toNatClampNeg)) else (if p1 = 1 then (some (nY p0.toNatClampNeg)) else (if p1 = 2 then (some (F_X3_downSeconds p0 nY)) else none)))
set_option maxHeartbeats 200000 in
set_option maxRecDepth 10000 in
theorem dt_X9_standing {P Q : Int32 → Prop} {Px Qx : Prop} {p0 p1 bD : Int32} {nJ nY : Nat → Int32} (h : wp_X9_standing P Px p0 p1 bD nJ nY) (hq : ∀ o : Option Int32, o = F_X9_standing p0 p1 bD nJ nY → Option.elim o Px P → Option.elim o Qx Q) : wp_X9_standing Q Qx p0 p1 bD nJ nY := by
  rw [F_X9_standing] at hq
  refine du_X3_hasStanding h ?_
  intro h
  refine And.intro (fun c1 => ?_) (fun c1 => ?_)
  · have h := And.left h c1
    rw [if_neg c1] at hq
    refine (And.intro (fun c2 => ?_) (And.intro (fun c3 => ?_) (And.intro (fun c4 => ?_) (fun c2 c3 c4 => ?_))))
    · have h := And.left h c2
      rw [if_pos c2] at hq
      refine And.intro (And.left h) ?_
      have h := And.right h
      have q9 := hq _ rfl
      exact q9 h
    · have h := And.left (And.right h) c3
      rw [if_neg (fun e9 => absurd (e9.symm.trans c3) (by decide)), if_pos c3] at hq
      refine And.intro (And.left h) ?_
      have h := And.right h
      have q9 := hq _ rfl
      exact q9 h
    · have h := And.left (And.right (And.right h)) c4
      rw [if_neg (fun e9 => absurd (e9.symm.trans c4) (by decide)), if_neg (fun e9 => absurd (e9.symm.trans c4) (by decide)), if_pos c4] at hq
      refine du_X3_downSeconds h ?_
      intro h
      have q9 := hq _ rfl
      exact q9 h
    · have h := And.right (And.right (And.right h)) c2 c3 c4
      rw [if_neg c2, if_neg c3, if_neg c4] at hq
      have q9 := hq _ rfl
      exact q9 h
  · have h := And.right h c1
    rw [if_pos c1] at hq
    have q9 := hq _ rfl
    exact q9 h
noncomputable def F_X10_isStanding (p0 aG : Int32) : Int32 := (F_X10_in p0 0 (aG - 1))
set_option maxHeartbeats 200000 in
set_option maxRecDepth 10000 in
theorem dt_X10_isStanding {P Q : Int32 → Prop} {p0 aG : Int32} (h : wp_X10_isStanding P p0 aG) (hq : ∀ o : Int32, o = F_X10_isStanding p0 aG → P o → Q o) : wp_X10_isStanding Q p0 aG := by
  rw [F_X10_isStanding] at hq
  refine ae ?_
  have h := h _ rfl
  refine du_X10_in h ?_
  intro h
  refine And.intro (And.left h) ?_
  have h := And.right h
  have q9 := hq _ rfl
  exact q9 h
theorem du_X10_isStanding {P Q : Int32 → Prop} {p0 aG : Int32} (h : wp_X10_isStanding P p0 aG) (hq : P (F_X10_isStanding p0 aG) → Q (F_X10_isStanding p0 aG)) : wp_X10_isStanding Q p0 aG := dt_X10_isStanding h (fun o eo => by rw [eo]; exact hq)
theorem dw_X10_isStanding {Q : Int32 → Prop} {p0 aG : Int32} (h : wp_X10_isStanding (fun o0 => o0 = F_X10_isStanding p0 aG → Q o0) p0 aG) : wp_X10_isStanding Q p0 aG := dt_X10_isStanding h (fun o eo hp => hp eo)
noncomputable def F_X10_downOf (p0 : Int32) (pR : Nat → Int32) : Int32 := (3 + (((pR p0.toNatClampNeg) + 9) / 10))
set_option maxHeartbeats 200000 in
set_option maxRecDepth 10000 in
theorem dt_X10_downOf {P Q : Int32 → Prop} {p0 : Int32} {pR : Nat → Int32} (h : wp_X10_downOf P p0 pR) (hq : ∀ o : Int32, o = F_X10_downOf p0 pR → P o → Q o) : wp_X10_downOf Q p0 pR := by
  rw [F_X10_downOf] at hq
  refine And.intro (And.left h) ?_
  have h := And.right h
  refine ae ?_
  have h := h _ rfl
  refine ae ?_
  have h := h _ rfl
  have q9 := hq _ rfl
  exact q9 h
theorem du_X10_downOf {P Q : Int32 → Prop} {p0 : Int32} {pR : Nat → Int32} (h : wp_X10_downOf P p0 pR) (hq : P (F_X10_downOf p0 pR) → Q (F_X10_downOf p0 pR)) : wp_X10_downOf Q p0 pR := dt_X10_downOf h (fun o eo => by rw [eo]; exact hq)
theorem dw_X10_downOf {Q : Int32 → Prop} {p0 : Int32} {pR : Nat → Int32} (h : wp_X10_downOf (fun o0 => o0 = F_X10_downOf p0 pR → Q o0) p0 pR) : wp_X10_downOf Q p0 pR := dt_X10_downOf h (fun o eo hp => hp eo)
noncomputable def F_X10_lost (dG : Int32) : Int32 × Int32 := (0, 1)
set_option maxHeartbeats 200000 in
set_option maxRecDepth 10000 in
theorem dt_X10_lost {P Q : Int32 → Int32 → Prop} {dG : Int32} (h : wp_X10_lost P dG) (hq : ∀ o : Int32 × Int32, o = F_X10_lost dG → P o.1 o.2 → Q o.1 o.2) : wp_X10_lost Q dG := by
  rw [F_X10_lost] at hq
  have q9 := hq _ rfl
  dsimp only at q9
  exact q9 h
theorem du_X10_lost {P Q : Int32 → Int32 → Prop} {dG : Int32} (h : wp_X10_lost P dG) (hq : P (F_X10_lost dG).1 (F_X10_lost dG).2 → Q (F_X10_lost dG).1 (F_X10_lost dG).2) : wp_X10_lost Q dG := dt_X10_lost h (fun o eo => by rw [eo]; exact hq)
theorem dw_X10_lost {Q : Int32 → Int32 → Prop} {dG : Int32} (h : wp_X10_lost (fun o0 o1 => (o0, o1) = F_X10_lost dG → Q o0 o1) dG) : wp_X10_lost Q dG := dt_X10_lost h (fun o eo hp => hp eo)
noncomputable def j_X10_standing_22 {R : Type} (po : Int32 → Int32 → R) (aG : Int32) (oY pR : Nat → Int32) (dG : Int32) : R := po ((F_X10_lost dG).1) ((F_X10_lost dG).2)
noncomputable def F_X10_standing (p0 p1 aG dG : Int32) (oY pR : Nat → Int32) : Int32 × Int32 := if (F_X10_isStanding p0 aG) = 0 then (j_X10_standing_22 (fun o0 o1 => (o0, o1)) aG oY pR 0) else (if (F_X10_in p1 0 2) = 0 then (j_X10_standing_22 (fun o0 o1 => (o0, o1)) aG oY pR 0) else (if p1 = 0 then ((oY p0.toNatClampNeg), 0) else (if p1 = 1 then ((pR p0.toNatClampNeg), 0) else ((F_X10_downOf p0 pR), 0))))
set_option maxHeartbeats 200000 in
set_option maxRecDepth 10000 in
theorem dt_X10_standing {P Q : Int32 → Int32 → Prop} {p0 p1 aG dG : Int32} {oY pR : Nat → Int32} (h : wp_X10_standing P p0 p1 aG dG oY pR) (hq : ∀ o : Int32 × Int32, o = F_X10_standing p0 p1 aG dG oY pR → P o.1 o.2 → Q o.1 o.2) : wp_X10_standing Q p0 p1 aG dG oY pR := by
  rw [F_X10_standing] at hq
  refine du_X10_isStanding h ?_
  intro h
  refine And.intro (fun c1 => ?_) (fun c1 => ?_)
  · have h := And.left h c1
    rw [if_pos c1] at hq
    rw [j_X10_standing_22] at hq
    unfold ws_X10_standing_22 at h ⊢
    refine du_X10_lost h ?_
    intro h
    have q9 := hq _ rfl
    dsimp only at q9
    exact q9 h
  · have h := And.right h c1
    rw [if_neg c1] at hq
    refine du_X10_in h ?_
    intro h
    refine And.intro (fun c2 => ?_) (fun c2 => ?_)
    · have h := And.left h c2
      rw [if_neg c2] at hq
      refine And.intro (fun c3 => ?_) (fun c3 => ?_)
      · have h := And.left h c3
        rw [if_neg c3] at hq
        refine And.intro (fun c4 => ?_) (fun c4 => ?_)
        · have h := And.left h c4
          rw [if_neg c4] at hq
          refine du_X10_downOf h ?_
          intro h
          have q9 := hq _ rfl
          dsimp only at q9
          exact q9 h
        · have h := And.right h c4
          rw [if_pos c4] at hq
          refine And.intro (And.left h) ?_
          have h := And.right h
          refine ae ?_
          have h := h _ rfl
          have q9 := hq _ rfl
          dsimp only at q9
          exact q9 h
      · have h := And.right h c3
        rw [if_pos c3] at hq
        refine And.intro (And.left h) ?_
        have h := And.right h
        refine ae ?_
        have h := h _ rfl
        have q9 := hq _ rfl
        dsimp only at q9
        exact q9 h
    · have h := And.right h c2
      rw [if_pos c2] at hq
      rw [j_X10_standing_22] at hq
      unfold ws_X10_standing_22 at h ⊢
      refine du_X10_lost h ?_
      intro h
      have q9 := hq _ rfl
      dsimp only at q9
      exact q9 h
theorem du_X10_standing {P Q : Int32 → Int32 → Prop} {p0 p1 aG dG : Int32} {oY pR : Nat → Int32} (h : wp_X10_standing P p0 p1 aG dG oY pR) (hq : P (F_X10_standing p0 p1 aG dG oY pR).1 (F_X10_standing p0 p1 aG dG oY pR).2 → Q (F_X10_standing p0 p1 aG dG oY pR).1 (F_X10_standing p0 p1 aG dG oY pR).2) : wp_X10_standing Q p0 p1 aG dG oY pR := dt_X10_standing h (fun o eo => by rw [eo]; exact hq)
theorem dw_X10_standing {Q : Int32 → Int32 → Prop} {p0 p1 aG dG : Int32} {oY pR : Nat → Int32} (h : wp_X10_standing (fun o0 o1 => (o0, o1) = F_X10_standing p0 p1 aG dG oY pR → Q o0 o1) p0 p1 aG dG oY pR) : wp_X10_standing Q p0 p1 aG dG oY pR := dt_X10_standing h (fun o eo hp => hp eo)
noncomputable def F_X3_hasFruit (p0 bZ : Int32) : Int32 := if p0 < 0 then 0 else (if bZ ≤ p0 then 0 else 1)
set_option maxHeartbeats 200000 in
set_option maxRecDepth 10000 in
theorem dt_X3_hasFruit {P Q : Int32 → Prop} {p0 bZ : Int32} (h : wp_X3_hasFruit P p0 bZ) (hq : ∀ o : Int32, o = F_X3_hasFruit p0 bZ → P o → Q o) : wp_X3_hasFruit Q p0 bZ := by
  rw [F_X3_hasFruit] at hq
  refine And.intro (fun c1 => ?_) (fun c1 => ?_)
  · have h := And.left h c1
    rw [if_pos c1] at hq
    have q9 := hq _ rfl
    exact q9 h
  · have h := And.right h c1
    rw [if_neg c1] at hq
    refine And.intro (fun c2 => ?_) (fun c2 => ?_)
    · have h := And.left h c2
      rw [if_pos c2] at hq
      have q9 := hq _ rfl
      exact q9 h
    · have h := And.right h c2
      rw [if_neg c2] at hq
      have q9 := hq _ rfl
      exact q9 h
theorem du_X3_hasFruit {P Q : Int32 → Prop} {p0 bZ : Int32} (h : wp_X3_hasFruit P p0 bZ) (hq : P (F_X3_hasFruit p0 bZ) → Q (F_X3_hasFruit p0 bZ)) : wp_X3_hasFruit Q p0 bZ := dt_X3_hasFruit h (fun o eo => by rw [eo]; exact hq)
noncomputable def F_X3_aside (p0 p1 : Int32) (wD nJ : Nat → Int32) : Int32 := if (wD p0.toNatClampNeg) ≤ (nJ p1.toNatClampNeg) then ((nJ p1.toNatClampNeg) - (wD p0.toNatClampNeg)) else ((wD p0.toNatClampNeg) - (nJ p1.toNatClampNeg))
set_option maxHeartbeats 200000 in
set_option maxRecDepth 10000 in
theorem dt_X3_aside {P Q : Int32 → Prop} {p0 p1 : Int32} {wD nJ : Nat → Int32} (h : wp_X3_aside P p0 p1 wD nJ) (hq : ∀ o : Int32, o = F_X3_aside p0 p1 wD nJ → P o → Q o) : wp_X3_aside Q p0 p1 wD nJ := by
  rw [F_X3_aside] at hq
  refine And.intro (And.left h) ?_
  have h := And.right h
  refine ae ?_
  have h := h _ rfl
  refine And.intro (And.left h) ?_
  have h := And.right h
  refine And.intro (fun c1 => ?_) (fun c1 => ?_)
  · have h := And.left h c1
    rw [if_pos c1] at hq
    refine And.intro (And.left h) ?_
    have h := And.right h
    refine ae ?_
    have h := h _ rfl
    refine And.intro (And.left h) ?_
    have h := And.right h
    have q9 := hq _ rfl
    exact q9 h
  · have h := And.right h c1
    rw [if_neg c1] at hq
    refine And.intro (And.left h) ?_
    have h := And.right h
    refine ae ?_
    have h := h _ rfl
    refine And.intro (And.left h) ?_
    have h := And.right h
    refine ae ?_
    have h := h _ rfl
    have q9 := hq _ rfl
    exact q9 h
theorem du_X3_aside {P Q : Int32 → Prop} {p0 p1 : Int32} {wD nJ : Nat → Int32} (h : wp_X3_aside P p0 p1 wD nJ) (hq : P (F_X3_aside p0 p1 wD nJ) → Q (F_X3_aside p0 p1 wD nJ)) : wp_X3_aside Q p0 p1 wD nJ := dt_X3_aside h (fun o eo => by rw [eo]; exact hq)
noncomputable def F_X3_above (p0 p1 : Int32) (gF nY : Nat → Int32) : Int32 := if (gF p0.toNatClampNeg) ≤ (nY p1.toNatClampNeg) then 0 else ((gF p0.toNatClampNeg) - (nY p1.toNatClampNeg))
set_option maxHeartbeats 200000 in
set_option maxRecDepth 10000 in
theorem dt_X3_above {P Q : Int32 → Prop} {p0 p1 : Int32} {gF nY : Nat → Int32} (h : wp_X3_above P p0 p1 gF nY) (hq : ∀ o : Int32, o = F_X3_above p0 p1 gF nY → P o → Q o) : wp_X3_above Q p0 p1 gF nY := by
  rw [F_X3_above] at hq
  refine And.intro (And.left h) ?_
  have h := And.right h
  refine ae ?_
  have h := h _ rfl
  refine And.intro (And.left h) ?_
  have h := And.right h
  refine And.intro (fun c1 => ?_) (fun c1 => ?_)
  · have h := And.left h c1
    rw [if_pos c1] at hq
    have q9 := hq _ rfl
    exact q9 h
  · have h := And.right h c1
    rw [if_neg c1] at hq
    refine And.intro (And.left h) ?_
    have h := And.right h
    refine ae ?_
    have h := h _ rfl
    refine And.intro (And.left h) ?_
    have h := And.right h
    refine ae ?_
    have h := h _ rfl
    have q9 := hq _ rfl
    exact q9 h
theorem du_X3_above {P Q : Int32 → Prop} {p0 p1 : Int32} {gF nY : Nat → Int32} (h : wp_X3_above P p0 p1 gF nY) (hq : P (F_X3_above p0 p1 gF nY) → Q (F_X3_above p0 p1 gF nY)) : wp_X3_above Q p0 p1 gF nY := dt_X3_above h (fun o eo => by rw [eo]; exact hq)
noncomputable def F_X3_isWithin (p0 p1 p2 : Int32) (wD gF nJ nY : Nat → Int32) : Int32 := if (p2 * p2) < (((F_X3_aside p0 p1 wD nJ) * (F_X3_aside p0 p1 wD nJ)) + ((F_X3_above p0 p1 gF nY) * (F_X3_above p0 p1 gF nY))) then 0 else 1
set_option maxHeartbeats 200000 in
set_option maxRecDepth 10000 in
theorem dt_X3_isWithin {P Q : Int32 → Prop} {p0 p1 p2 : Int32} {wD gF nJ nY : Nat → Int32} (h : wp_X3_isWithin P p0 p1 p2 wD gF nJ nY) (hq : ∀ o : Int32, o = F_X3_isWithin p0 p1 p2 wD gF nJ nY → P o → Q o) : wp_X3_isWithin Q p0 p1 p2 wD gF nJ nY := by
  rw [F_X3_isWithin] at hq
  refine du_X3_aside h ?_
  intro h
  refine du_X3_above h ?_
  intro h
  refine ae ?_
  have h := h _ rfl
  refine ae ?_
  have h := h _ rfl
  refine And.intro (fun c1 => ?_) (fun c1 => ?_)
  · have h := And.left h c1
    rw [if_pos c1] at hq
    have q9 := hq _ rfl
    exact q9 h
  · have h := And.right h c1
    rw [if_neg c1] at hq
    have q9 := hq _ rfl
    exact q9 h
theorem du_X3_isWithin {P Q : Int32 → Prop} {p0 p1 p2 : Int32} {wD gF nJ nY : Nat → Int32} (h : wp_X3_isWithin P p0 p1 p2 wD gF nJ nY) (hq : P (F_X3_isWithin p0 p1 p2 wD gF nJ nY) → Q (F_X3_isWithin p0 p1 p2 wD gF nJ nY)) : wp_X3_isWithin Q p0 p1 p2 wD gF nJ nY := dt_X3_isWithin h (fun o eo => by rw [eo]; exact hq)
noncomputable def fs_X3_leanNeeded_2 {R : Type} (po : Int32 → R) (wD gF nJ nY dQ : Nat → Int32) (nx : Int32 → Int32 → Int32 → R) (x1 x2 x3 : Int32) : R := if 30 < x3 then (po (-2)) else (if (F_X3_isWithin x1 x2 ((dQ (0 : Int32).toNatClampNeg) + x3) wD gF nJ nY) = 0 then (nx x1 x2 (x3 + 1)) else (po x3))
set_option maxHeartbeats 200000 in
set_option maxRecDepth 10000 in
theorem dl_X3_leanNeeded_2 {P Q : Int32 → Prop} {wD gF nJ nY dQ : Nat → Int32} {R : Type} {po : Int32 → R} {d : Int32 → Int32 → Int32 → R} : ∀ (n m : Nat) (x1 x2 x3 : Int32), 0 ≤ Int32.toInt x3 ∧ Int32.toInt x3 ≤ 31 → 31 - Int32.toInt x3 < (m : Int) → wb_X3_leanNeeded_2 P wD gF nJ nY dQ n x1 x2 x3 → (∀ (b0 : Int32), po b0 = flp (fs_X3_leanNeeded_2 po wD gF nJ nY dQ) d m x1 x2 x3 → P b0 → Q b0) → wb_X3_leanNeeded_2 Q wD gF nJ nY dQ n x1 x2 x3 := by
  have l1 : Int32.toInt (1 : Int32) = 1 := by decide
  have l30 : Int32.toInt (30 : Int32) = 30 := by decide
  intro n
  induction n with
  | zero => intro m x1 x2 x3 hv hm h hq; exact False.elim h
  | succ n ih =>
    intro m x1 x2 x3 hv hm h hq
    cases m with
    | zero => exfalso; omega
    | succ m =>
      rw [flp_s, fs_X3_leanNeeded_2] at hq
      have h : ws_X3_leanNeeded_2 P (wb_X3_leanNeeded_2 P wD gF nJ nY dQ n) wD gF nJ nY dQ x1 x2 x3 := h
      show ws_X3_leanNeeded_2 Q (wb_X3_leanNeeded_2 Q wD gF nJ nY dQ n) wD gF nJ nY dQ x1 x2 x3
      unfold ws_X3_leanNeeded_2 at h ⊢
      refine And.intro (fun c1 => ?_) (fun c1 => ?_)
      · have h := And.left h c1
        rw [if_pos c1] at hq
        have dc1 := (fa_lt _ _).mp c1
        exact hq _ rfl h
      · have h := And.right h c1
        rw [if_neg c1] at hq
        have dc1 := mt (fa_lt _ _).mpr c1
        refine ae ?_
        have h := h _ rfl
        refine ae ?_
        have h := h _ rfl
        refine du_X3_isWithin h ?_
        intro h
        refine And.intro (fun c2 => ?_) (fun c2 => ?_)
        · have h := And.left h c2
          rw [if_pos c2] at hq
          have dc2 := (fa_eq _ _).mp c2
          refine ae ?_
          have h := h _ rfl
          have f9 := ta_add x3 1 (by omega)
          exact ih m _ _ _ (by omega) (by omega) h hq
        · have h := And.right h c2
          rw [if_neg c2] at hq
          have dc2 := mt (fa_eq _ _).mpr c2
          exact hq _ rfl h
noncomputable def F_X3_leanNeeded (p0 p1 : Int32) (wD gF nJ nY dQ : Nat → Int32) : Int32 := flp (fs_X3_leanNeeded_2 (fun o0 => o0) wD gF nJ nY dQ) (fun _ _ _ => 0) 32 p0 p1 0
set_option maxHeartbeats 200000 in
set_option maxRecDepth 10000 in
theorem dt_X3_leanNeeded {P Q : Int32 → Prop} {p0 p1 : Int32} {wD gF nJ nY dQ : Nat → Int32} (h : wp_X3_leanNeeded P p0 p1 wD gF nJ nY dQ) (hq : ∀ o : Int32, o = F_X3_leanNeeded p0 p1 wD gF nJ nY dQ → P o → Q o) : wp_X3_leanNeeded Q p0 p1 wD gF nJ nY dQ := by
  rw [F_X3_leanNeeded] at hq
  obtain ⟨n1, h⟩ := h
  exact ⟨n1, dl_X3_leanNeeded_2 n1 32 _ _ _ (by decide) (by decide) h (fun b0 e9 h9 => hq b0 e9 h9)⟩
theorem du_X3_leanNeeded {P Q : Int32 → Prop} {p0 p1 : Int32} {wD gF nJ nY dQ : Nat → Int32} (h : wp_X3_leanNeeded P p0 p1 wD gF nJ nY dQ) (hq : P (F_X3_leanNeeded p0 p1 wD gF nJ nY dQ) → Q (F_X3_leanNeeded p0 p1 wD gF nJ nY dQ)) : wp_X3_leanNeeded Q p0 p1 wD gF nJ nY dQ := dt_X3_leanNeeded h (fun o eo => by rw [eo]; exact hq)
noncomputable def F_X9_leaned (p0 p1 bZ bD : Int32) (wD gF nJ nY dQ : Nat → Int32) : Int32 := if (F_X3_hasFruit p0 bZ) = 0 then (-1) else (if (F_X3_hasStanding p1 bD) = 0 then (-1) else (F_X3_leanNeeded p0 p1 wD gF nJ nY dQ))
set_option maxHeartbeats 200000 in
set_option maxRecDepth 10000 in
theorem dt_X9_leaned {P Q : Int32 → Prop} {p0 p1 bZ bD : Int32} {wD gF nJ nY dQ : Nat → Int32} (h : wp_X9_leaned P p0 p1 bZ bD wD gF nJ nY dQ) (hq : ∀ o : Int32, o = F_X9_leaned p0 p1 bZ bD wD gF nJ nY dQ → P o → Q o) : wp_X9_leaned Q p0 p1 bZ bD wD gF nJ nY dQ := by
  rw [F_X9_leaned] at hq
  refine du_X3_hasFruit h ?_
  intro h
  refine And.intro (fun c1 => ?_) (fun c1 => ?_)
  · have h := And.left h c1
    rw [if_pos c1] at hq
    have q9 := hq _ rfl
    exact q9 h
  · have h := And.right h c1
    rw [if_neg c1] at hq
    refine du_X3_hasStanding h ?_
    intro h
    refine And.intro (fun c2 => ?_) (fun c2 => ?_)
    · have h := And.left h c2
      rw [if_neg c2] at hq
      refine du_X3_leanNeeded h ?_
      intro h
      have q9 := hq _ rfl
      exact q9 h
    · have h := And.right h c2
      rw [if_pos c2] at hq
      have q9 := hq _ rfl
      exact q9 h
theorem du_X9_leaned {P Q : Int32 → Prop} {p0 p1 bZ bD : Int32} {wD gF nJ nY dQ : Nat → Int32} (h : wp_X9_leaned P p0 p1 bZ bD wD gF nJ nY dQ) (hq : P (F_X9_leaned p0 p1 bZ bD wD gF nJ nY dQ) → Q (F_X9_leaned p0 p1 bZ bD wD gF nJ nY dQ)) : wp_X9_leaned Q p0 p1 bZ bD wD gF nJ nY dQ := dt_X9_leaned h (fun o eo => by rw [eo]; exact hq)
theorem dw_X9_leaned {Q : Int32 → Prop} {p0 p1 bZ bD : Int32} {wD gF nJ nY dQ : Nat → Int32} (h : wp_X9_leaned (fun o0 => o0 = F_X9_leaned p0 p1 bZ bD wD gF nJ nY dQ → Q o0) p0 p1 bZ bD wD gF nJ nY dQ) : wp_X9_leaned Q p0 p1 bZ bD wD gF nJ nY dQ := dt_X9_leaned h (fun o eo hp => hp eo)
noncomputable def F_X10_isFruit (p0 bW : Int32) : Int32 := (F_X10_in p0 0 (bW - 1))
set_option maxHeartbeats 200000 in
set_option maxRecDepth 10000 in
theorem dt_X10_isFruit {P Q : Int32 → Prop} {p0 bW : Int32} (h : wp_X10_isFruit P p0 bW) (hq : ∀ o : Int32, o = F_X10_isFruit p0 bW → P o → Q o) : wp_X10_isFruit Q p0 bW := by
  rw [F_X10_isFruit] at hq
  refine ae ?_
  have h := h _ rfl
  refine du_X10_in h ?_
  intro h
  refine And.intro (And.left h) ?_
  have h := And.right h
  have q9 := hq _ rfl
  exact q9 h
theorem du_X10_isFruit {P Q : Int32 → Prop} {p0 bW : Int32} (h : wp_X10_isFruit P p0 bW) (hq : P (F_X10_isFruit p0 bW) → Q (F_X10_isFruit p0 bW)) : wp_X10_isFruit Q p0 bW := dt_X10_isFruit h (fun o eo => by rw [eo]; exact hq)
theorem dw_X10_isFruit {Q : Int32 → Prop} {p0 bW : Int32} (h : wp_X10_isFruit (fun o0 => o0 = F_X10_isFruit p0 bW → Q o0) p0 bW) : wp_X10_isFruit Q p0 bW := dt_X10_isFruit h (fun o eo hp => hp eo)
noncomputable def F_X10_far (p0 p1 : Int32) (m_x oY : Nat → Int32) : Int32 := (if 0 ≤ ((m_x p0.toNatClampNeg) - (oY p1.toNatClampNeg)) then ((m_x p0.toNatClampNeg) - (oY p1.toNatClampNeg)) else 0 - ((m_x p0.toNatClampNeg) - (oY p1.toNatClampNeg)))
set_option maxHeartbeats 200000 in
set_option maxRecDepth 10000 in
theorem dt_X10_far {P Q : Int32 → Prop} {p0 p1 : Int32} {m_x oY : Nat → Int32} (h : wp_X10_far P p0 p1 m_x oY) (hq : ∀ o : Int32, o = F_X10_far p0 p1 m_x oY → P o → Q o) : wp_X10_far Q p0 p1 m_x oY := by
  rw [F_X10_far] at hq
  refine And.intro (And.left h) ?_
  have h := And.right h
  refine ae ?_
  have h := h _ rfl
  refine And.intro (And.left h) ?_
  have h := And.right h
  refine ae ?_
  have h := h _ rfl
  refine ae ?_
  have h := h _ rfl
  have q9 := hq _ rfl
  exact q9 h
theorem du_X10_far {P Q : Int32 → Prop} {p0 p1 : Int32} {m_x oY : Nat → Int32} (h : wp_X10_far P p0 p1 m_x oY) (hq : P (F_X10_far p0 p1 m_x oY) → Q (F_X10_far p0 p1 m_x oY)) : wp_X10_far Q p0 p1 m_x oY := dt_X10_far h (fun o eo => by rw [eo]; exact hq)
theorem dw_X10_far {Q : Int32 → Prop} {p0 p1 : Int32} {m_x oY : Nat → Int32} (h : wp_X10_far (fun o0 => o0 = F_X10_far p0 p1 m_x oY → Q o0) p0 p1 m_x oY) : wp_X10_far Q p0 p1 m_x oY := dt_X10_far h (fun o eo hp => hp eo)
noncomputable def F_X10_above (p0 p1 : Int32) (jA pR : Nat → Int32) : Int32 := (if 0 < ((jA p0.toNatClampNeg) - (pR p1.toNatClampNeg)) then ((jA p0.toNatClampNeg) - (pR p1.toNatClampNeg)) else 0)
set_option maxHeartbeats 200000 in
set_option maxRecDepth 10000 in
theorem dt_X10_above {P Q : Int32 → Prop} {p0 p1 : Int32} {jA pR : Nat → Int32} (h : wp_X10_above P p0 p1 jA pR) (hq : ∀ o : Int32, o = F_X10_above p0 p1 jA pR → P o → Q o) : wp_X10_above Q p0 p1 jA pR := by
  rw [F_X10_above] at hq
  refine And.intro (And.left h) ?_
  have h := And.right h
  refine ae ?_
  have h := h _ rfl
  refine And.intro (And.left h) ?_
  have h := And.right h
  refine ae ?_
  have h := h _ rfl
  refine ae ?_
  have h := h _ rfl
  have q9 := hq _ rfl
  exact q9 h
theorem du_X10_above {P Q : Int32 → Prop} {p0 p1 : Int32} {jA pR : Nat → Int32} (h : wp_X10_above P p0 p1 jA pR) (hq : P (F_X10_above p0 p1 jA pR) → Q (F_X10_above p0 p1 jA pR)) : wp_X10_above Q p0 p1 jA pR := dt_X10_above h (fun o eo => by rw [eo]; exact hq)
theorem dw_X10_above {Q : Int32 → Prop} {p0 p1 : Int32} {jA pR : Nat → Int32} (h : wp_X10_above (fun o0 => o0 = F_X10_above p0 p1 jA pR → Q o0) p0 p1 jA pR) : wp_X10_above Q p0 p1 jA pR := dt_X10_above h (fun o eo hp => hp eo)
noncomputable def F_X10_isWithin (p0 p1 p2 : Int32) (m_x jA oY pR : Nat → Int32) : Int32 := if (p2 * p2) < (((F_X10_far p0 p1 m_x oY) * (F_X10_far p0 p1 m_x oY)) + ((F_X10_above p0 p1 jA pR) * (F_X10_above p0 p1 jA pR))) then 0 else 1
set_option maxHeartbeats 200000 in
set_option maxRecDepth 10000 in
theorem dt_X10_isWithin {P Q : Int32 → Prop} {p0 p1 p2 : Int32} {m_x jA oY pR : Nat → Int32} (h : wp_X10_isWithin P p0 p1 p2 m_x jA oY pR) (hq : ∀ o : Int32, o = F_X10_isWithin p0 p1 p2 m_x jA oY pR → P o → Q o) : wp_X10_isWithin Q p0 p1 p2 m_x jA oY pR := by
  rw [F_X10_isWithin] at hq
  refine du_X10_far h ?_
  intro h
  refine du_X10_far h ?_
  intro h
  refine ae ?_
  have h := h _ rfl
  refine du_X10_above h ?_
  intro h
  refine du_X10_above h ?_
  intro h
  refine ae ?_
  have h := h _ rfl
  refine And.intro (fun c1 => ?_) (fun c1 => ?_)
  · have h := And.left h c1
    rw [if_pos c1] at hq
    have q9 := hq _ rfl
    exact q9 h
  · have h := And.right h c1
    rw [if_neg c1] at hq
    have q9 := hq _ rfl
    exact q9 h
theorem du_X10_isWithin {P Q : Int32 → Prop} {p0 p1 p2 : Int32} {m_x jA oY pR : Nat → Int32} (h : wp_X10_isWithin P p0 p1 p2 m_x jA oY pR) (hq : P (F_X10_isWithin p0 p1 p2 m_x jA oY pR) → Q (F_X10_isWithin p0 p1 p2 m_x jA oY pR)) : wp_X10_isWithin Q p0 p1 p2 m_x jA oY pR := dt_X10_isWithin h (fun o eo => by rw [eo]; exact hq)
theorem dw_X10_isWithin {Q : Int32 → Prop} {p0 p1 p2 : Int32} {m_x jA oY pR : Nat → Int32} (h : wp_X10_isWithin (fun o0 => o0 = F_X10_isWithin p0 p1 p2 m_x jA oY pR → Q o0) p0 p1 p2 m_x jA oY pR) : wp_X10_isWithin Q p0 p1 p2 m_x jA oY pR := dt_X10_isWithin h (fun o eo hp => hp eo)
noncomputable def fs_X10_leanOf_2 {R : Type} (po : Int32 → R) (m_x jA oY pR pX : Nat → Int32) (nx : Int32 → Int32 → Int32 → R) (x1 x2 x3 : Int32) : R := if 30 < x3 then (po x3) else (if (F_X10_isWithin x1 x2 ((pX (0 : Int32).toNatClampNeg) + x3) m_x jA oY pR) = 0 then (nx x1 x2 (x3 + 1)) else (po x3))
set_option maxHeartbeats 200000 in
set_option maxRecDepth 10000 in
theorem dl_X10_leanOf_2 {P Q : Int32 → Prop} {m_x jA oY pR pX : Nat → Int32} {R : Type} {po : Int32 → R} {d : Int32 → Int32 → Int32 → R} : ∀ (n m : Nat) (x1 x2 x3 : Int32), 0 ≤ Int32.toInt x3 ∧ Int32.toInt x3 ≤ 31 → 31 - Int32.toInt x3 < (m : Int) → wb_X10_leanOf_2 P m_x jA oY pR pX n x1 x2 x3 → (∀ (b0 : Int32), po b0 = flp (fs_X10_leanOf_2 po m_x jA oY pR pX) d m x1 x2 x3 → P b0 → Q b0) → wb_X10_leanOf_2 Q m_x jA oY pR pX n x1 x2 x3 := by
  have l1 : Int32.toInt (1 : Int32) = 1 := by decide
  have l30 : Int32.toInt (30 : Int32) = 30 := by decide
  intro n
  induction n with
  | zero => intro m x1 x2 x3 hv hm h hq; exact False.elim h
  | succ n ih =>
    intro m x1 x2 x3 hv hm h hq
    cases m with
    | zero => exfalso; omega
    | succ m =>
      rw [flp_s, fs_X10_leanOf_2] at hq
      have h : ws_X10_leanOf_2 P (wb_X10_leanOf_2 P m_x jA oY pR pX n) m_x jA oY pR pX x1 x2 x3 := h
      show ws_X10_leanOf_2 Q (wb_X10_leanOf_2 Q m_x jA oY pR pX n) m_x jA oY pR pX x1 x2 x3
      unfold ws_X10_leanOf_2 at h ⊢
      refine And.intro (fun c1 => ?_) (fun c1 => ?_)
      · have h := And.left h c1
        rw [if_pos c1] at hq
        have dc1 := (fa_lt _ _).mp c1
        exact hq _ rfl h
      · have h := And.right h c1
        rw [if_neg c1] at hq
        have dc1 := mt (fa_lt _ _).mpr c1
        refine ae ?_
        have h := h _ rfl
        refine ae ?_
        have h := h _ rfl
        refine du_X10_isWithin h ?_
        intro h
        refine And.intro (fun c2 => ?_) (fun c2 => ?_)
        · have h := And.left h c2
          rw [if_neg c2] at hq
          have dc2 := mt (fa_eq _ _).mpr c2
          exact hq _ rfl h
        · have h := And.right h c2
          rw [if_pos c2] at hq
          have dc2 := (fa_eq _ _).mp c2
          refine ae ?_
          have h := h _ rfl
          have f9 := ta_add x3 1 (by omega)
          exact ih m _ _ _ (by omega) (by omega) h hq
noncomputable def F_X10_leanOf (p0 p1 : Int32) (m_x jA oY pR pX : Nat → Int32) : Int32 := flp (fs_X10_leanOf_2 (fun o0 => o0) m_x jA oY pR pX) (fun _ _ _ => 0) 32 p0 p1 0
set_option maxHeartbeats 200000 in
set_option maxRecDepth 10000 in
theorem dt_X10_leanOf {P Q : Int32 → Prop} {p0 p1 : Int32} {m_x jA oY pR pX : Nat → Int32} (h : wp_X10_leanOf P p0 p1 m_x jA oY pR pX) (hq : ∀ o : Int32, o = F_X10_leanOf p0 p1 m_x jA oY pR pX → P o → Q o) : wp_X10_leanOf Q p0 p1 m_x jA oY pR pX := by
  rw [F_X10_leanOf] at hq
  obtain ⟨n1, h⟩ := h
  exact ⟨n1, dl_X10_leanOf_2 n1 32 _ _ _ (by decide) (by decide) h (fun b0 e9 h9 => hq b0 e9 h9)⟩
theorem du_X10_leanOf {P Q : Int32 → Prop} {p0 p1 : Int32} {m_x jA oY pR pX : Nat → Int32} (h : wp_X10_leanOf P p0 p1 m_x jA oY pR pX) (hq : P (F_X10_leanOf p0 p1 m_x jA oY pR pX) → Q (F_X10_leanOf p0 p1 m_x jA oY pR pX)) : wp_X10_leanOf Q p0 p1 m_x jA oY pR pX := dt_X10_leanOf h (fun o eo => by rw [eo]; exact hq)
theorem dw_X10_leanOf {Q : Int32 → Prop} {p0 p1 : Int32} {m_x jA oY pR pX : Nat → Int32} (h : wp_X10_leanOf (fun o0 => o0 = F_X10_leanOf p0 p1 m_x jA oY pR pX → Q o0) p0 p1 m_x jA oY pR pX) : wp_X10_leanOf Q p0 p1 m_x jA oY pR pX := dt_X10_leanOf h (fun o eo hp => hp eo)
noncomputable def F_X10_leaned (p0 p1 bW aG dG : Int32) (m_x jA oY pR pX : Nat → Int32) : Int32 × Int32 := if (F_X10_isFruit p0 bW) = 0 then ((-1), 0) else (if (F_X10_isStanding p1 aG) = 0 then ((-1), 0) else (if (F_X10_leanOf p0 p1 m_x jA oY pR pX) ≤ 30 then ((F_X10_leanOf p0 p1 m_x jA oY pR pX), 0) else ((-2), 0)))
set_option maxHeartbeats 200000 in
set_option maxRecDepth 10000 in
theorem dt_X10_leaned {P Q : Int32 → Int32 → Prop} {p0 p1 bW aG dG : Int32} {m_x jA oY pR pX : Nat → Int32} (h : wp_X10_leaned P p0 p1 bW aG dG m_x jA oY pR pX) (hq : ∀ o : Int32 × Int32, o = F_X10_leaned p0 p1 bW aG dG m_x jA oY pR pX → P o.1 o.2 → Q o.1 o.2) : wp_X10_leaned Q p0 p1 bW aG dG m_x jA oY pR pX := by
  rw [F_X10_leaned] at hq
  refine du_X10_isFruit h ?_
  intro h
  refine And.intro (fun c1 => ?_) (fun c1 => ?_)
  · have h := And.left h c1
    rw [if_pos c1] at hq
    have q9 := hq _ rfl
    dsimp only at q9
    exact q9 h
  · have h := And.right h c1
    rw [if_neg c1] at hq
    refine du_X10_isStanding h ?_
    intro h
    refine And.intro (fun c2 => ?_) (fun c2 => ?_)
    · have h := And.left h c2
      rw [if_neg c2] at hq
      refine du_X10_leanOf h ?_
      intro h
      refine And.intro (fun c3 => ?_) (fun c3 => ?_)
      · have h := And.left h c3
        rw [if_pos c3] at hq
        have q9 := hq _ rfl
        dsimp only at q9
        exact q9 h
      · have h := And.right h c3
        rw [if_neg c3] at hq
        have q9 := hq _ rfl
        dsimp only at q9
        exact q9 h
    · have h := And.right h c2
      rw [if_pos c2] at hq
      have q9 := hq _ rfl
      dsimp only at q9
      exact q9 h
theorem du_X10_leaned {P Q : Int32 → Int32 → Prop} {p0 p1 bW aG dG : Int32} {m_x jA oY pR pX : Nat → Int32} (h : wp_X10_leaned P p0 p1 bW aG dG m_x jA oY pR pX) (hq : P (F_X10_leaned p0 p1 bW aG dG m_x jA oY pR pX).1 (F_X10_leaned p0 p1 bW aG dG m_x jA oY pR pX).2 → Q (F_X10_leaned p0 p1 bW aG dG m_x jA oY pR pX).1 (F_X10_leaned p0 p1 bW aG dG m_x jA oY pR pX).2) : wp_X10_leaned Q p0 p1 bW aG dG m_x jA oY pR pX := dt_X10_leaned h (fun o eo => by rw [eo]; exact hq)
theorem dw_X10_leaned {Q : Int32 → Int32 → Prop} {p0 p1 bW aG dG : Int32} {m_x jA oY pR pX : Nat → Int32} (h : wp_X10_leaned (fun o0 o1 => (o0, o1) = F_X10_leaned p0 p1 bW aG dG m_x jA oY pR pX → Q o0 o1) p0 p1 bW aG dG m_x jA oY pR pX) : wp_X10_leaned Q p0 p1 bW aG dG m_x jA oY pR pX := dt_X10_leaned h (fun o eo hp => hp eo)
noncomputable def F_X6_clear (qF : Int32) : Int32 := 0
set_option maxHeartbeats 200000 in
set_option maxRecDepth 10000 in
theorem dt_X6_clear {P Q : Int32 → Prop} {qF : Int32} (h : wp_X6_clear P qF) (hq : ∀ o : Int32, o = F_X6_clear qF → P o → Q o) : wp_X6_clear Q qF := by
  rw [F_X6_clear] at hq
  have q9 := hq _ rfl
  exact q9 h
theorem du_X6_clear {P Q : Int32 → Prop} {qF : Int32} (h : wp_X6_clear P qF) (hq : P (F_X6_clear qF) → Q (F_X6_clear qF)) : wp_X6_clear Q qF := dt_X6_clear h (fun o eo => by rw [eo]; exact hq)
noncomputable def F_X6_add (p0 qF : Int32) (jJ : Nat → Int32) : Int32 × (Nat → Int32) := if 16 ≤ qF then (qF, jJ) else ((qF + 1), (upd jJ qF.toNatClampNeg p0))
set_option maxHeartbeats 200000 in
set_option maxRecDepth 10000 in
theorem dt_X6_add {P Q : Int32 → (Nat → Int32) → Prop} {p0 qF : Int32} {jJ : Nat → Int32} (h : wp_X6_add P p0 qF jJ) (hq : ∀ o : Int32 × (Nat → Int32), o = F_X6_add p0 qF jJ → P o.1 o.2 → Q o.1 o.2) : wp_X6_add Q p0 qF jJ := by
  rw [F_X6_add] at hq
  refine And.intro (fun c1 => ?_) (fun c1 => ?_)
  · have h := And.left h c1
    rw [if_pos c1] at hq
    have q9 := hq _ rfl
    dsimp only at q9
    exact q9 h
  · have h := And.right h c1
    rw [if_neg c1] at hq
    refine And.intro (And.left h) ?_
    have h := And.right h
    refine ae ?_
    have h := h _ rfl
    have q9 := hq _ rfl
    dsimp only at q9
    exact q9 h
theorem du_X6_add {P Q : Int32 → (Nat → Int32) → Prop} {p0 qF : Int32} {jJ : Nat → Int32} (h : wp_X6_add P p0 qF jJ) (hq : P (F_X6_add p0 qF jJ).1 (F_X6_add p0 qF jJ).2 → Q (F_X6_add p0 qF jJ).1 (F_X6_add p0 qF jJ).2) : wp_X6_add Q p0 qF jJ := dt_X6_add h (fun o eo => by rw [eo]; exact hq)
noncomputable def F_X9_tell (p0 qF : Int32) (jJ : Nat → Int32) : Int32 × (Nat → Int32) := ((F_X6_add p0 (F_X6_clear qF) jJ).1, (F_X6_add p0 (F_X6_clear qF) jJ).2)
set_option maxHeartbeats 200000 in
set_option maxRecDepth 10000 in
theorem dt_X9_tell {P Q : Int32 → (Nat → Int32) → Prop} {p0 qF : Int32} {jJ : Nat → Int32} (h : wp_X9_tell P p0 qF jJ) (hq : ∀ o : Int32 × (Nat → Int32), o = F_X9_tell p0 qF jJ → P o.1 o.2 → Q o.1 o.2) : wp_X9_tell Q p0 qF jJ := by
  rw [F_X9_tell] at hq
  refine du_X6_clear h ?_
  intro h
  refine du_X6_add h ?_
  intro h
  have q9 := hq _ rfl
  dsimp only at q9
  exact q9 h
theorem du_X9_tell {P Q : Int32 → (Nat → Int32) → Prop} {p0 qF : Int32} {jJ : Nat → Int32} (h : wp_X9_tell P p0 qF jJ) (hq : P (F_X9_tell p0 qF jJ).1 (F_X9_tell p0 qF jJ).2 → Q (F_X9_tell p0 qF jJ).1 (F_X9_tell p0 qF jJ).2) : wp_X9_tell Q p0 qF jJ := dt_X9_tell h (fun o eo => by rw [eo]; exact hq)
theorem dw_X9_tell {Q : Int32 → (Nat → Int32) → Prop} {p0 qF : Int32} {jJ : Nat → Int32} (h : wp_X9_tell (fun o0 o1 => (o0, o1) = F_X9_tell p0 qF jJ → Q o0 o1) p0 qF jJ) : wp_X9_tell Q p0 qF jJ := dt_X9_tell h (fun o eo hp => hp eo)
noncomputable def j_X9_nearest_63 {R : Type} (k22 : Int32 → Int32 → Int32 → Int32 → Int32 → (Nat → Int32) → R) (bZ bD : Int32) (wD gF nJ nY dQ : Nat → Int32) (x1 x2 x3 x4 qF : Int32) (jJ : Nat → Int32) : R := k22 x1 x2 x3 (x4 + 1) qF jJ
noncomputable def bd_X9_nearest_22 (bZ bD : Int32) (wD gF nJ nY dQ : Nat → Int32) (x1 qF : Int32) (jJ : Nat → Int32) (c : Int32) (s : Int32 × Int32) : Int32 × Int32 := if (F_X3_leanNeeded x1 c wD gF nJ nY dQ) < 0 then (j_X9_nearest_63 (fun q0 q1 q2 q3 q4 q5 => (q1, q2)) bZ bD wD gF nJ nY dQ x1 s.1 s.2 c qF jJ) else (if s.2 ≤ (F_X3_leanNeeded x1 c wD gF nJ nY dQ) then (j_X9_nearest_63 (fun q0 q1 q2 q3 q4 q5 => (q1, q2)) bZ bD wD gF nJ nY dQ x1 s.1 s.2 c qF jJ) else (j_X9_nearest_63 (fun q0 q1 q2 q3 q4 q5 => (q1, q2)) bZ bD wD gF nJ nY dQ x1 c (F_X3_leanNeeded x1 c wD gF nJ nY dQ) c qF jJ))
noncomputable def ex_X9_nearest_22 {R : Type} (po : Int32 → Int32 → (Nat → Int32) → R) (bZ bD : Int32) (wD gF nJ nY dQ : Nat → Int32) (x1 qF : Int32) (jJ : Nat → Int32) (c : Int32) (s : Int32 × Int32) : R := if s.1 < 0 then (po s.1 qF jJ) else (po s.1 ((F_X9_tell s.2 qF jJ).1) ((F_X9_tell s.2 qF jJ).2))
set_option maxHeartbeats 200000 in
set_option maxRecDepth 10000 in
theorem dl_X9_nearest_22 {P Q : Int32 → Int32 → (Nat → Int32) → Prop} {bZ bD : Int32} {wD gF nJ nY dQ : Nat → Int32} {x1 qF : Int32} {jJ : Nat → Int32} {a : Int32 × Int32} {i : Nat} (hi0 : i < 2147483648) (hE : ∀ (c : Int32) (s : Int32 × Int32), c = nI (i + (Int32.toInt bD - ((i : Nat) : Int)).toNat) → s = itr (bd_X9_nearest_22 bZ bD wD gF nJ nY dQ x1 qF jJ) a i (Int32.toInt bD - ((i : Nat) : Int)).toNat → ((s.1 < 0 → P s.1 qF jJ) ∧ (¬ s.1 < 0 → wp_X9_tell (fun aAO aAD => P s.1 aAO aAD) s.2 qF jJ)) → ((s.1 < 0 → Q s.1 qF jJ) ∧ (¬ s.1 < 0 → wp_X9_tell (fun aAO aAD => Q s.1 aAO aAD) s.2 qF jJ))) : ∀ (n k : Nat) (c : Int32), c = nI (i + k) → k ≤ (Int32.toInt bD - ((i : Nat) : Int)).toNat → wb_X9_nearest_22 P bZ bD wD gF nJ nY dQ n x1 (itr (bd_X9_nearest_22 bZ bD wD gF nJ nY dQ x1 qF jJ) a i k).1 (itr (bd_X9_nearest_22 bZ bD wD gF nJ nY dQ x1 qF jJ) a i k).2 c qF jJ → wb_X9_nearest_22 Q bZ bD wD gF nJ nY dQ n x1 (itr (bd_X9_nearest_22 bZ bD wD gF nJ nY dQ x1 qF jJ) a i k).1 (itr (bd_X9_nearest_22 bZ bD wD gF nJ nY dQ x1 qF jJ) a i k).2 c qF jJ := by
  intro n
  induction n with
  | zero => intro k c hc hk h; exact False.elim h
  | succ n ih =>
    intro k c hc hk h
    have hr := tp_r bD
    have hi : Int32.toInt c = ((i + k : Nat) : Int) := by rw [hc]; exact nI_toInt (by omega)
    refine And.intro (fun t0 => ?_) (fun t0 => ?_)
    · have h := And.left h t0
      have t1 := (fa_le _ _).mp t0
      have hk2 : k = (Int32.toInt bD - ((i : Nat) : Int)).toNat := by omega
      subst hk2
      exact hE _ _ hc rfl h
    · have h := And.right h t0
      have t1 := mt (fa_le _ _).mpr t0
      have hs : ∀ o : Int32 × Int32, o = itr (bd_X9_nearest_22 bZ bD wD gF nJ nY dQ x1 qF jJ) a i (k + 1) → wb_X9_nearest_22 P bZ bD wD gF nJ nY dQ n x1 o.1 o.2 (c + 1) qF jJ → wb_X9_nearest_22 Q bZ bD wD gF nJ nY dQ n x1 o.1 o.2 (c + 1) qF jJ := by
        intro o eo h9
        have q := ih (k + 1) (c + 1) (by rw [hc]; exact nI_1 _) (by omega)
        rw [← eo] at q
        exact q h9
      rw [itr_s, ← hc, bd_X9_nearest_22] at hs
      refine du_X3_leanNeeded h ?_
      intro h
      refine And.intro (fun c1 => ?_) (fun c1 => ?_)
      · have h := And.left h c1
        rw [if_pos c1] at hs
        rw [j_X9_nearest_63] at hs
        unfold ws_X9_nearest_63 at h ⊢
        refine ae ?_
        have h := h _ rfl
        have q9 := hs _ rfl
        dsimp only at q9
        exact q9 h
      · have h := And.right h c1
        rw [if_neg c1] at hs
        refine And.intro (fun c2 => ?_) (fun c2 => ?_)
        · have h := And.left h c2
          rw [if_pos c2] at hs
          rw [j_X9_nearest_63] at hs
          unfold ws_X9_nearest_63 at h ⊢
          refine ae ?_
          have h := h _ rfl
          have q9 := hs _ rfl
          dsimp only at q9
          exact q9 h
        · have h := And.right h c2
          rw [if_neg c2] at hs
          rw [j_X9_nearest_63] at hs
          unfold ws_X9_nearest_63 at h ⊢
          refine ae ?_
          have h := h _ rfl
          have q9 := hs _ rfl
          dsimp only at q9
          exact q9 h
noncomputable def F_X9_nearest (p0 bZ bD : Int32) (wD gF nJ nY dQ : Nat → Int32) (qF : Int32) (jJ : Nat → Int32) : Int32 × Int32 × (Nat → Int32) := if (F_X3_hasFruit p0 bZ) = 0 then ((-1), qF, jJ) else (ex_X9_nearest_22 (fun o0 o1 o2 => (o0, o1, o2)) bZ bD wD gF nJ nY dQ p0 qF jJ (nI (0 + (Int32.toInt bD - ((0 : Nat) : Int)).toNat)) (itr (bd_X9_nearest_22 bZ bD wD gF nJ nY dQ p0 qF jJ) ((-2), 31) 0 (Int32.toInt bD - ((0 : Nat) : Int)).toNat))
set_option maxHeartbeats 200000 in
set_option maxRecDepth 10000 in
theorem dt_X9_nearest {P Q : Int32 → Int32 → (Nat → Int32) → Prop} {p0 bZ bD : Int32} {wD gF nJ nY dQ : Nat → Int32} {qF : Int32} {jJ : Nat → Int32} (h : wp_X9_nearest P p0 bZ bD wD gF nJ nY dQ qF jJ) (hq : ∀ o : Int32 × Int32 × (Nat → Int32), o = F_X9_nearest p0 bZ bD wD gF nJ nY dQ qF jJ → P o.1 o.2.1 o.2.2 → Q o.1 o.2.1 o.2.2) : wp_X9_nearest Q p0 bZ bD wD gF nJ nY dQ qF jJ := by
  rw [F_X9_nearest] at hq
  refine du_X3_hasFruit h ?_
  intro h
  refine And.intro (fun c1 => ?_) (fun c1 => ?_)
  · have h := And.left h c1
    rw [if_neg c1] at hq
    obtain ⟨n2, h⟩ := h
    refine ⟨n2, dl_X9_nearest_22 (a := ((-2), 31)) (i := 0) (by decide) ?_ n2 0 0 (by decide) (Nat.zero_le _) h⟩
    intro cc3 s4 ec5 es6 h
    rw [← ec5, ← es6, ex_X9_nearest_22] at hq
    refine And.intro (fun c7 => ?_) (fun c7 => ?_)
    · have h := And.left h c7
      rw [if_pos c7] at hq
      have q9 := hq _ rfl
      dsimp only at q9
      exact q9 h
    · have h := And.right h c7
      rw [if_neg c7] at hq
      refine du_X9_tell h ?_
      intro h
      have q9 := hq _ rfl
      dsimp only at q9
      exact q9 h
  · have h := And.right h c1
    rw [if_pos c1] at hq
    have q9 := hq _ rfl
    dsimp only at q9
    exact q9 h
theorem du_X9_nearest {P Q : Int32 → Int32 → (Nat → Int32) → Prop} {p0 bZ bD : Int32} {wD gF nJ nY dQ : Nat → Int32} {qF : Int32} {jJ : Nat → Int32} (h : wp_X9_nearest P p0 bZ bD wD gF nJ nY dQ qF jJ) (hq : P (F_X9_nearest p0 bZ bD wD gF nJ nY dQ qF jJ).1 (F_X9_nearest p0 bZ bD wD gF nJ nY dQ qF jJ).2.1 (F_X9_nearest p0 bZ bD wD gF nJ nY dQ qF jJ).2.2 → Q (F_X9_nearest p0 bZ bD wD gF nJ nY dQ qF jJ).1 (F_X9_nearest p0 bZ bD wD gF nJ nY dQ qF jJ).2.1 (F_X9_nearest p0 bZ bD wD gF nJ nY dQ qF jJ).2.2) : wp_X9_nearest Q p0 bZ bD wD gF nJ nY dQ qF jJ := dt_X9_nearest h (fun o eo => by rw [eo]; exact hq)
theorem dw_X9_nearest {Q : Int32 → Int32 → (Nat → Int32) → Prop} {p0 bZ bD : Int32} {wD gF nJ nY dQ : Nat → Int32} {qF : Int32} {jJ : Nat → Int32} (h : wp_X9_nearest (fun o0 o1 o2 => (o0, o1, o2) = F_X9_nearest p0 bZ bD wD gF nJ nY dQ qF jJ → Q o0 o1 o2) p0 bZ bD wD gF nJ nY dQ qF jJ) : wp_X9_nearest Q p0 bZ bD wD gF nJ nY dQ qF jJ := dt_X9_nearest h (fun o eo hp => hp eo)
noncomputable def F_X10_tell (p0 bQ : Int32) (uM : Nat → Int32) : Int32 × (Nat → Int32) := ((bQ + 1), (upd uM bQ.toNatClampNeg p0))
set_option maxHeartbeats 200000 in
set_option maxRecDepth 10000 in
theorem dt_X10_tell {P Q : Int32 → (Nat → Int32) → Prop} {p0 bQ : Int32} {uM : Nat → Int32} (h : wp_X10_tell P p0 bQ uM) (hq : ∀ o : Int32 × (Nat → Int32), o = F_X10_tell p0 bQ uM → P o.1 o.2 → Q o.1 o.2) : wp_X10_tell Q p0 bQ uM := by
  rw [F_X10_tell] at hq
  refine And.intro (And.left h) ?_
  have h := And.right h
  refine ae ?_
  have h := h _ rfl
  have q9 := hq _ rfl
  dsimp only at q9
  exact q9 h
theorem du_X10_tell {P Q : Int32 → (Nat → Int32) → Prop} {p0 bQ : Int32} {uM : Nat → Int32} (h : wp_X10_tell P p0 bQ uM) (hq : P (F_X10_tell p0 bQ uM).1 (F_X10_tell p0 bQ uM).2 → Q (F_X10_tell p0 bQ uM).1 (F_X10_tell p0 bQ uM).2) : wp_X10_tell Q p0 bQ uM := dt_X10_tell h (fun o eo => by rw [eo]; exact hq)
theorem dw_X10_tell {Q : Int32 → (Nat → Int32) → Prop} {p0 bQ : Int32} {uM : Nat → Int32} (h : wp_X10_tell (fun o0 o1 => (o0, o1) = F_X10_tell p0 bQ uM → Q o0 o1) p0 bQ uM) : wp_X10_tell Q p0 bQ uM := dt_X10_tell h (fun o eo hp => hp eo)
noncomputable def j_X10_nearest_60 {R : Type} (k20 : Int32 → Int32 → Int32 → Int32 → Int32 → (Nat → Int32) → R) (bW aG : Int32) (m_x jA oY pR pX : Nat → Int32) (x1 x2 x3 bQ dG : Int32) (uM : Nat → Int32) : R := k20 x1 x2 (x3 + 1) bQ dG uM
noncomputable def j_X10_nearest_58 {R : Type} (k20 : Int32 → Int32 → Int32 → Int32 → Int32 → (Nat → Int32) → R) (bW aG : Int32) (m_x jA oY pR pX : Nat → Int32) (x1 x3 bQ dG : Int32) (uM : Nat → Int32) : R := j_X10_nearest_60 k20 bW aG m_x jA oY pR pX x1 x3 x3 bQ dG uM
noncomputable def bd_X10_nearest_20 (bW aG : Int32) (m_x jA oY pR pX : Nat → Int32) (x1 bQ dG : Int32) (uM : Nat → Int32) (c s : Int32) : Int32 := if 30 < (F_X10_leanOf x1 c m_x jA oY pR pX) then (j_X10_nearest_60 (fun q0 q1 q2 q3 q4 q5 => q1) bW aG m_x jA oY pR pX x1 s c bQ dG uM) else (if s < 0 then (j_X10_nearest_58 (fun q0 q1 q2 q3 q4 q5 => q1) bW aG m_x jA oY pR pX x1 c bQ dG uM) else (if (F_X10_leanOf x1 s m_x jA oY pR pX) ≤ (F_X10_leanOf x1 c m_x jA oY pR pX) then (j_X10_nearest_60 (fun q0 q1 q2 q3 q4 q5 => q1) bW aG m_x jA oY pR pX x1 s c bQ dG uM) else (j_X10_nearest_58 (fun q0 q1 q2 q3 q4 q5 => q1) bW aG m_x jA oY pR pX x1 c bQ dG uM)))
noncomputable def ex_X10_nearest_20 {R : Type} (po : Int32 → Int32 → Int32 → (Nat → Int32) → R) (bW aG : Int32) (m_x jA oY pR pX : Nat → Int32) (x1 bQ dG : Int32) (uM : Nat → Int32) (c s : Int32) : R := if 0 ≤ s then (po s ((F_X10_tell (F_X10_leanOf x1 s m_x jA oY pR pX) 0 uM).1) dG ((F_X10_tell (F_X10_leanOf x1 s m_x jA oY pR pX) 0 uM).2)) else (po (-2) bQ dG uM)
set_option maxHeartbeats 200000 in
set_option maxRecDepth 10000 in
theorem dl_X10_nearest_20 {P Q : Int32 → Int32 → Int32 → (Nat → Int32) → Prop} {bW aG : Int32} {m_x jA oY pR pX : Nat → Int32} {x1 bQ dG : Int32} {uM : Nat → Int32} {a : Int32} {i : Nat} (hi0 : i < 2147483648) (hE : ∀ (c : Int32) (s : Int32), c = nI (i + (Int32.toInt aG - ((i : Nat) : Int)).toNat) → s = itr (bd_X10_nearest_20 bW aG m_x jA oY pR pX x1 bQ dG uM) a i (Int32.toInt aG - ((i : Nat) : Int)).toNat → ((0 ≤ s → wp_X10_leanOf (fun r_2 => wp_X10_tell (fun aAs aEF => P s aAs dG aEF) r_2 0 uM) x1 s m_x jA oY pR pX) ∧ (¬ 0 ≤ s → P (-2) bQ dG uM)) → ((0 ≤ s → wp_X10_leanOf (fun r_2 => wp_X10_tell (fun aAs aEF => Q s aAs dG aEF) r_2 0 uM) x1 s m_x jA oY pR pX) ∧ (¬ 0 ≤ s → Q (-2) bQ dG uM))) : ∀ (n k : Nat) (c : Int32), c = nI (i + k) → k ≤ (Int32.toInt aG - ((i : Nat) : Int)).toNat → wb_X10_nearest_20 P bW aG m_x jA oY pR pX n x1 (itr (bd_X10_nearest_20 bW aG m_x jA oY pR pX x1 bQ dG uM) a i k) c bQ dG uM → wb_X10_nearest_20 Q bW aG m_x jA oY pR pX n x1 (itr (bd_X10_nearest_20 bW aG m_x jA oY pR pX x1 bQ dG uM) a i k) c bQ dG uM := by
  intro n
  induction n with
  | zero => intro k c hc hk h; exact False.elim h
  | succ n ih =>
    intro k c hc hk h
    have hr := tp_r aG
    have hi : Int32.toInt c = ((i + k : Nat) : Int) := by rw [hc]; exact nI_toInt (by omega)
    refine And.intro (fun t0 => ?_) (fun t0 => ?_)
    · have h := And.left h t0
      have t1 := (fa_le _ _).mp t0
      have hk2 : k = (Int32.toInt aG - ((i : Nat) : Int)).toNat := by omega
      subst hk2
      exact hE _ _ hc rfl h
    · have h := And.right h t0
      have t1 := mt (fa_le _ _).mpr t0
      have hs : ∀ o : Int32, o = itr (bd_X10_nearest_20 bW aG m_x jA oY pR pX x1 bQ dG uM) a i (k + 1) → wb_X10_nearest_20 P bW aG m_x jA oY pR pX n x1 o (c + 1) bQ dG uM → wb_X10_nearest_20 Q bW aG m_x jA oY pR pX n x1 o (c + 1) bQ dG uM := by
        intro o eo h9
        have q := ih (k + 1) (c + 1) (by rw [hc]; exact nI_1 _) (by omega)
        rw [← eo] at q
        exact q h9
      rw [itr_s, ← hc, bd_X10_nearest_20] at hs
      refine du_X10_leanOf h ?_
      intro h
      refine And.intro (fun c1 => ?_) (fun c1 => ?_)
      · have h := And.left h c1
        rw [if_pos c1] at hs
        rw [j_X10_nearest_60] at hs
        unfold ws_X10_nearest_60 at h ⊢
        refine ae ?_
        have h := h _ rfl
        have q9 := hs _ rfl
        exact q9 h
      · have h := And.right h c1
        rw [if_neg c1] at hs
        refine And.intro (fun c2 => ?_) (fun c2 => ?_)
        · have h := And.left h c2
          rw [if_pos c2] at hs
          rw [j_X10_nearest_58] at hs
          unfold ws_X10_nearest_58 at h ⊢
          rw [j_X10_nearest_60] at hs
          unfold ws_X10_nearest_60 at h ⊢
          refine ae ?_
          have h := h _ rfl
          have q9 := hs _ rfl
          exact q9 h
        · have h := And.right h c2
          rw [if_neg c2] at hs
          refine du_X10_leanOf h ?_
          intro h
          refine du_X10_leanOf h ?_
          intro h
          refine And.intro (fun c3 => ?_) (fun c3 => ?_)
          · have h := And.left h c3
            rw [if_pos c3] at hs
            rw [j_X10_nearest_60] at hs
            unfold ws_X10_nearest_60 at h ⊢
            refine ae ?_
            have h := h _ rfl
            have q9 := hs _ rfl
            exact q9 h
          · have h := And.right h c3
            rw [if_neg c3] at hs
            rw [j_X10_nearest_58] at hs
            unfold ws_X10_nearest_58 at h ⊢
            rw [j_X10_nearest_60] at hs
            unfold ws_X10_nearest_60 at h ⊢
            refine ae ?_
            have h := h _ rfl
            have q9 := hs _ rfl
            exact q9 h
noncomputable def F_X10_nearest (p0 bW aG bQ dG : Int32) (m_x jA oY pR pX uM : Nat → Int32) : Int32 × Int32 × Int32 × (Nat → Int32) := if (F_X10_isFruit p0 bW) = 0 then ((-1), bQ, 0, uM) else (ex_X10_nearest_20 (fun o0 o1 o2 o3 => (o0, o1, o2, o3)) bW aG m_x jA oY pR pX p0 bQ 0 uM (nI (0 + (Int32.toInt aG - ((0 : Nat) : Int)).toNat)) (itr (bd_X10_nearest_20 bW aG m_x jA oY pR pX p0 bQ 0 uM) (-2) 0 (Int32.toInt aG - ((0 : Nat) : Int)).toNat))
set_option maxHeartbeats 200000 in
set_option maxRecDepth 10000 in
theorem dt_X10_nearest {P Q : Int32 → Int32 → Int32 → (Nat → Int32) → Prop} {p0 bW aG bQ dG : Int32} {m_x jA oY pR pX uM : Nat → Int32} (h : wp_X10_nearest P p0 bW aG bQ dG m_x jA oY pR pX uM) (hq : ∀ o : Int32 × Int32 × Int32 × (Nat → Int32), o = F_X10_nearest p0 bW aG bQ dG m_x jA oY pR pX uM → P o.1 o.2.1 o.2.2.1 o.2.2.2 → Q o.1 o.2.1 o.2.2.1 o.2.2.2) : wp_X10_nearest Q p0 bW aG bQ dG m_x jA oY pR pX uM := by
  rw [F_X10_nearest] at hq
  refine du_X10_isFruit h ?_
  intro h
  refine And.intro (fun c1 => ?_) (fun c1 => ?_)
  · have h := And.left h c1
    rw [if_neg c1] at hq
    obtain ⟨n2, h⟩ := h
    refine ⟨n2, dl_X10_nearest_20 (a := (-2)) (i := 0) (by decide) ?_ n2 0 0 (by decide) (Nat.zero_le _) h⟩
    intro cc3 s4 ec5 es6 h
    rw [← ec5, ← es6, ex_X10_nearest_20] at hq
    refine And.intro (fun c7 => ?_) (fun c7 => ?_)
    · have h := And.left h c7
      rw [if_pos c7] at hq
      refine du_X10_leanOf h ?_
      intro h
      refine du_X10_tell h ?_
      intro h
      have q9 := hq _ rfl
      dsimp only at q9
      exact q9 h
    · have h := And.right h c7
      rw [if_neg c7] at hq
      have q9 := hq _ rfl
      dsimp only at q9
      exact q9 h
  · have h := And.right h c1
    rw [if_pos c1] at hq
    have q9 := hq _ rfl
    dsimp only at q9
    exact q9 h
theorem du_X10_nearest {P Q : Int32 → Int32 → Int32 → (Nat → Int32) → Prop} {p0 bW aG bQ dG : Int32} {m_x jA oY pR pX uM : Nat → Int32} (h : wp_X10_nearest P p0 bW aG bQ dG m_x jA oY pR pX uM) (hq : P (F_X10_nearest p0 bW aG bQ dG m_x jA oY pR pX uM).1 (F_X10_nearest p0 bW aG bQ dG m_x jA oY pR pX uM).2.1 (F_X10_nearest p0 bW aG bQ dG m_x jA oY pR pX uM).2.2.1 (F_X10_nearest p0 bW aG bQ dG m_x jA oY pR pX uM).2.2.2 → Q (F_X10_nearest p0 bW aG bQ dG m_x jA oY pR pX uM).1 (F_X10_nearest p0 bW aG bQ dG m_x jA oY pR pX uM).2.1 (F_X10_nearest p0 bW aG bQ dG m_x jA oY pR pX uM).2.2.1 (F_X10_nearest p0 bW aG bQ dG m_x jA oY pR pX uM).2.2.2) : wp_X10_nearest Q p0 bW aG bQ dG m_x jA oY pR pX uM := dt_X10_nearest h (fun o eo => by rw [eo]; exact hq)
theorem dw_X10_nearest {Q : Int32 → Int32 → Int32 → (Nat → Int32) → Prop} {p0 bW aG bQ dG : Int32} {m_x jA oY pR pX uM : Nat → Int32} (h : wp_X10_nearest (fun o0 o1 o2 o3 => (o0, o1, o2, o3) = F_X10_nearest p0 bW aG bQ dG m_x jA oY pR pX uM → Q o0 o1 o2 o3) p0 bW aG bQ dG m_x jA oY pR pX uM) : wp_X10_nearest Q p0 bW aG bQ dG m_x jA oY pR pX uM := dt_X10_nearest h (fun o eo hp => hp eo)
noncomputable def F_X3_reach (p0 p1 : Int32) (dQ : Nat → Int32) : Int32 := (((dQ (0 : Int32).toNatClampNeg) + (p0 * (dQ (1 : Int32).toNatClampNeg))) + (p1 * (dQ (2 : Int32).toNatClampNeg)))
set_option maxHeartbeats 200000 in
set_option maxRecDepth 10000 in
theorem dt_X3_reach {P Q : Int32 → Prop} {p0 p1 : Int32} {dQ : Nat → Int32} (h : wp_X3_reach P p0 p1 dQ) (hq : ∀ o : Int32, o = F_X3_reach p0 p1 dQ → P o → Q o) : wp_X3_reach Q p0 p1 dQ := by
  rw [F_X3_reach] at hq
  refine ae ?_
  have h := h _ rfl
  refine ae ?_
  have h := h _ rfl
  have q9 := hq _ rfl
  exact q9 h
theorem du_X3_reach {P Q : Int32 → Prop} {p0 p1 : Int32} {dQ : Nat → Int32} (h : wp_X3_reach P p0 p1 dQ) (hq : P (F_X3_reach p0 p1 dQ) → Q (F_X3_reach p0 p1 dQ)) : wp_X3_reach Q p0 p1 dQ := dt_X3_reach h (fun o eo => by rw [eo]; exact hq)
noncomputable def j_X3_within_32 {R : Type} (k5 : Int32 → Int32 → Int32 → Int32 → R) (bZ : Int32) (wD gF nJ nY : Nat → Int32) (x1 x2 x3 x4 : Int32) : R := k5 x1 x2 x3 (x4 + 1)
noncomputable def bd_X3_within_5 (bZ : Int32) (wD gF nJ nY : Nat → Int32) (x1 x2 c s : Int32) : Int32 := if (F_X3_isWithin c x1 x2 wD gF nJ nY) = 0 then (j_X3_within_32 (fun q0 q1 q2 q3 => q2) bZ wD gF nJ nY x1 x2 s c) else (j_X3_within_32 (fun q0 q1 q2 q3 => q2) bZ wD gF nJ nY x1 x2 (s ||| (1 <<< (c &&& 31))) c)
noncomputable def ex_X3_within_5 {R : Type} (po : Int32 → R) (bZ : Int32) (wD gF nJ nY : Nat → Int32) (x1 x2 c s : Int32) : R := po s
set_option maxHeartbeats 200000 in
set_option maxRecDepth 10000 in
theorem dl_X3_within_5 {P Q : Int32 → Prop} {bZ : Int32} {wD gF nJ nY : Nat → Int32} {x1 x2 a : Int32} {i : Nat} (hi0 : i < 2147483648) (hE : ∀ (c : Int32) (s : Int32), c = nI (i + (Int32.toInt bZ - ((i : Nat) : Int)).toNat) → s = itr (bd_X3_within_5 bZ wD gF nJ nY x1 x2) a i (Int32.toInt bZ - ((i : Nat) : Int)).toNat → (P s) → (Q s)) : ∀ (n k : Nat) (c : Int32), c = nI (i + k) → k ≤ (Int32.toInt bZ - ((i : Nat) : Int)).toNat → wb_X3_within_5 P bZ wD gF nJ nY n x1 x2 (itr (bd_X3_within_5 bZ wD gF nJ nY x1 x2) a i k) c → wb_X3_within_5 Q bZ wD gF nJ nY n x1 x2 (itr (bd_X3_within_5 bZ wD gF nJ nY x1 x2) a i k) c := by
  intro n
  induction n with
  | zero => intro k c hc hk h; exact False.elim h
  | succ n ih =>
    intro k c hc hk h
    have hr := tp_r bZ
    have hi : Int32.toInt c = ((i + k : Nat) : Int) := by rw [hc]; exact nI_toInt (by omega)
    refine And.intro (fun t0 => ?_) (fun t0 => ?_)
    · have h := And.left h t0
      have t1 := (fa_le _ _).mp t0
      have hk2 : k = (Int32.toInt bZ - ((i : Nat) : Int)).toNat := by omega
      subst hk2
      exact hE _ _ hc rfl h
    · have h := And.right h t0
      have t1 := mt (fa_le _ _).mpr t0
      have hs : ∀ o : Int32, o = itr (bd_X3_within_5 bZ wD gF nJ nY x1 x2) a i (k + 1) → wb_X3_within_5 P bZ wD gF nJ nY n x1 x2 o (c + 1) → wb_X3_within_5 Q bZ wD gF nJ nY n x1 x2 o (c + 1) := by
        intro o eo h9
        have q := ih (k + 1) (c + 1) (by rw [hc]; exact nI_1 _) (by omega)
        rw [← eo] at q
        exact q h9
      rw [itr_s, ← hc, bd_X3_within_5] at hs
      refine du_X3_isWithin h ?_
      intro h
      refine And.intro (fun c1 => ?_) (fun c1 => ?_)
      · have h := And.left h c1
        rw [if_pos c1] at hs
        rw [j_X3_within_32] at hs
        unfold ws_X3_within_32 at h ⊢
        refine ae ?_
        have h := h _ rfl
        have q9 := hs _ rfl
        exact q9 h
      · have h := And.right h c1
        rw [if_neg c1] at hs
        refine ae ?_
        have h := h _ rfl
        rw [j_X3_within_32] at hs
        unfold ws_X3_within_32 at h ⊢
        refine ae ?_
        have h := h _ rfl
        have q9 := hs _ rfl
        exact q9 h
noncomputable def F_X3_within (p0 p1 bZ : Int32) (wD gF nJ nY : Nat → Int32) : Int32 := ex_X3_within_5 (fun o0 => o0) bZ wD gF nJ nY p0 p1 (nI (0 + (Int32.toInt bZ - ((0 : Nat) : Int)).toNat)) (itr (bd_X3_within_5 bZ wD gF nJ nY p0 p1) 0 0 (Int32.toInt bZ - ((0 : Nat) : Int)).toNat)
set_option maxHeartbeats 200000 in
set_option maxRecDepth 10000 in
theorem dt_X3_within {P Q : Int32 → Prop} {p0 p1 bZ : Int32} {wD gF nJ nY : Nat → Int32} (h : wp_X3_within P p0 p1 bZ wD gF nJ nY) (hq : ∀ o : Int32, o = F_X3_within p0 p1 bZ wD gF nJ nY → P o → Q o) : wp_X3_within Q p0 p1 bZ wD gF nJ nY := by
  rw [F_X3_within] at hq
  obtain ⟨n1, h⟩ := h
  refine ⟨n1, dl_X3_within_5 (a := 0) (i := 0) (by decide) ?_ n1 0 0 (by decide) (Nat.zero_le _) h⟩
  intro cc2 s3 ec4 es5 h
  rw [← ec4, ← es5, ex_X3_within_5] at hq
  have q9 := hq _ rfl
  exact q9 h
theorem du_X3_within {P Q : Int32 → Prop} {p0 p1 bZ : Int32} {wD gF nJ nY : Nat → Int32} (h : wp_X3_within P p0 p1 bZ wD gF nJ nY) (hq : P (F_X3_within p0 p1 bZ wD gF nJ nY) → Q (F_X3_within p0 p1 bZ wD gF nJ nY)) : wp_X3_within Q p0 p1 bZ wD gF nJ nY := dt_X3_within h (fun o eo => by rw [eo]; exact hq)
noncomputable def F_X9_tell_ (p0 p1 qF : Int32) (jJ : Nat → Int32) : Int32 × (Nat → Int32) := ((F_X6_add p1 (F_X9_tell p0 qF jJ).1 (F_X9_tell p0 qF jJ).2).1, (F_X6_add p1 (F_X9_tell p0 qF jJ).1 (F_X9_tell p0 qF jJ).2).2)
set_option maxHeartbeats 200000 in
set_option maxRecDepth 10000 in
theorem dt_X9_tell_ {P Q : Int32 → (Nat → Int32) → Prop} {p0 p1 qF : Int32} {jJ : Nat → Int32} (h : wp_X9_tell_ P p0 p1 qF jJ) (hq : ∀ o : Int32 × (Nat → Int32), o = F_X9_tell_ p0 p1 qF jJ → P o.1 o.2 → Q o.1 o.2) : wp_X9_tell_ Q p0 p1 qF jJ := by
  rw [F_X9_tell_] at hq
  refine du_X9_tell h ?_
  intro h
  refine du_X6_add h ?_
  intro h
  have q9 := hq _ rfl
  dsimp only at q9
  exact q9 h
theorem du_X9_tell_ {P Q : Int32 → (Nat → Int32) → Prop} {p0 p1 qF : Int32} {jJ : Nat → Int32} (h : wp_X9_tell_ P p0 p1 qF jJ) (hq : P (F_X9_tell_ p0 p1 qF jJ).1 (F_X9_tell_ p0 p1 qF jJ).2 → Q (F_X9_tell_ p0 p1 qF jJ).1 (F_X9_tell_ p0 p1 qF jJ).2) : wp_X9_tell_ Q p0 p1 qF jJ := dt_X9_tell_ h (fun o eo => by rw [eo]; exact hq)
theorem dw_X9_tell_ {Q : Int32 → (Nat → Int32) → Prop} {p0 p1 qF : Int32} {jJ : Nat → Int32} (h : wp_X9_tell_ (fun o0 o1 => (o0, o1) = F_X9_tell_ p0 p1 qF jJ → Q o0 o1) p0 p1 qF jJ) : wp_X9_tell_ Q p0 p1 qF jJ := dt_X9_tell_ h (fun o eo hp => hp eo)
noncomputable def F_X9_reached (p0 bZ bD : Int32) (wD gF nJ nY dQ : Nat → Int32) (qF : Int32) (jJ : Nat → Int32) : Int32 × Int32 × (Nat → Int32) := if (F_X3_hasStanding p0 bD) = 0 then ((-1), qF, jJ) else ((F_X3_within p0 (F_X3_reach 0 0 dQ) bZ wD gF nJ nY), (F_X9_tell_ (F_X3_within p0 (F_X3_reach 1 0 dQ) bZ wD gF nJ nY) (F_X3_within p0 (F_X3_reach 1 1 dQ) bZ wD gF nJ nY) qF jJ).1, (F_X9_tell_ (F_X3_within p0 (F_X3_reach 1 0 dQ) bZ wD gF nJ nY) (F_X3_within p0 (F_X3_reach 1 1 dQ) bZ wD gF nJ nY) qF jJ).2)
set_option maxHeartbeats 200000 in
set_option maxRecDepth 10000 in
theorem dt_X9_reached {P Q : Int32 → Int32 → (Nat → Int32) → Prop} {p0 bZ bD : Int32} {wD gF nJ nY dQ : Nat → Int32} {qF : Int32} {jJ : Nat → Int32} (h : wp_X9_reached P p0 bZ bD wD gF nJ nY dQ qF jJ) (hq : ∀ o : Int32 × Int32 × (Nat → Int32), o = F_X9_reached p0 bZ bD wD gF nJ nY dQ qF jJ → P o.1 o.2.1 o.2.2 → Q o.1 o.2.1 o.2.2) : wp_X9_reached Q p0 bZ bD wD gF nJ nY dQ qF jJ := by
  rw [F_X9_reached] at hq
  refine du_X3_hasStanding h ?_
  intro h
  refine And.intro (fun c1 => ?_) (fun c1 => ?_)
  · have h := And.left h c1
    rw [if_neg c1] at hq
    refine du_X3_reach h ?_
    intro h
    refine du_X3_within h ?_
    intro h
    refine du_X3_reach h ?_
    intro h
    refine du_X3_within h ?_
    intro h
    refine du_X9_tell_ h ?_
    intro h
    refine du_X3_reach h ?_
    intro h
    refine du_X3_within h ?_
    intro h
    have q9 := hq _ rfl
    dsimp only at q9
    exact q9 h
  · have h := And.right h c1
    rw [if_pos c1] at hq
    have q9 := hq _ rfl
    dsimp only at q9
    exact q9 h
theorem du_X9_reached {P Q : Int32 → Int32 → (Nat → Int32) → Prop} {p0 bZ bD : Int32} {wD gF nJ nY dQ : Nat → Int32} {qF : Int32} {jJ : Nat → Int32} (h : wp_X9_reached P p0 bZ bD wD gF nJ nY dQ qF jJ) (hq : P (F_X9_reached p0 bZ bD wD gF nJ nY dQ qF jJ).1 (F_X9_reached p0 bZ bD wD gF nJ nY dQ qF jJ).2.1 (F_X9_reached p0 bZ bD wD gF nJ nY dQ qF jJ).2.2 → Q (F_X9_reached p0 bZ bD wD gF nJ nY dQ qF jJ).1 (F_X9_reached p0 bZ bD wD gF nJ nY dQ qF jJ).2.1 (F_X9_reached p0 bZ bD wD gF nJ nY dQ qF jJ).2.2) : wp_X9_reached Q p0 bZ bD wD gF nJ nY dQ qF jJ := dt_X9_reached h (fun o eo => by rw [eo]; exact hq)
theorem dw_X9_reached {Q : Int32 → Int32 → (Nat → Int32) → Prop} {p0 bZ bD : Int32} {wD gF nJ nY dQ : Nat → Int32} {qF : Int32} {jJ : Nat → Int32} (h : wp_X9_reached (fun o0 o1 o2 => (o0, o1, o2) = F_X9_reached p0 bZ bD wD gF nJ nY dQ qF jJ → Q o0 o1 o2) p0 bZ bD wD gF nJ nY dQ qF jJ) : wp_X9_reached Q p0 bZ bD wD gF nJ nY dQ qF jJ := dt_X9_reached h (fun o eo hp => hp eo)
noncomputable def F_X10_reachBy (p0 p1 : Int32) (pX : Nat → Int32) : Int32 := (((pX (0 : Int32).toNatClampNeg) + (p0 * (pX (1 : Int32).toNatClampNeg))) + (p1 * (pX (2 : Int32).toNatClampNeg)))
set_option maxHeartbeats 200000 in
set_option maxRecDepth 10000 in
theorem dt_X10_reachBy {P Q : Int32 → Prop} {p0 p1 : Int32} {pX : Nat → Int32} (h : wp_X10_reachBy P p0 p1 pX) (hq : ∀ o : Int32, o = F_X10_reachBy p0 p1 pX → P o → Q o) : wp_X10_reachBy Q p0 p1 pX := by
  rw [F_X10_reachBy] at hq
  refine ae ?_
  have h := h _ rfl
  refine ae ?_
  have h := h _ rfl
  have q9 := hq _ rfl
  exact q9 h
theorem du_X10_reachBy {P Q : Int32 → Prop} {p0 p1 : Int32} {pX : Nat → Int32} (h : wp_X10_reachBy P p0 p1 pX) (hq : P (F_X10_reachBy p0 p1 pX) → Q (F_X10_reachBy p0 p1 pX)) : wp_X10_reachBy Q p0 p1 pX := dt_X10_reachBy h (fun o eo => by rw [eo]; exact hq)
theorem dw_X10_reachBy {Q : Int32 → Prop} {p0 p1 : Int32} {pX : Nat → Int32} (h : wp_X10_reachBy (fun o0 => o0 = F_X10_reachBy p0 p1 pX → Q o0) p0 p1 pX) : wp_X10_reachBy Q p0 p1 pX := dt_X10_reachBy h (fun o eo hp => hp eo)
noncomputable def j_X10_reachedFrom_41 {R : Type} (k6 : Int32 → Int32 → Int32 → Int32 → Int32 → R) (bW : Int32) (m_x jA oY pR pX : Nat → Int32) (x1 x2 x3 x5 k0 k1 : Int32) : R := k6 x1 x2 x3 (k0 ||| k1) (x5 + 1)
noncomputable def bd_X10_reachedFrom_6 (bW : Int32) (m_x jA oY pR pX : Nat → Int32) (x1 x2 x3 c s : Int32) : Int32 := if (F_X10_isWithin c x1 (F_X10_reachBy x2 x3 pX) m_x jA oY pR) = 0 then (j_X10_reachedFrom_41 (fun q0 q1 q2 q3 q4 => q3) bW m_x jA oY pR pX x1 x2 x3 c s 0) else (j_X10_reachedFrom_41 (fun q0 q1 q2 q3 q4 => q3) bW m_x jA oY pR pX x1 x2 x3 c s (1 <<< (c &&& 31)))
noncomputable def ex_X10_reachedFrom_6 {R : Type} (po : Int32 → R) (bW : Int32) (m_x jA oY pR pX : Nat → Int32) (x1 x2 x3 c s : Int32) : R := po s
set_option maxHeartbeats 200000 in
set_option maxRecDepth 10000 in
theorem dl_X10_reachedFrom_6 {P Q : Int32 → Prop} {bW : Int32} {m_x jA oY pR pX : Nat → Int32} {x1 x2 x3 a : Int32} {i : Nat} (hi0 : i < 2147483648) (hE : ∀ (c : Int32) (s : Int32), c = nI (i + (Int32.toInt bW - ((i : Nat) : Int)).toNat) → s = itr (bd_X10_reachedFrom_6 bW m_x jA oY pR pX x1 x2 x3) a i (Int32.toInt bW - ((i : Nat) : Int)).toNat → (P s) → (Q s)) : ∀ (n k : Nat) (c : Int32), c = nI (i + k) → k ≤ (Int32.toInt bW - ((i : Nat) : Int)).toNat → wb_X10_reachedFrom_6 P bW m_x jA oY pR pX n x1 x2 x3 (itr (bd_X10_reachedFrom_6 bW m_x jA oY pR pX x1 x2 x3) a i k) c → wb_X10_reachedFrom_6 Q bW m_x jA oY pR pX n x1 x2 x3 (itr (bd_X10_reachedFrom_6 bW m_x jA oY pR pX x1 x2 x3) a i k) c := by
  intro n
  induction n with
  | zero => intro k c hc hk h; exact False.elim h
  | succ n ih =>
    intro k c hc hk h
    have hr := tp_r bW
    have hi : Int32.toInt c = ((i + k : Nat) : Int) := by rw [hc]; exact nI_toInt (by omega)
    refine And.intro (fun t0 => ?_) (fun t0 => ?_)
    · have h := And.left h t0
      have t1 := (fa_le _ _).mp t0
      have hk2 : k = (Int32.toInt bW - ((i : Nat) : Int)).toNat := by omega
      subst hk2
      exact hE _ _ hc rfl h
    · have h := And.right h t0
      have t1 := mt (fa_le _ _).mpr t0
      have hs : ∀ o : Int32, o = itr (bd_X10_reachedFrom_6 bW m_x jA oY pR pX x1 x2 x3) a i (k + 1) → wb_X10_reachedFrom_6 P bW m_x jA oY pR pX n x1 x2 x3 o (c + 1) → wb_X10_reachedFrom_6 Q bW m_x jA oY pR pX n x1 x2 x3 o (c + 1) := by
        intro o eo h9
        have q := ih (k + 1) (c + 1) (by rw [hc]; exact nI_1 _) (by omega)
        rw [← eo] at q
        exact q h9
      rw [itr_s, ← hc, bd_X10_reachedFrom_6] at hs
      refine du_X10_reachBy h ?_
      intro h
      refine du_X10_isWithin h ?_
      intro h
      refine And.intro (fun c1 => ?_) (fun c1 => ?_)
      · have h := And.left h c1
        rw [if_pos c1] at hs
        rw [j_X10_reachedFrom_41] at hs
        unfold ws_X10_reachedFrom_41 at h ⊢
        refine ae ?_
        have h := h _ rfl
        refine ae ?_
        have h := h _ rfl
        have q9 := hs _ rfl
        exact q9 h
      · have h := And.right h c1
        rw [if_neg c1] at hs
        refine ae ?_
        have h := h _ rfl
        rw [j_X10_reachedFrom_41] at hs
        unfold ws_X10_reachedFrom_41 at h ⊢
        refine ae ?_
        have h := h _ rfl
        refine ae ?_
        have h := h _ rfl
        have q9 := hs _ rfl
        exact q9 h
noncomputable def F_X10_reachedFrom (p0 p1 p2 bW : Int32) (m_x jA oY pR pX : Nat → Int32) : Int32 := ex_X10_reachedFrom_6 (fun o0 => o0) bW m_x jA oY pR pX p0 p1 p2 (nI (0 + (Int32.toInt bW - ((0 : Nat) : Int)).toNat)) (itr (bd_X10_reachedFrom_6 bW m_x jA oY pR pX p0 p1 p2) 0 0 (Int32.toInt bW - ((0 : Nat) : Int)).toNat)
set_option maxHeartbeats 200000 in
set_option maxRecDepth 10000 in
theorem dt_X10_reachedFrom {P Q : Int32 → Prop} {p0 p1 p2 bW : Int32} {m_x jA oY pR pX : Nat → Int32} (h : wp_X10_reachedFrom P p0 p1 p2 bW m_x jA oY pR pX) (hq : ∀ o : Int32, o = F_X10_reachedFrom p0 p1 p2 bW m_x jA oY pR pX → P o → Q o) : wp_X10_reachedFrom Q p0 p1 p2 bW m_x jA oY pR pX := by
  rw [F_X10_reachedFrom] at hq
  obtain ⟨n1, h⟩ := h
  refine ⟨n1, dl_X10_reachedFrom_6 (a := 0) (i := 0) (by decide) ?_ n1 0 0 (by decide) (Nat.zero_le _) h⟩
  intro cc2 s3 ec4 es5 h
  rw [← ec4, ← es5, ex_X10_reachedFrom_6] at hq
  have q9 := hq _ rfl
  exact q9 h
theorem du_X10_reachedFrom {P Q : Int32 → Prop} {p0 p1 p2 bW : Int32} {m_x jA oY pR pX : Nat → Int32} (h : wp_X10_reachedFrom P p0 p1 p2 bW m_x jA oY pR pX) (hq : P (F_X10_reachedFrom p0 p1 p2 bW m_x jA oY pR pX) → Q (F_X10_reachedFrom p0 p1 p2 bW m_x jA oY pR pX)) : wp_X10_reachedFrom Q p0 p1 p2 bW m_x jA oY pR pX := dt_X10_reachedFrom h (fun o eo => by rw [eo]; exact hq)
theorem dw_X10_reachedFrom {Q : Int32 → Prop} {p0 p1 p2 bW : Int32} {m_x jA oY pR pX : Nat → Int32} (h : wp_X10_reachedFrom (fun o0 => o0 = F_X10_reachedFrom p0 p1 p2 bW m_x jA oY pR pX → Q o0) p0 p1 p2 bW m_x jA oY pR pX) : wp_X10_reachedFrom Q p0 p1 p2 bW m_x jA oY pR pX := dt_X10_reachedFrom h (fun o eo hp => hp eo)
noncomputable def F_X10_reached (p0 bW aG bQ dG : Int32) (m_x jA oY pR pX uM : Nat → Int32) : Int32 × Int32 × Int32 × (Nat → Int32) := if (F_X10_isStanding p0 aG) = 0 then ((-1), bQ, 0, uM) else ((F_X10_reachedFrom p0 0 0 bW m_x jA oY pR pX), (F_X10_tell (F_X10_reachedFrom p0 1 1 bW m_x jA oY pR pX) (F_X10_tell (F_X10_reachedFrom p0 1 0 bW m_x jA oY pR pX) 0 uM).1 (F_X10_tell (F_X10_reachedFrom p0 1 0 bW m_x jA oY pR pX) 0 uM).2).1, 0, (F_X10_tell (F_X10_reachedFrom p0 1 1 bW m_x jA oY pR pX) (F_X10_tell (F_X10_reachedFrom p0 1 0 bW m_x jA oY pR pX) 0 uM).1 (F_X10_tell (F_X10_reachedFrom p0 1 0 bW m_x jA oY pR pX) 0 uM).2).2)
set_option maxHeartbeats 200000 in
set_option maxRecDepth 10000 in
theorem dt_X10_reached {P Q : Int32 → Int32 → Int32 → (Nat → Int32) → Prop} {p0 bW aG bQ dG : Int32} {m_x jA oY pR pX uM : Nat → Int32} (h : wp_X10_reached P p0 bW aG bQ dG m_x jA oY pR pX uM) (hq : ∀ o : Int32 × Int32 × Int32 × (Nat → Int32), o = F_X10_reached p0 bW aG bQ dG m_x jA oY pR pX uM → P o.1 o.2.1 o.2.2.1 o.2.2.2 → Q o.1 o.2.1 o.2.2.1 o.2.2.2) : wp_X10_reached Q p0 bW aG bQ dG m_x jA oY pR pX uM := by
  rw [F_X10_reached] at hq
  refine du_X10_isStanding h ?_
  intro h
  refine And.intro (fun c1 => ?_) (fun c1 => ?_)
  · have h := And.left h c1
    rw [if_neg c1] at hq
    refine du_X10_reachedFrom h ?_
    intro h
    refine du_X10_tell h ?_
    intro h
    refine du_X10_reachedFrom h ?_
    intro h
    refine du_X10_tell h ?_
    intro h
    refine du_X10_reachedFrom h ?_
    intro h
    have q9 := hq _ rfl
    dsimp only at q9
    exact q9 h
  · have h := And.right h c1
    rw [if_pos c1] at hq
    have q9 := hq _ rfl
    dsimp only at q9
    exact q9 h
theorem du_X10_reached {P Q : Int32 → Int32 → Int32 → (Nat → Int32) → Prop} {p0 bW aG bQ dG : Int32} {m_x jA oY pR pX uM : Nat → Int32} (h : wp_X10_reached P p0 bW aG bQ dG m_x jA oY pR pX uM) (hq : P (F_X10_reached p0 bW aG bQ dG m_x jA oY pR pX uM).1 (F_X10_reached p0 bW aG bQ dG m_x jA oY pR pX uM).2.1 (F_X10_reached p0 bW aG bQ dG m_x jA oY pR pX uM).2.2.1 (F_X10_reached p0 bW aG bQ dG m_x jA oY pR pX uM).2.2.2 → Q (F_X10_reached p0 bW aG bQ dG m_x jA oY pR pX uM).1 (F_X10_reached p0 bW aG bQ dG m_x jA oY pR pX uM).2.1 (F_X10_reached p0 bW aG bQ dG m_x jA oY pR pX uM).2.2.1 (F_X10_reached p0 bW aG bQ dG m_x jA oY pR pX uM).2.2.2) : wp_X10_reached Q p0 bW aG bQ dG m_x jA oY pR pX uM := dt_X10_reached h (fun o eo => by rw [eo]; exact hq)
theorem dw_X10_reached {Q : Int32 → Int32 → Int32 → (Nat → Int32) → Prop} {p0 bW aG bQ dG : Int32} {m_x jA oY pR pX uM : Nat → Int32} (h : wp_X10_reached (fun o0 o1 o2 o3 => (o0, o1, o2, o3) = F_X10_reached p0 bW aG bQ dG m_x jA oY pR pX uM → Q o0 o1 o2 o3) p0 bW aG bQ dG m_x jA oY pR pX uM) : wp_X10_reached Q p0 bW aG bQ dG m_x jA oY pR pX uM := dt_X10_reached h (fun o eo hp => hp eo)
noncomputable def bd_X10_orchard_105 (rG rQ : Nat → Int32) (aG jG dG : Int32) (jY : Nat) (m_length qG uW eY aJ aB bT pW : Int32) (oY pR qL pL : Nat → Int32) (c : Int32) (s : Int32 × (Nat → Int32) × (Nat → Int32) × (Nat → Int32) × (Nat → Int32) × (Nat → Int32)) : Int32 × (Nat → Int32) × (Nat → Int32) × (Nat → Int32) × (Nat → Int32) × (Nat → Int32) := ((s.1 + 1), (upd s.2.1 s.1.toNatClampNeg 0), (upd s.2.2.1 s.1.toNatClampNeg (qL (4 * c).toNatClampNeg)), (upd s.2.2.2.1 s.1.toNatClampNeg (qL ((4 * c) + 1).toNatClampNeg)), (upd s.2.2.2.2.1 s.1.toNatClampNeg (qL ((4 * c) + 2).toNatClampNeg)), (upd s.2.2.2.2.2 s.1.toNatClampNeg (qL ((4 * c) + 3).toNatClampNeg)))
noncomputable def bd_X10_orchard_215 (rG rQ : Nat → Int32) (bW jG dG : Int32) (jY : Nat) (m_length qG uW eY aJ aB bT pW : Int32) (rD m_x jA pY rW qL pL : Nat → Int32) (c : Int32) (s : Int32 × (Nat → Int32) × (Nat → Int32)) : Int32 × (Nat → Int32) × (Nat → Int32) := ((s.1 + 1), (upd s.2.1 s.1.toNatClampNeg (pL (2 * c).toNatClampNeg)), (upd s.2.2 s.1.toNatClampNeg (pL ((2 * c) + 1).toNatClampNeg)))
noncomputable def ex_X10_orchard_215 {R : Type} (po : Int32 → Int32 → Int32 → Int32 → Int32 → Nat → Int32 → Int32 → Int32 → Int32 → Int32 → Int32 → Int32 → Int32 → (Nat → Int32) → (Nat → Int32) → (Nat → Int32) → (Nat → Int32) → (Nat → Int32) → (Nat → Int32) → (Nat → Int32) → (Nat → Int32) → (Nat → Int32) → R) (rG rQ : Nat → Int32) (bW jG dG : Int32) (jY : Nat) (m_length qG uW eY aJ aB bT pW : Int32) (rD m_x jA pY rW qL pL : Nat → Int32) (c : Int32) (s : Int32 × (Nat → Int32) × (Nat → Int32)) : R := po (aJ + aB) bW s.1 jG dG jY m_length qG uW eY aJ aB 0 (pW + 1) rD m_x jA pY rW s.2.1 s.2.2 qL pL
set_option maxHeartbeats 200000 in
set_option maxRecDepth 10000 in
theorem dl_X10_orchard_215 {P Q : Int32 → Int32 → Int32 → Int32 → Int32 → Nat → Int32 → Int32 → Int32 → Int32 → Int32 → Int32 → Int32 → Int32 → (Nat → Int32) → (Nat → Int32) → (Nat → Int32) → (Nat → Int32) → (Nat → Int32) → (Nat → Int32) → (Nat → Int32) → (Nat → Int32) → (Nat → Int32) → Prop} {rG rQ : Nat → Int32} {bW jG dG : Int32} {jY : Nat} {m_length qG uW eY aJ aB bT pW : Int32} {rD m_x jA pY rW qL pL : Nat → Int32} {a : Int32 × (Nat → Int32) × (Nat → Int32)} {i : Nat} (hi0 : i < 2147483648) (hE : ∀ (c : Int32) (s : Int32 × (Nat → Int32) × (Nat → Int32)), c = nI (i + (Int32.toInt aB - ((i : Nat) : Int)).toNat) → s = itr (bd_X10_orchard_215 rG rQ bW jG dG jY m_length qG uW eY aJ aB bT pW rD m_x jA pY rW qL pL) a i (Int32.toInt aB - ((i : Nat) : Int)).toNat → (∀ v_7 : Int32, v_7 = pW + 1 → P (aJ + aB) bW s.1 jG dG jY m_length qG uW eY aJ aB 0 v_7 rD m_x jA pY rW s.2.1 s.2.2 qL pL) → (∀ v_7 : Int32, v_7 = pW + 1 → Q (aJ + aB) bW s.1 jG dG jY m_length qG uW eY aJ aB 0 v_7 rD m_x jA pY rW s.2.1 s.2.2 qL pL)) : ∀ (n k : Nat) (c : Int32), c = nI (i + k) → k ≤ (Int32.toInt aB - ((i : Nat) : Int)).toNat → wb_X10_orchard_215 P rG rQ n c bW (itr (bd_X10_orchard_215 rG rQ bW jG dG jY m_length qG uW eY aJ aB bT pW rD m_x jA pY rW qL pL) a i k).1 jG dG jY m_length qG uW eY aJ aB bT pW rD m_x jA pY rW (itr (bd_X10_orchard_215 rG rQ bW jG dG jY m_length qG uW eY aJ aB bT pW rD m_x jA pY rW qL pL) a i k).2.1 (itr (bd_X10_orchard_215 rG rQ bW jG dG jY m_length qG uW eY aJ aB bT pW rD m_x jA pY rW qL pL) a i k).2.2 qL pL → wb_X10_orchard_215 Q rG rQ n c bW (itr (bd_X10_orchard_215 rG rQ bW jG dG jY m_length qG uW eY aJ aB bT pW rD m_x jA pY rW qL pL) a i k).1 jG dG jY m_length qG uW eY aJ aB bT pW rD m_x jA pY rW (itr (bd_X10_orchard_215 rG rQ bW jG dG jY m_length qG uW eY aJ aB bT pW rD m_x jA pY rW qL pL) a i k).2.1 (itr (bd_X10_orchard_215 rG rQ bW jG dG jY m_length qG uW eY aJ aB bT pW rD m_x jA pY rW qL pL) a i k).2.2 qL pL := by
  intro n
  induction n with
  | zero => intro k c hc hk h; exact False.elim h
  | succ n ih =>
    intro k c hc hk h
    have hr := tp_r aB
    have hi : Int32.toInt c = ((i + k : Nat) : Int) := by rw [hc]; exact nI_toInt (by omega)
    refine And.intro (fun t0 => ?_) (fun t0 => ?_)
    · have h := And.left h t0
      have t1 := (fa_le _ _).mp t0
      have hk2 : k = (Int32.toInt aB - ((i : Nat) : Int)).toNat := by omega
      subst hk2
      exact hE _ _ hc rfl h
    · have h := And.right h t0
      have t1 := mt (fa_le _ _).mpr t0
      have hs : ∀ o : Int32 × (Nat → Int32) × (Nat → Int32), o = itr (bd_X10_orchard_215 rG rQ bW jG dG jY m_length qG uW eY aJ aB bT pW rD m_x jA pY rW qL pL) a i (k + 1) → wb_X10_orchard_215 P rG rQ n (c + 1) bW o.1 jG dG jY m_length qG uW eY aJ aB bT pW rD m_x jA pY rW o.2.1 o.2.2 qL pL → wb_X10_orchard_215 Q rG rQ n (c + 1) bW o.1 jG dG jY m_length qG uW eY aJ aB bT pW rD m_x jA pY rW o.2.1 o.2.2 qL pL := by
        intro o eo h9
        have q := ih (k + 1) (c + 1) (by rw [hc]; exact nI_1 _) (by omega)
        rw [← eo] at q
        exact q h9
      rw [itr_s, ← hc, bd_X10_orchard_215] at hs
      refine ae ?_
      have h := h _ rfl
      refine And.intro (And.left h) ?_
      have h := And.right h
      refine ae ?_
      have h := h _ rfl
      refine And.intro (And.left h) ?_
      have h := And.right h
      refine ae ?_
      have h := h _ rfl
      refine ae ?_
      have h := h _ rfl
      refine And.intro (And.left h) ?_
      have h := And.right h
      refine ae ?_
      have h := h _ rfl
      refine And.intro (And.left h) ?_
      have h := And.right h
      refine ae ?_
      have h := h _ rfl
      refine ae ?_
      have h := h _ rfl
      have q9 := hs _ rfl
      dsimp only at q9
      exact q9 h
noncomputable def ex_X10_orchard_105 {R : Type} (po : Int32 → Int32 → Int32 → Int32 → Int32 → Nat → Int32 → Int32 → Int32 → Int32 → Int32 → Int32 → Int32 → Int32 → (Nat → Int32) → (Nat → Int32) → (Nat → Int32) → (Nat → Int32) → (Nat → Int32) → (Nat → Int32) → (Nat → Int32) → (Nat → Int32) → (Nat → Int32) → R) (rG rQ : Nat → Int32) (aG jG dG : Int32) (jY : Nat) (m_length qG uW eY aJ aB bT pW : Int32) (oY pR qL pL : Nat → Int32) (c : Int32) (s : Int32 × (Nat → Int32) × (Nat → Int32) × (Nat → Int32) × (Nat → Int32) × (Nat → Int32)) : R := ex_X10_orchard_215 po rG rQ s.1 jG dG jY m_length qG uW eY aJ aB bT pW s.2.1 s.2.2.1 s.2.2.2.1 s.2.2.2.2.1 s.2.2.2.2.2 qL pL (nI (0 + (Int32.toInt aB - ((0 : Nat) : Int)).toNat)) (itr (bd_X10_orchard_215 rG rQ s.1 jG dG jY m_length qG uW eY aJ aB bT pW s.2.1 s.2.2.1 s.2.2.2.1 s.2.2.2.2.1 s.2.2.2.2.2 qL pL) (aG, oY, pR) 0 (Int32.toInt aB - ((0 : Nat) : Int)).toNat)
set_option maxHeartbeats 200000 in
set_option maxRecDepth 10000 in
theorem dl_X10_orchard_105 {P Q : Int32 → Int32 → Int32 → Int32 → Int32 → Nat → Int32 → Int32 → Int32 → Int32 → Int32 → Int32 → Int32 → Int32 → (Nat → Int32) → (Nat → Int32) → (Nat → Int32) → (Nat → Int32) → (Nat → Int32) → (Nat → Int32) → (Nat → Int32) → (Nat → Int32) → (Nat → Int32) → Prop} {rG rQ : Nat → Int32} {aG jG dG : Int32} {jY : Nat} {m_length qG uW eY aJ aB bT pW : Int32} {oY pR qL pL : Nat → Int32} {a : Int32 × (Nat → Int32) × (Nat → Int32) × (Nat → Int32) × (Nat → Int32) × (Nat → Int32)} {i : Nat} (hi0 : i < 2147483648) (hE : ∀ (c : Int32) (s : Int32 × (Nat → Int32) × (Nat → Int32) × (Nat → Int32) × (Nat → Int32) × (Nat → Int32)), c = nI (i + (Int32.toInt aJ - ((i : Nat) : Int)).toNat) → s = itr (bd_X10_orchard_105 rG rQ aG jG dG jY m_length qG uW eY aJ aB bT pW oY pR qL pL) a i (Int32.toInt aJ - ((i : Nat) : Int)).toNat → (∃ n : Nat, wb_X10_orchard_215 P rG rQ n 0 s.1 aG jG dG jY m_length qG uW eY aJ aB bT pW s.2.1 s.2.2.1 s.2.2.2.1 s.2.2.2.2.1 s.2.2.2.2.2 oY pR qL pL) → (∃ n : Nat, wb_X10_orchard_215 Q rG rQ n 0 s.1 aG jG dG jY m_length qG uW eY aJ aB bT pW s.2.1 s.2.2.1 s.2.2.2.1 s.2.2.2.2.1 s.2.2.2.2.2 oY pR qL pL)) : ∀ (n k : Nat) (c : Int32), c = nI (i + k) → k ≤ (Int32.toInt aJ - ((i : Nat) : Int)).toNat → wb_X10_orchard_105 P rG rQ n c (itr (bd_X10_orchard_105 rG rQ aG jG dG jY m_length qG uW eY aJ aB bT pW oY pR qL pL) a i k).1 aG jG dG jY m_length qG uW eY aJ aB bT pW (itr (bd_X10_orchard_105 rG rQ aG jG dG jY m_length qG uW eY aJ aB bT pW oY pR qL pL) a i k).2.1 (itr (bd_X10_orchard_105 rG rQ aG jG dG jY m_length qG uW eY aJ aB bT pW oY pR qL pL) a i k).2.2.1 (itr (bd_X10_orchard_105 rG rQ aG jG dG jY m_length qG uW eY aJ aB bT pW oY pR qL pL) a i k).2.2.2.1 (itr (bd_X10_orchard_105 rG rQ aG jG dG jY m_length qG uW eY aJ aB bT pW oY pR qL pL) a i k).2.2.2.2.1 (itr (bd_X10_orchard_105 rG rQ aG jG dG jY m_length qG uW eY aJ aB bT pW oY pR qL pL) a i k).2.2.2.2.2 oY pR qL pL → wb_X10_orchard_105 Q rG rQ n c (itr (bd_X10_orchard_105 rG rQ aG jG dG jY m_length qG uW eY aJ aB bT pW oY pR qL pL) a i k).1 aG jG dG jY m_length qG uW eY aJ aB bT pW (itr (bd_X10_orchard_105 rG rQ aG jG dG jY m_length qG uW eY aJ aB bT pW oY pR qL pL) a i k).2.1 (itr (bd_X10_orchard_105 rG rQ aG jG dG jY m_length qG uW eY aJ aB bT pW oY pR qL pL) a i k).2.2.1 (itr (bd_X10_orchard_105 rG rQ aG jG dG jY m_length qG uW eY aJ aB bT pW oY pR qL pL) a i k).2.2.2.1 (itr (bd_X10_orchard_105 rG rQ aG jG dG jY m_length qG uW eY aJ aB bT pW oY pR qL pL) a i k).2.2.2.2.1 (itr (bd_X10_orchard_105 rG rQ aG jG dG jY m_length qG uW eY aJ aB bT pW oY pR qL pL) a i k).2.2.2.2.2 oY pR qL pL := by
  intro n
  induction n with
  | zero => intro k c hc hk h; exact False.elim h
  | succ n ih =>
    intro k c hc hk h
    have hr := tp_r aJ
    have hi : Int32.toInt c = ((i + k : Nat) : Int) := by rw [hc]; exact nI_toInt (by omega)
    refine And.intro (fun t0 => ?_) (fun t0 => ?_)
    · have h := And.left h t0
      have t1 := (fa_le _ _).mp t0
      have hk2 : k = (Int32.toInt aJ - ((i : Nat) : Int)).toNat := by omega
      subst hk2
      exact hE _ _ hc rfl h
    · have h := And.right h t0
      have t1 := mt (fa_le _ _).mpr t0
      have hs : ∀ o : Int32 × (Nat → Int32) × (Nat → Int32) × (Nat → Int32) × (Nat → Int32) × (Nat → Int32), o = itr (bd_X10_orchard_105 rG rQ aG jG dG jY m_length qG uW eY aJ aB bT pW oY pR qL pL) a i (k + 1) → wb_X10_orchard_105 P rG rQ n (c + 1) o.1 aG jG dG jY m_length qG uW eY aJ aB bT pW o.2.1 o.2.2.1 o.2.2.2.1 o.2.2.2.2.1 o.2.2.2.2.2 oY pR qL pL → wb_X10_orchard_105 Q rG rQ n (c + 1) o.1 aG jG dG jY m_length qG uW eY aJ aB bT pW o.2.1 o.2.2.1 o.2.2.2.1 o.2.2.2.2.1 o.2.2.2.2.2 oY pR qL pL := by
        intro o eo h9
        have q := ih (k + 1) (c + 1) (by rw [hc]; exact nI_1 _) (by omega)
        rw [← eo] at q
        exact q h9
      rw [itr_s, ← hc, bd_X10_orchard_105] at hs
      refine ae ?_
      have h := h _ rfl
      refine And.intro (And.left h) ?_
      have h := And.right h
      refine ae ?_
      have h := h _ rfl
      refine And.intro (And.left h) ?_
      have h := And.right h
      refine ae ?_
      have h := h _ rfl
      refine ae ?_
      have h := h _ rfl
      refine And.intro (And.left h) ?_
      have h := And.right h
      refine ae ?_
      have h := h _ rfl
      refine And.intro (And.left h) ?_
      have h := And.right h
      refine ae ?_
      have h := h _ rfl
      refine ae ?_
      have h := h _ rfl
      refine And.intro (And.left h) ?_
      have h := And.right h
      refine ae ?_
      have h := h _ rfl
      refine And.intro (And.left h) ?_
      have h := And.right h
      refine ae ?_
      have h := h _ rfl
      refine ae ?_
      have h := h _ rfl
      refine And.intro (And.left h) ?_
      have h := And.right h
      refine ae ?_
      have h := h _ rfl
      refine And.intro (And.left h) ?_
      have h := And.right h
      refine And.intro (And.left h) ?_
      have h := And.right h
      refine ae ?_
      have h := h _ rfl
      refine ae ?_
      have h := h _ rfl
      have q9 := hs _ rfl
      dsimp only at q9
      exact q9 h
noncomputable def F_X3_allFruits (bZ : Int32) : Int32 := ((1 <<< (bZ &&& 31)) - 1)
set_option maxHeartbeats 200000 in
set_option maxRecDepth 10000 in
theorem dt_X3_allFruits {P Q : Int32 → Prop} {bZ : Int32} (h : wp_X3_allFruits P bZ) (hq : ∀ o : Int32, o = F_X3_allFruits bZ → P o → Q o) : wp_X3_allFruits Q bZ := by
  rw [F_X3_allFruits] at hq
  refine ae ?_
  have h := h _ rfl
  have q9 := hq _ rfl
  exact q9 h
theorem du_X3_allFruits {P Q : Int32 → Prop} {bZ : Int32} (h : wp_X3_allFruits P bZ) (hq : P (F_X3_allFruits bZ) → Q (F_X3_allFruits bZ)) : wp_X3_allFruits Q bZ := dt_X3_allFruits h (fun o eo => by rw [eo]; exact hq)
noncomputable def F_X0_hanging (bZ jC eO eW : Int32) : Int32 := ((F_X3_allFruits bZ) &&& (((jC ||| eO) ||| eW) ^^^ (-1)))
set_option maxHeartbeats 200000 in
set_option maxRecDepth 10000 in
theorem dt_X0_hanging {P Q : Int32 → Prop} {bZ jC eO eW : Int32} (h : wp_X0_hanging P bZ jC eO eW) (hq : ∀ o : Int32, o = F_X0_hanging bZ jC eO eW → P o → Q o) : wp_X0_hanging Q bZ jC eO eW := by
  rw [F_X0_hanging] at hq
  refine du_X3_allFruits h ?_
  intro h
  refine ae ?_
  have h := h _ rfl
  refine ae ?_
  have h := h _ rfl
  have q9 := hq _ rfl
  exact q9 h
theorem du_X0_hanging {P Q : Int32 → Prop} {bZ jC eO eW : Int32} (h : wp_X0_hanging P bZ jC eO eW) (hq : P (F_X0_hanging bZ jC eO eW) → Q (F_X0_hanging bZ jC eO eW)) : wp_X0_hanging Q bZ jC eO eW := dt_X0_hanging h (fun o eo => by rw [eo]; exact hq)
noncomputable def j_X3_lowerThan_89 {R : Type} (k15 : Int32 → Int32 → Int32 → Int32 → R) (bZ : Int32) (wD gF : Nat → Int32) (x1 x2 x3 x4 : Int32) : R := k15 x1 x2 x3 (x4 + 1)
noncomputable def j_X3_lowerThan_66 {R : Type} (k15 : Int32 → Int32 → Int32 → Int32 → R) (bZ : Int32) (wD gF : Nat → Int32) (x1 x2 x3 x4 k0 : Int32) : R := if k0 = 0 then (j_X3_lowerThan_89 k15 bZ wD gF x1 x2 x3 x4) else (if ((x2 >>> (x4 &&& 31)) &&& 1) = 0 then (j_X3_lowerThan_89 k15 bZ wD gF x1 x2 x3 x4) else (j_X3_lowerThan_89 k15 bZ wD gF x1 x2 (x3 ||| (1 <<< (x4 &&& 31))) x4))
noncomputable def j_X3_lowerThan_65 {R : Type} (k15 : Int32 → Int32 → Int32 → Int32 → R) (bZ : Int32) (wD gF : Nat → Int32) (x1 x2 x3 x4 : Int32) : R := j_X3_lowerThan_66 k15 bZ wD gF x1 x2 x3 x4 0
noncomputable def bd_X3_lowerThan_15 (bZ : Int32) (wD gF : Nat → Int32) (x1 x2 c s : Int32) : Int32 := if 1 < (if 0 ≤ ((wD c.toNatClampNeg) - (wD x1.toNatClampNeg)) then ((wD c.toNatClampNeg) - (wD x1.toNatClampNeg)) else 0 - ((wD c.toNatClampNeg) - (wD x1.toNatClampNeg))) then (j_X3_lowerThan_65 (fun q0 q1 q2 q3 => q2) bZ wD gF x1 x2 s c) else (if (gF x1.toNatClampNeg) ≤ (gF c.toNatClampNeg) then (j_X3_lowerThan_65 (fun q0 q1 q2 q3 => q2) bZ wD gF x1 x2 s c) else (j_X3_lowerThan_66 (fun q0 q1 q2 q3 => q2) bZ wD gF x1 x2 s c 1))
noncomputable def ex_X3_lowerThan_15 {R : Type} (po : Int32 → R) (bZ : Int32) (wD gF : Nat → Int32) (x1 x2 c s : Int32) : R := po s
set_option maxHeartbeats 200000 in
set_option maxRecDepth 10000 in
theorem dl_X3_lowerThan_15 {P Q : Int32 → Prop} {bZ : Int32} {wD gF : Nat → Int32} {x1 x2 a : Int32} {i : Nat} (hi0 : i < 2147483648) (hE : ∀ (c : Int32) (s : Int32), c = nI (i + (Int32.toInt bZ - ((i : Nat) : Int)).toNat) → s = itr (bd_X3_lowerThan_15 bZ wD gF x1 x2) a i (Int32.toInt bZ - ((i : Nat) : Int)).toNat → (P s) → (Q s)) : ∀ (n k : Nat) (c : Int32), c = nI (i + k) → k ≤ (Int32.toInt bZ - ((i : Nat) : Int)).toNat → wb_X3_lowerThan_15 P bZ wD gF n x1 x2 (itr (bd_X3_lowerThan_15 bZ wD gF x1 x2) a i k) c → wb_X3_lowerThan_15 Q bZ wD gF n x1 x2 (itr (bd_X3_lowerThan_15 bZ wD gF x1 x2) a i k) c := by
  intro n
  induction n with
  | zero => intro k c hc hk h; exact False.elim h
  | succ n ih =>
    intro k c hc hk h
    have hr := tp_r bZ
    have hi : Int32.toInt c = ((i + k : Nat) : Int) := by rw [hc]; exact nI_toInt (by omega)
    refine And.intro (fun t0 => ?_) (fun t0 => ?_)
    · have h := And.left h t0
      have t1 := (fa_le _ _).mp t0
      have hk2 : k = (Int32.toInt bZ - ((i : Nat) : Int)).toNat := by omega
      subst hk2
      exact hE _ _ hc rfl h
    · have h := And.right h t0
      have t1 := mt (fa_le _ _).mpr t0
      have hs : ∀ o : Int32, o = itr (bd_X3_lowerThan_15 bZ wD gF x1 x2) a i (k + 1) → wb_X3_lowerThan_15 P bZ wD gF n x1 x2 o (c + 1) → wb_X3_lowerThan_15 Q bZ wD gF n x1 x2 o (c + 1) := by
        intro o eo h9
        have q := ih (k + 1) (c + 1) (by rw [hc]; exact nI_1 _) (by omega)
        rw [← eo] at q
        exact q h9
      rw [itr_s, ← hc, bd_X3_lowerThan_15] at hs
      refine And.intro (And.left h) ?_
      have h := And.right h
      refine ae ?_
      have h := h _ rfl
      refine And.intro (And.left h) ?_
      have h := And.right h
      refine ae ?_
      have h := h _ rfl
      refine ae ?_
      have h := h _ rfl
      refine And.intro (fun c1 => ?_) (fun c1 => ?_)
      · have h := And.left h c1
        rw [if_pos c1] at hs
        rw [j_X3_lowerThan_65] at hs
        unfold ws_X3_lowerThan_65 at h ⊢
        rw [j_X3_lowerThan_66] at hs
        unfold ws_X3_lowerThan_66 at h ⊢
        refine And.intro (fun c2 => ?_) (fun c2 => ?_)
        · have h := And.left h c2
          rw [if_pos c2] at hs
          rw [j_X3_lowerThan_89] at hs
          unfold ws_X3_lowerThan_89 at h ⊢
          refine ae ?_
          have h := h _ rfl
          have q9 := hs _ rfl
          exact q9 h
        · have h := And.right h c2
          rw [if_neg c2] at hs
          refine ae ?_
          have h := h _ rfl
          refine And.intro (fun c3 => ?_) (fun c3 => ?_)
          · have h := And.left h c3
            rw [if_pos c3] at hs
            rw [j_X3_lowerThan_89] at hs
            unfold ws_X3_lowerThan_89 at h ⊢
            refine ae ?_
            have h := h _ rfl
            have q9 := hs _ rfl
            exact q9 h
          · have h := And.right h c3
            rw [if_neg c3] at hs
            refine ae ?_
            have h := h _ rfl
            rw [j_X3_lowerThan_89] at hs
            unfold ws_X3_lowerThan_89 at h ⊢
            refine ae ?_
            have h := h _ rfl
            have q9 := hs _ rfl
            exact q9 h
      · have h := And.right h c1
        rw [if_neg c1] at hs
        refine And.intro (And.left h) ?_
        have h := And.right h
        refine ae ?_
        have h := h _ rfl
        refine And.intro (And.left h) ?_
        have h := And.right h
        refine And.intro (fun c4 => ?_) (fun c4 => ?_)
        · have h := And.left h c4
          rw [if_pos c4] at hs
          rw [j_X3_lowerThan_65] at hs
          unfold ws_X3_lowerThan_65 at h ⊢
          rw [j_X3_lowerThan_66] at hs
          unfold ws_X3_lowerThan_66 at h ⊢
          refine And.intro (fun c5 => ?_) (fun c5 => ?_)
          · have h := And.left h c5
            rw [if_pos c5] at hs
            rw [j_X3_lowerThan_89] at hs
            unfold ws_X3_lowerThan_89 at h ⊢
            refine ae ?_
            have h := h _ rfl
            have q9 := hs _ rfl
            exact q9 h
          · have h := And.right h c5
            rw [if_neg c5] at hs
            refine ae ?_
            have h := h _ rfl
            refine And.intro (fun c6 => ?_) (fun c6 => ?_)
            · have h := And.left h c6
              rw [if_pos c6] at hs
              rw [j_X3_lowerThan_89] at hs
              unfold ws_X3_lowerThan_89 at h ⊢
              refine ae ?_
              have h := h _ rfl
              have q9 := hs _ rfl
              exact q9 h
            · have h := And.right h c6
              rw [if_neg c6] at hs
              refine ae ?_
              have h := h _ rfl
              rw [j_X3_lowerThan_89] at hs
              unfold ws_X3_lowerThan_89 at h ⊢
              refine ae ?_
              have h := h _ rfl
              have q9 := hs _ rfl
              exact q9 h
        · have h := And.right h c4
          rw [if_neg c4] at hs
          rw [j_X3_lowerThan_66] at hs
          unfold ws_X3_lowerThan_66 at h ⊢
          refine And.intro (fun c7 => ?_) (fun c7 => ?_)
          · have h := And.left h c7
            rw [if_pos c7] at hs
            rw [j_X3_lowerThan_89] at hs
            unfold ws_X3_lowerThan_89 at h ⊢
            refine ae ?_
            have h := h _ rfl
            have q9 := hs _ rfl
            exact q9 h
          · have h := And.right h c7
            rw [if_neg c7] at hs
            refine ae ?_
            have h := h _ rfl
            refine And.intro (fun c8 => ?_) (fun c8 => ?_)
            · have h := And.left h c8
              rw [if_pos c8] at hs
              rw [j_X3_lowerThan_89] at hs
              unfold ws_X3_lowerThan_89 at h ⊢
              refine ae ?_
              have h := h _ rfl
              have q9 := hs _ rfl
              exact q9 h
            · have h := And.right h c8
              rw [if_neg c8] at hs
              refine ae ?_
              have h := h _ rfl
              rw [j_X3_lowerThan_89] at hs
              unfold ws_X3_lowerThan_89 at h ⊢
              refine ae ?_
              have h := h _ rfl
              have q9 := hs _ rfl
              exact q9 h
noncomputable def F_X3_lowerThan (p0 p1 bZ : Int32) (wD gF : Nat → Int32) : Int32 := if ((p1 >>> (p0 &&& 31)) &&& 1) = 0 then 0 else (ex_X3_lowerThan_15 (fun o0 => o0) bZ wD gF p0 p1 (nI (0 + (Int32.toInt bZ - ((0 : Nat) : Int)).toNat)) (itr (bd_X3_lowerThan_15 bZ wD gF p0 p1) 0 0 (Int32.toInt bZ - ((0 : Nat) : Int)).toNat))
set_option maxHeartbeats 200000 in
set_option maxRecDepth 10000 in
theorem dt_X3_lowerThan {P Q : Int32 → Prop} {p0 p1 bZ : Int32} {wD gF : Nat → Int32} (h : wp_X3_lowerThan P p0 p1 bZ wD gF) (hq : ∀ o : Int32, o = F_X3_lowerThan p0 p1 bZ wD gF → P o → Q o) : wp_X3_lowerThan Q p0 p1 bZ wD gF := by
  rw [F_X3_lowerThan] at hq
  refine ae ?_
  have h := h _ rfl
  refine And.intro (fun c1 => ?_) (fun c1 => ?_)
  · have h := And.left h c1
    rw [if_neg c1] at hq
    obtain ⟨n2, h⟩ := h
    refine ⟨n2, dl_X3_lowerThan_15 (a := 0) (i := 0) (by decide) ?_ n2 0 0 (by decide) (Nat.zero_le _) h⟩
    intro cc3 s4 ec5 es6 h
    rw [← ec5, ← es6, ex_X3_lowerThan_15] at hq
    have q9 := hq _ rfl
    exact q9 h
  · have h := And.right h c1
    rw [if_pos c1] at hq
    have q9 := hq _ rfl
    exact q9 h
theorem du_X3_lowerThan {P Q : Int32 → Prop} {p0 p1 bZ : Int32} {wD gF : Nat → Int32} (h : wp_X3_lowerThan P p0 p1 bZ wD gF) (hq : P (F_X3_lowerThan p0 p1 bZ wD gF) → Q (F_X3_lowerThan p0 p1 bZ wD gF)) : wp_X3_lowerThan Q p0 p1 bZ wD gF := dt_X3_lowerThan h (fun o eo => by rw [eo]; exact hq)
noncomputable def F_X2_write (p1 jC eO eW dO fJ fY jD nG : Int32) (sG : Nat → Int32) : (Nat → Int32) := if p1 < 0 then sG else (if p1 ≤ (104 - 8) then (upd (upd (upd (upd (upd (upd (upd (upd sG p1.toNatClampNeg jC) (p1 + 1).toNatClampNeg eO) (p1 + 2).toNatClampNeg eW) (p1 + 3).toNatClampNeg dO) (p1 + 4).toNatClampNeg fJ) (p1 + 5).toNatClampNeg fY) (p1 + 6).toNatClampNeg jD) (p1 + 7).toNatClampNeg nG) else sG)
set_option maxHeartbeats 200000 in
set_option maxRecDepth 10000 in
theorem dt_X2_write {P Q : (Nat → Int32) → Prop} {p1 jC eO eW dO fJ fY jD nG : Int32} {sG : Nat → Int32} (h : wp_X2_write P p1 jC eO eW dO fJ fY jD nG sG) (hq : ∀ o : (Nat → Int32), o = F_X2_write p1 jC eO eW dO fJ fY jD nG sG → P o → Q o) : wp_X2_write Q p1 jC eO eW dO fJ fY jD nG sG := by
  rw [F_X2_write] at hq
  refine And.intro (fun c1 => ?_) (fun c1 => ?_)
  · have h := And.left h c1
    rw [if_pos c1] at hq
    have q9 := hq _ rfl
    exact q9 h
  · have h := And.right h c1
    rw [if_neg c1] at hq
    refine And.intro (fun c2 => ?_) (fun c2 => ?_)
    · have h := And.left h c2
      rw [if_pos c2] at hq
      refine And.intro (And.left h) ?_
      have h := And.right h
      refine ae ?_
      have h := h _ rfl
      refine And.intro (And.left h) ?_
      have h := And.right h
      refine ae ?_
      have h := h _ rfl
      refine And.intro (And.left h) ?_
      have h := And.right h
      refine ae ?_
      have h := h _ rfl
      refine And.intro (And.left h) ?_
      have h := And.right h
      refine ae ?_
      have h := h _ rfl
      refine And.intro (And.left h) ?_
      have h := And.right h
      refine ae ?_
      have h := h _ rfl
      refine And.intro (And.left h) ?_
      have h := And.right h
      refine ae ?_
      have h := h _ rfl
      refine And.intro (And.left h) ?_
      have h := And.right h
      refine ae ?_
      have h := h _ rfl
      refine And.intro (And.left h) ?_
      have h := And.right h
      have q9 := hq _ rfl
      exact q9 h
    · have h := And.right h c2
      rw [if_neg c2] at hq
      have q9 := hq _ rfl
      exact q9 h
theorem du_X2_write {P Q : (Nat → Int32) → Prop} {p1 jC eO eW dO fJ fY jD nG : Int32} {sG : Nat → Int32} (h : wp_X2_write P p1 jC eO eW dO fJ fY jD nG sG) (hq : P (F_X2_write p1 jC eO eW dO fJ fY jD nG sG) → Q (F_X2_write p1 jC eO eW dO fJ fY jD nG sG)) : wp_X2_write Q p1 jC eO eW dO fJ fY jD nG sG := dt_X2_write h (fun o eo => by rw [eo]; exact hq)
noncomputable def F_X4_note (jC eO eW dO fJ fY jD nG uF : Int32) (sG : Nat → Int32) : (Nat → Int32) := (F_X2_write (uF * 8) jC eO eW dO fJ fY jD nG sG)
set_option maxHeartbeats 200000 in
set_option maxRecDepth 10000 in
theorem dt_X4_note {P Q : (Nat → Int32) → Prop} {jC eO eW dO fJ fY jD nG uF : Int32} {sG : Nat → Int32} (h : wp_X4_note P jC eO eW dO fJ fY jD nG uF sG) (hq : ∀ o : (Nat → Int32), o = F_X4_note jC eO eW dO fJ fY jD nG uF sG → P o → Q o) : wp_X4_note Q jC eO eW dO fJ fY jD nG uF sG := by
  rw [F_X4_note] at hq
  refine ae ?_
  have h := h _ rfl
  refine du_X2_write h ?_
  intro h
  have q9 := hq _ rfl
  exact q9 h
theorem du_X4_note {P Q : (Nat → Int32) → Prop} {jC eO eW dO fJ fY jD nG uF : Int32} {sG : Nat → Int32} (h : wp_X4_note P jC eO eW dO fJ fY jD nG uF sG) (hq : P (F_X4_note jC eO eW dO fJ fY jD nG uF sG) → Q (F_X4_note jC eO eW dO fJ fY jD nG uF sG)) : wp_X4_note Q jC eO eW dO fJ fY jD nG uF sG := dt_X4_note h (fun o eo => by rw [eo]; exact hq)
noncomputable def F_X3_moveSeconds (p0 p1 : Int32) (nJ dQ : Nat → Int32) : Int32 := if p0 = (-1) then 9 else (9 + ((dQ (3 : Int32).toNatClampNeg) * (if 0 ≤ ((nJ p0.toNatClampNeg) - (nJ p1.toNatClampNeg)) then ((nJ p0.toNatClampNeg) - (nJ p1.toNatClampNeg)) else 0 - ((nJ p0.toNatClampNeg) - (nJ p1.toNatClampNeg)))))
set_option maxHeartbeats 200000 in
set_option maxRecDepth 10000 in
theorem dt_X3_moveSeconds {P Q : Int32 → Prop} {p0 p1 : Int32} {nJ dQ : Nat → Int32} (h : wp_X3_moveSeconds P p0 p1 nJ dQ) (hq : ∀ o : Int32, o = F_X3_moveSeconds p0 p1 nJ dQ → P o → Q o) : wp_X3_moveSeconds Q p0 p1 nJ dQ := by
  rw [F_X3_moveSeconds] at hq
  refine And.intro (fun c1 => ?_) (fun c1 => ?_)
  · have h := And.left h c1
    rw [if_neg c1] at hq
    refine ae ?_
    have h := h _ rfl
    refine And.intro (And.left h) ?_
    have h := And.right h
    refine ae ?_
    have h := h _ rfl
    refine And.intro (And.left h) ?_
    have h := And.right h
    refine ae ?_
    have h := h _ rfl
    refine ae ?_
    have h := h _ rfl
    have q9 := hq _ rfl
    exact q9 h
  · have h := And.right h c1
    rw [if_pos c1] at hq
    have q9 := hq _ rfl
    exact q9 h
theorem du_X3_moveSeconds {P Q : Int32 → Prop} {p0 p1 : Int32} {nJ dQ : Nat → Int32} (h : wp_X3_moveSeconds P p0 p1 nJ dQ) (hq : P (F_X3_moveSeconds p0 p1 nJ dQ) → Q (F_X3_moveSeconds p0 p1 nJ dQ)) : wp_X3_moveSeconds Q p0 p1 nJ dQ := dt_X3_moveSeconds h (fun o eo => by rw [eo]; exact hq)
noncomputable def F_X2_emptyApron (jC eO : Int32) : Int32 × Int32 := (0, (eO ||| jC))
set_option maxHeartbeats 200000 in
set_option maxRecDepth 10000 in
theorem dt_X2_emptyApron {P Q : Int32 → Int32 → Prop} {jC eO : Int32} (h : wp_X2_emptyApron P jC eO) (hq : ∀ o : Int32 × Int32, o = F_X2_emptyApron jC eO → P o.1 o.2 → Q o.1 o.2) : wp_X2_emptyApron Q jC eO := by
  rw [F_X2_emptyApron] at hq
  refine ae ?_
  have h := h _ rfl
  have q9 := hq _ rfl
  dsimp only at q9
  exact q9 h
theorem du_X2_emptyApron {P Q : Int32 → Int32 → Prop} {jC eO : Int32} (h : wp_X2_emptyApron P jC eO) (hq : P (F_X2_emptyApron jC eO).1 (F_X2_emptyApron jC eO).2 → Q (F_X2_emptyApron jC eO).1 (F_X2_emptyApron jC eO).2) : wp_X2_emptyApron Q jC eO := dt_X2_emptyApron h (fun o eo => by rw [eo]; exact hq)
noncomputable def F_X2_spend (p0 nG : Int32) : Int32 := (if (nG + p0) < 9999 then (nG + p0) else 9999)
set_option maxHeartbeats 200000 in
set_option maxRecDepth 10000 in
theorem dt_X2_spend {P Q : Int32 → Prop} {p0 nG : Int32} (h : wp_X2_spend P p0 nG) (hq : ∀ o : Int32, o = F_X2_spend p0 nG → P o → Q o) : wp_X2_spend Q p0 nG := by
  rw [F_X2_spend] at hq
  refine ae ?_
  have h := h _ rfl
  refine ae ?_
  have h := h _ rfl
  have q9 := hq _ rfl
  exact q9 h
theorem du_X2_spend {P Q : Int32 → Prop} {p0 nG : Int32} (h : wp_X2_spend P p0 nG) (hq : P (F_X2_spend p0 nG) → Q (F_X2_spend p0 nG)) : wp_X2_spend Q p0 nG := dt_X2_spend h (fun o eo => by rw [eo]; exact hq)
noncomputable def j_X0_setLadder_81 {R : Type} (po : Int32 → Int32 → Int32 → Int32 → Int32 → R) (bD : Int32) (nJ nY dQ : Nat → Int32) (x1 x2 jC eO fJ nG : Int32) : R := po x2 ((F_X2_emptyApron jC eO).1) ((F_X2_emptyApron jC eO).2) x1 (F_X2_spend x2 nG)
noncomputable def F_X0_setLadder (p0 bD : Int32) (nJ nY dQ : Nat → Int32) (jC eO fJ nG : Int32) : Int32 × Int32 × Int32 × Int32 × Int32 := if (F_X3_hasStanding p0 bD) = 0 then ((-1), jC, eO, fJ, nG) else (if p0 = fJ then ((-2), jC, eO, fJ, nG) else (if jC = 0 then (j_X0_setLadder_81 (fun o0 o1 o2 o3 o4 => (o0, o1, o2, o3, o4)) bD nJ nY dQ p0 (F_X3_moveSeconds fJ p0 nJ dQ) jC eO fJ nG) else (if fJ = (-1) then (j_X0_setLadder_81 (fun o0 o1 o2 o3 o4 => (o0, o1, o2, o3, o4)) bD nJ nY dQ p0 (F_X3_moveSeconds fJ p0 nJ dQ) jC eO fJ nG) else (j_X0_setLadder_81 (fun o0 o1 o2 o3 o4 => (o0, o1, o2, o3, o4)) bD nJ nY dQ p0 ((F_X3_moveSeconds fJ p0 nJ dQ) + (F_X3_downSeconds fJ nY)) jC eO fJ nG))))
set_option maxHeartbeats 200000 in
set_option maxRecDepth 10000 in
theorem dt_X0_setLadder {P Q : Int32 → Int32 → Int32 → Int32 → Int32 → Prop} {p0 bD : Int32} {nJ nY dQ : Nat → Int32} {jC eO fJ nG : Int32} (h : wp_X0_setLadder P p0 bD nJ nY dQ jC eO fJ nG) (hq : ∀ o : Int32 × Int32 × Int32 × Int32 × Int32, o = F_X0_setLadder p0 bD nJ nY dQ jC eO fJ nG → P o.1 o.2.1 o.2.2.1 o.2.2.2.1 o.2.2.2.2 → Q o.1 o.2.1 o.2.2.1 o.2.2.2.1 o.2.2.2.2) : wp_X0_setLadder Q p0 bD nJ nY dQ jC eO fJ nG := by
  rw [F_X0_setLadder] at hq
  refine du_X3_hasStanding h ?_
  intro h
  refine And.intro (fun c1 => ?_) (fun c1 => ?_)
  · have h := And.left h c1
    rw [if_neg c1] at hq
    refine And.intro (fun c2 => ?_) (fun c2 => ?_)
    · have h := And.left h c2
      rw [if_neg c2] at hq
      refine du_X3_moveSeconds h ?_
      intro h
      refine And.intro (fun c3 => ?_) (fun c3 => ?_)
      · have h := And.left h c3
        rw [if_pos c3] at hq
        rw [j_X0_setLadder_81] at hq
        unfold ws_X0_setLadder_81 at h ⊢
        refine du_X2_emptyApron h ?_
        intro h
        refine du_X2_spend h ?_
        intro h
        have q9 := hq _ rfl
        dsimp only at q9
        exact q9 h
      · have h := And.right h c3
        rw [if_neg c3] at hq
        refine And.intro (fun c4 => ?_) (fun c4 => ?_)
        · have h := And.left h c4
          rw [if_pos c4] at hq
          rw [j_X0_setLadder_81] at hq
          unfold ws_X0_setLadder_81 at h ⊢
          refine du_X2_emptyApron h ?_
          intro h
          refine du_X2_spend h ?_
          intro h
          have q9 := hq _ rfl
          dsimp only at q9
          exact q9 h
        · have h := And.right h c4
          rw [if_neg c4] at hq
          refine du_X3_downSeconds h ?_
          intro h
          refine ae ?_
          have h := h _ rfl
          rw [j_X0_setLadder_81] at hq
          unfold ws_X0_setLadder_81 at h ⊢
          refine du_X2_emptyApron h ?_
          intro h
          refine du_X2_spend h ?_
          intro h
          have q9 := hq _ rfl
          dsimp only at q9
          exact q9 h
    · have h := And.right h c2
      rw [if_pos c2] at hq
      have q9 := hq _ rfl
      dsimp only at q9
      exact q9 h
  · have h := And.right h c1
    rw [if_pos c1] at hq
    have q9 := hq _ rfl
    dsimp only at q9
    exact q9 h
theorem du_X0_setLadder {P Q : Int32 → Int32 → Int32 → Int32 → Int32 → Prop} {p0 bD : Int32} {nJ nY dQ : Nat → Int32} {jC eO fJ nG : Int32} (h : wp_X0_setLadder P p0 bD nJ nY dQ jC eO fJ nG) (hq : P (F_X0_setLadder p0 bD nJ nY dQ jC eO fJ nG).1 (F_X0_setLadder p0 bD nJ nY dQ jC eO fJ nG).2.1 (F_X0_setLadder p0 bD nJ nY dQ jC eO fJ nG).2.2.1 (F_X0_setLadder p0 bD nJ nY dQ jC eO fJ nG).2.2.2.1 (F_X0_setLadder p0 bD nJ nY dQ jC eO fJ nG).2.2.2.2 → Q (F_X0_setLadder p0 bD nJ nY dQ jC eO fJ nG).1 (F_X0_setLadder p0 bD nJ nY dQ jC eO fJ nG).2.1 (F_X0_setLadder p0 bD nJ nY dQ jC eO fJ nG).2.2.1 (F_X0_setLadder p0 bD nJ nY dQ jC eO fJ nG).2.2.2.1 (F_X0_setLadder p0 bD nJ nY dQ jC eO fJ nG).2.2.2.2) : wp_X0_setLadder Q p0 bD nJ nY dQ jC eO fJ nG := dt_X0_setLadder h (fun o eo => by rw [eo]; exact hq)
noncomputable def F_X4_hold (oE uF : Int32) : Int32 × Int32 := ((if (oE + 1) < 12 then (oE + 1) else 12), ((uF + 1) - (uF + 1) / 13 * 13))
set_option maxHeartbeats 200000 in
set_option maxRecDepth 10000 in
theorem dt_X4_hold {P Q : Int32 → Int32 → Prop} {oE uF : Int32} (h : wp_X4_hold P oE uF) (hq : ∀ o : Int32 × Int32, o = F_X4_hold oE uF → P o.1 o.2 → Q o.1 o.2) : wp_X4_hold Q oE uF := by
  rw [F_X4_hold] at hq
  refine ae ?_
  have h := h _ rfl
  refine ae ?_
  have h := h _ rfl
  refine ae ?_
  have h := h _ rfl
  refine ae ?_
  have h := h _ rfl
  have q9 := hq _ rfl
  dsimp only at q9
  exact q9 h
theorem du_X4_hold {P Q : Int32 → Int32 → Prop} {oE uF : Int32} (h : wp_X4_hold P oE uF) (hq : P (F_X4_hold oE uF).1 (F_X4_hold oE uF).2 → Q (F_X4_hold oE uF).1 (F_X4_hold oE uF).2) : wp_X4_hold Q oE uF := dt_X4_hold h (fun o eo => by rw [eo]; exact hq)
noncomputable def F_X9_holdIfDone (p0 oE uF : Int32) : Int32 × Int32 × Int32 := if p0 < 0 then (p0, oE, uF) else (p0, (F_X4_hold oE uF).1, (F_X4_hold oE uF).2)
set_option maxHeartbeats 200000 in
set_option maxRecDepth 10000 in
theorem dt_X9_holdIfDone {P Q : Int32 → Int32 → Int32 → Prop} {p0 oE uF : Int32} (h : wp_X9_holdIfDone P p0 oE uF) (hq : ∀ o : Int32 × Int32 × Int32, o = F_X9_holdIfDone p0 oE uF → P o.1 o.2.1 o.2.2 → Q o.1 o.2.1 o.2.2) : wp_X9_holdIfDone Q p0 oE uF := by
  rw [F_X9_holdIfDone] at hq
  refine And.intro (fun c1 => ?_) (fun c1 => ?_)
  · have h := And.left h c1
    rw [if_pos c1] at hq
    have q9 := hq _ rfl
    dsimp only at q9
    exact q9 h
  · have h := And.right h c1
    rw [if_neg c1] at hq
    refine du_X4_hold h ?_
    intro h
    have q9 := hq _ rfl
    dsimp only at q9
    exact q9 h
theorem du_X9_holdIfDone {P Q : Int32 → Int32 → Int32 → Prop} {p0 oE uF : Int32} (h : wp_X9_holdIfDone P p0 oE uF) (hq : P (F_X9_holdIfDone p0 oE uF).1 (F_X9_holdIfDone p0 oE uF).2.1 (F_X9_holdIfDone p0 oE uF).2.2 → Q (F_X9_holdIfDone p0 oE uF).1 (F_X9_holdIfDone p0 oE uF).2.1 (F_X9_holdIfDone p0 oE uF).2.2) : wp_X9_holdIfDone Q p0 oE uF := dt_X9_holdIfDone h (fun o eo => by rw [eo]; exact hq)
theorem dw_X9_holdIfDone {Q : Int32 → Int32 → Int32 → Prop} {p0 oE uF : Int32} (h : wp_X9_holdIfDone (fun o0 o1 o2 => (o0, o1, o2) = F_X9_holdIfDone p0 oE uF → Q o0 o1 o2) p0 oE uF) : wp_X9_holdIfDone Q p0 oE uF := dt_X9_holdIfDone h (fun o eo hp => hp eo)
noncomputable def F_X9_move (p0 bD : Int32) (nJ nY dQ : Nat → Int32) (jC eO eW dO fJ fY jD nG oE uF : Int32) (sG : Nat → Int32) : Int32 × Int32 × Int32 × Int32 × Int32 × Int32 × Int32 × (Nat → Int32) := ((F_X9_holdIfDone (F_X0_setLadder p0 bD nJ nY dQ jC eO fJ nG).1 oE uF).1, (F_X0_setLadder p0 bD nJ nY dQ jC eO fJ nG).2.1, (F_X0_setLadder p0 bD nJ nY dQ jC eO fJ nG).2.2.1, (F_X0_setLadder p0 bD nJ nY dQ jC eO fJ nG).2.2.2.1, (F_X0_setLadder p0 bD nJ nY dQ jC eO fJ nG).2.2.2.2, (F_X9_holdIfDone (F_X0_setLadder p0 bD nJ nY dQ jC eO fJ nG).1 oE uF).2.1, (F_X9_holdIfDone (F_X0_setLadder p0 bD nJ nY dQ jC eO fJ nG).1 oE uF).2.2, (F_X4_note jC eO eW dO fJ fY jD nG uF sG))
set_option maxHeartbeats 200000 in
set_option maxRecDepth 10000 in
theorem dt_X9_move {P Q : Int32 → Int32 → Int32 → Int32 → Int32 → Int32 → Int32 → (Nat → Int32) → Prop} {p0 bD : Int32} {nJ nY dQ : Nat → Int32} {jC eO eW dO fJ fY jD nG oE uF : Int32} {sG : Nat → Int32} (h : wp_X9_move P p0 bD nJ nY dQ jC eO eW dO fJ fY jD nG oE uF sG) (hq : ∀ o : Int32 × Int32 × Int32 × Int32 × Int32 × Int32 × Int32 × (Nat → Int32), o = F_X9_move p0 bD nJ nY dQ jC eO eW dO fJ fY jD nG oE uF sG → P o.1 o.2.1 o.2.2.1 o.2.2.2.1 o.2.2.2.2.1 o.2.2.2.2.2.1 o.2.2.2.2.2.2.1 o.2.2.2.2.2.2.2 → Q o.1 o.2.1 o.2.2.1 o.2.2.2.1 o.2.2.2.2.1 o.2.2.2.2.2.1 o.2.2.2.2.2.2.1 o.2.2.2.2.2.2.2) : wp_X9_move Q p0 bD nJ nY dQ jC eO eW dO fJ fY jD nG oE uF sG := by
  rw [F_X9_move] at hq
  refine du_X4_note h ?_
  intro h
  refine du_X0_setLadder h ?_
  intro h
  refine du_X9_holdIfDone h ?_
  intro h
  have q9 := hq _ rfl
  dsimp only at q9
  exact q9 h
theorem du_X9_move {P Q : Int32 → Int32 → Int32 → Int32 → Int32 → Int32 → Int32 → (Nat → Int32) → Prop} {p0 bD : Int32} {nJ nY dQ : Nat → Int32} {jC eO eW dO fJ fY jD nG oE uF : Int32} {sG : Nat → Int32} (h : wp_X9_move P p0 bD nJ nY dQ jC eO eW dO fJ fY jD nG oE uF sG) (hq : P (F_X9_move p0 bD nJ nY dQ jC eO eW dO fJ fY jD nG oE uF sG).1 (F_X9_move p0 bD nJ nY dQ jC eO eW dO fJ fY jD nG oE uF sG).2.1 (F_X9_move p0 bD nJ nY dQ jC eO eW dO fJ fY jD nG oE uF sG).2.2.1 (F_X9_move p0 bD nJ nY dQ jC eO eW dO fJ fY jD nG oE uF sG).2.2.2.1 (F_X9_move p0 bD nJ nY dQ jC eO eW dO fJ fY jD nG oE uF sG).2.2.2.2.1 (F_X9_move p0 bD nJ nY dQ jC eO eW dO fJ fY jD nG oE uF sG).2.2.2.2.2.1 (F_X9_move p0 bD nJ nY dQ jC eO eW dO fJ fY jD nG oE uF sG).2.2.2.2.2.2.1 (F_X9_move p0 bD nJ nY dQ jC eO eW dO fJ fY jD nG oE uF sG).2.2.2.2.2.2.2 → Q (F_X9_move p0 bD nJ nY dQ jC eO eW dO fJ fY jD nG oE uF sG).1 (F_X9_move p0 bD nJ nY dQ jC eO eW dO fJ fY jD nG oE uF sG).2.1 (F_X9_move p0 bD nJ nY dQ jC eO eW dO fJ fY jD nG oE uF sG).2.2.1 (F_X9_move p0 bD nJ nY dQ jC eO eW dO fJ fY jD nG oE uF sG).2.2.2.1 (F_X9_move p0 bD nJ nY dQ jC eO eW dO fJ fY jD nG oE uF sG).2.2.2.2.1 (F_X9_move p0 bD nJ nY dQ jC eO eW dO fJ fY jD nG oE uF sG).2.2.2.2.2.1 (F_X9_move p0 bD nJ nY dQ jC eO eW dO fJ fY jD nG oE uF sG).2.2.2.2.2.2.1 (F_X9_move p0 bD nJ nY dQ jC eO eW dO fJ fY jD nG oE uF sG).2.2.2.2.2.2.2) : wp_X9_move Q p0 bD nJ nY dQ jC eO eW dO fJ fY jD nG oE uF sG := dt_X9_move h (fun o eo => by rw [eo]; exact hq)
theorem dw_X9_move {Q : Int32 → Int32 → Int32 → Int32 → Int32 → Int32 → Int32 → (Nat → Int32) → Prop} {p0 bD : Int32} {nJ nY dQ : Nat → Int32} {jC eO eW dO fJ fY jD nG oE uF : Int32} {sG : Nat → Int32} (h : wp_X9_move (fun o0 o1 o2 o3 o4 o5 o6 o7 => (o0, o1, o2, o3, o4, o5, o6, o7) = F_X9_move p0 bD nJ nY dQ jC eO eW dO fJ fY jD nG oE uF sG → Q o0 o1 o2 o3 o4 o5 o6 o7) p0 bD nJ nY dQ jC eO eW dO fJ fY jD nG oE uF sG) : wp_X9_move Q p0 bD nJ nY dQ jC eO eW dO fJ fY jD nG oE uF sG := dt_X9_move h (fun o eo hp => hp eo)
noncomputable def j_X9_isYesOrNo_9 {R : Type} (po : Int32 → R) : R := po 1
noncomputable def F_X9_isYesOrNo (p0 : Int32) : Int32 := if p0 = 0 then (j_X9_isYesOrNo_9 (fun o0 => o0)) else (if p0 = 1 then (j_X9_isYesOrNo_9 (fun o0 => o0)) else 0)
set_option maxHeartbeats 200000 in
set_option maxRecDepth 10000 in
theorem dt_X9_isYesOrNo {P Q : Int32 → Prop} {p0 : Int32} (h : wp_X9_isYesOrNo P p0) (hq : ∀ o : Int32, o = F_X9_isYesOrNo p0 → P o → Q o) : wp_X9_isYesOrNo Q p0 := by
  rw [F_X9_isYesOrNo] at hq
  refine And.intro (fun c1 => ?_) (fun c1 => ?_)
  · have h := And.left h c1
    rw [if_pos c1] at hq
    rw [j_X9_isYesOrNo_9] at hq
    unfold ws_X9_isYesOrNo_9 at h ⊢
    have q9 := hq _ rfl
    exact q9 h
  · have h := And.right h c1
    rw [if_neg c1] at hq
    refine And.intro (fun c2 => ?_) (fun c2 => ?_)
    · have h := And.left h c2
      rw [if_neg c2] at hq
      have q9 := hq _ rfl
      exact q9 h
    · have h := And.right h c2
      rw [if_pos c2] at hq
      rw [j_X9_isYesOrNo_9] at hq
      unfold ws_X9_isYesOrNo_9 at h ⊢
      have q9 := hq _ rfl
      exact q9 h
theorem du_X9_isYesOrNo {P Q : Int32 → Prop} {p0 : Int32} (h : wp_X9_isYesOrNo P p0) (hq : P (F_X9_isYesOrNo p0) → Q (F_X9_isYesOrNo p0)) : wp_X9_isYesOrNo Q p0 := dt_X9_isYesOrNo h (fun o eo => by rw [eo]; exact hq)
theorem dw_X9_isYesOrNo {Q : Int32 → Prop} {p0 : Int32} (h : wp_X9_isYesOrNo (fun o0 => o0 = F_X9_isYesOrNo p0 → Q o0) p0) : wp_X9_isYesOrNo Q p0 := dt_X9_isYesOrNo h (fun o eo hp => hp eo)
noncomputable def F_X0_setHelper (p0 fY : Int32) : Int32 × Int32 := if (F_X9_isYesOrNo p0) = 0 then ((-1), fY) else (fY, p0)
set_option maxHeartbeats 200000 in
set_option maxRecDepth 10000 in
theorem dt_X0_setHelper {P Q : Int32 → Int32 → Prop} {p0 fY : Int32} (h : wp_X0_setHelper P p0 fY) (hq : ∀ o : Int32 × Int32, o = F_X0_setHelper p0 fY → P o.1 o.2 → Q o.1 o.2) : wp_X0_setHelper Q p0 fY := by
  rw [F_X0_setHelper] at hq
  refine du_X9_isYesOrNo h ?_
  intro h
  refine And.intro (fun c1 => ?_) (fun c1 => ?_)
  · have h := And.left h c1
    rw [if_neg c1] at hq
    have q9 := hq _ rfl
    dsimp only at q9
    exact q9 h
  · have h := And.right h c1
    rw [if_pos c1] at hq
    have q9 := hq _ rfl
    dsimp only at q9
    exact q9 h
theorem du_X0_setHelper {P Q : Int32 → Int32 → Prop} {p0 fY : Int32} (h : wp_X0_setHelper P p0 fY) (hq : P (F_X0_setHelper p0 fY).1 (F_X0_setHelper p0 fY).2 → Q (F_X0_setHelper p0 fY).1 (F_X0_setHelper p0 fY).2) : wp_X0_setHelper Q p0 fY := dt_X0_setHelper h (fun o eo => by rw [eo]; exact hq)
noncomputable def F_X9_foot (p0 jC eO eW dO fJ fY jD nG oE uF : Int32) (sG : Nat → Int32) : Int32 × Int32 × Int32 × Int32 × (Nat → Int32) := ((F_X9_holdIfDone (F_X0_setHelper p0 fY).1 oE uF).1, (F_X0_setHelper p0 fY).2, (F_X9_holdIfDone (F_X0_setHelper p0 fY).1 oE uF).2.1, (F_X9_holdIfDone (F_X0_setHelper p0 fY).1 oE uF).2.2, (F_X4_note jC eO eW dO fJ fY jD nG uF sG))
set_option maxHeartbeats 200000 in
set_option maxRecDepth 10000 in
theorem dt_X9_foot {P Q : Int32 → Int32 → Int32 → Int32 → (Nat → Int32) → Prop} {p0 jC eO eW dO fJ fY jD nG oE uF : Int32} {sG : Nat → Int32} (h : wp_X9_foot P p0 jC eO eW dO fJ fY jD nG oE uF sG) (hq : ∀ o : Int32 × Int32 × Int32 × Int32 × (Nat → Int32), o = F_X9_foot p0 jC eO eW dO fJ fY jD nG oE uF sG → P o.1 o.2.1 o.2.2.1 o.2.2.2.1 o.2.2.2.2 → Q o.1 o.2.1 o.2.2.1 o.2.2.2.1 o.2.2.2.2) : wp_X9_foot Q p0 jC eO eW dO fJ fY jD nG oE uF sG := by
  rw [F_X9_foot] at hq
  refine du_X4_note h ?_
  intro h
  refine du_X0_setHelper h ?_
  intro h
  refine du_X9_holdIfDone h ?_
  intro h
  have q9 := hq _ rfl
  dsimp only at q9
  exact q9 h
theorem du_X9_foot {P Q : Int32 → Int32 → Int32 → Int32 → (Nat → Int32) → Prop} {p0 jC eO eW dO fJ fY jD nG oE uF : Int32} {sG : Nat → Int32} (h : wp_X9_foot P p0 jC eO eW dO fJ fY jD nG oE uF sG) (hq : P (F_X9_foot p0 jC eO eW dO fJ fY jD nG oE uF sG).1 (F_X9_foot p0 jC eO eW dO fJ fY jD nG oE uF sG).2.1 (F_X9_foot p0 jC eO eW dO fJ fY jD nG oE uF sG).2.2.1 (F_X9_foot p0 jC eO eW dO fJ fY jD nG oE uF sG).2.2.2.1 (F_X9_foot p0 jC eO eW dO fJ fY jD nG oE uF sG).2.2.2.2 → Q (F_X9_foot p0 jC eO eW dO fJ fY jD nG oE uF sG).1 (F_X9_foot p0 jC eO eW dO fJ fY jD nG oE uF sG).2.1 (F_X9_foot p0 jC eO eW dO fJ fY jD nG oE uF sG).2.2.1 (F_X9_foot p0 jC eO eW dO fJ fY jD nG oE uF sG).2.2.2.1 (F_X9_foot p0 jC eO eW dO fJ fY jD nG oE uF sG).2.2.2.2) : wp_X9_foot Q p0 jC eO eW dO fJ fY jD nG oE uF sG := dt_X9_foot h (fun o eo => by rw [eo]; exact hq)
theorem dw_X9_foot {Q : Int32 → Int32 → Int32 → Int32 → (Nat → Int32) → Prop} {p0 jC eO eW dO fJ fY jD nG oE uF : Int32} {sG : Nat → Int32} (h : wp_X9_foot (fun o0 o1 o2 o3 o4 => (o0, o1, o2, o3, o4) = F_X9_foot p0 jC eO eW dO fJ fY jD nG oE uF sG → Q o0 o1 o2 o3 o4) p0 jC eO eW dO fJ fY jD nG oE uF sG) : wp_X9_foot Q p0 jC eO eW dO fJ fY jD nG oE uF sG := dt_X9_foot h (fun o eo hp => hp eo)
noncomputable def F_J6_bitCount_0f7a4 (p0 : Int32) : Int32 := ((((((((p0 - (((p0.toUInt32 >>> ((1 : Int32).toUInt32 &&& Int32.toUInt32 31)).toInt32) &&& 1431655765)) &&& 858993459) + ((((p0 - (((p0.toUInt32 >>> ((1 : Int32).toUInt32 &&& Int32.toUInt32 31)).toInt32) &&& 1431655765)).toUInt32 >>> ((2 : Int32).toUInt32 &&& Int32.toUInt32 31)).toInt32) &&& 858993459)) + (((((p0 - (((p0.toUInt32 >>> ((1 : Int32).toUInt32 &&& Int32.toUInt32 31)).toInt32) &&& 1431655765)) &&& 858993459) + ((((p0 - (((p0.toUInt32 >>> ((1 : Int32).toUInt32 &&& Int32.toUInt32 31)).toInt32) &&& 1431655765)).toUInt32 >>> ((2 : Int32).toUInt32 &&& Int32.toUInt32 31)).toInt32) &&& 858993459)).toUInt32 >>> ((4 : Int32).toUInt32 &&& Int32.toUInt32 31)).toInt32)) &&& 252645135) + (((((((p0 - (((p0.toUInt32 >>> ((1 : Int32).toUInt32 &&& Int32.toUInt32 31)).toInt32) &&& 1431655765)) &&& 858993459) + ((((p0 - (((p0.toUInt32 >>> ((1 : Int32).toUInt32 &&& Int32.toUInt32 31)).toInt32) &&& 1431655765)).toUInt32 >>> ((2 : Int32).toUInt32 &&& Int32.toUInt32 31)).toInt32) &&& 858993459)) + (((((p0 - (((p0.toUInt32 >>> ((1 : Int32).toUInt32 &&& Int32.toUInt32 31)).toInt32) &&& 1431655765)) &&& 858993459) + ((((p0 - (((p0.toUInt32 >>> ((1 : Int32).toUInt32 &&& Int32.toUInt32 31)).toInt32) &&& 1431655765)).toUInt32 >>> ((2 : Int32).toUInt32 &&& Int32.toUInt32 31)).toInt32) &&& 858993459)).toUInt32 >>> ((4 : Int32).toUInt32 &&& Int32.toUInt32 31)).toInt32)) &&& 252645135).toUInt32 >>> ((8 : Int32).toUInt32 &&& Int32.toUInt32 31)).toInt32)) + ((((((((p0 - (((p0.toUInt32 >>> ((1 : Int32).toUInt32 &&& Int32.toUInt32 31)).toInt32) &&& 1431655765)) &&& 858993459) + ((((p0 - (((p0.toUInt32 >>> ((1 : Int32).toUInt32 &&& Int32.toUInt32 31)).toInt32) &&& 1431655765)).toUInt32 >>> ((2 : Int32).toUInt32 &&& Int32.toUInt32 31)).toInt32) &&& 858993459)) + (((((p0 - (((p0.toUInt32 >>> ((1 : Int32).toUInt32 &&& Int32.toUInt32 31)).toInt32) &&& 1431655765)) &&& 858993459) + ((((p0 - (((p0.toUInt32 >>> ((1 : Int32).toUInt32 &&& Int32.toUInt32 31)).toInt32) &&& 1431655765)).toUInt32 >>> ((2 : Int32).toUInt32 &&& Int32.toUInt32 31)).toInt32) &&& 858993459)).toUInt32 >>> ((4 : Int32).toUInt32 &&& Int32.toUInt32 31)).toInt32)) &&& 252645135) + (((((((p0 - (((p0.toUInt32 >>> ((1 : Int32).toUInt32 &&& Int32.toUInt32 31)).toInt32) &&& 1431655765)) &&& 858993459) + ((((p0 - (((p0.toUInt32 >>> ((1 : Int32).toUInt32 &&& Int32.toUInt32 31)).toInt32) &&& 1431655765)).toUInt32 >>> ((2 : Int32).toUInt32 &&& Int32.toUInt32 31)).toInt32) &&& 858993459)) + (((((p0 - (((p0.toUInt32 >>> ((1 : Int32).toUInt32 &&& Int32.toUInt32 31)).toInt32) &&& 1431655765)) &&& 858993459) + ((((p0 - (((p0.toUInt32 >>> ((1 : Int32).toUInt32 &&& Int32.toUInt32 31)).toInt32) &&& 1431655765)).toUInt32 >>> ((2 : Int32).toUInt32 &&& Int32.toUInt32 31)).toInt32) &&& 858993459)).toUInt32 >>> ((4 : Int32).toUInt32 &&& Int32.toUInt32 31)).toInt32)) &&& 252645135).toUInt32 >>> ((8 : Int32).toUInt32 &&& Int32.toUInt32 31)).toInt32)).toUInt32 >>> ((16 : Int32).toUInt32 &&& Int32.toUInt32 31)).toInt32)) &&& 63)
set_option maxHeartbeats 200000 in
set_option maxRecDepth 10000 in
theorem dt_J6_bitCount_0f7a4 {P Q : Int32 → Prop} {p0 : Int32} (h : wp_J6_bitCount_0f7a4 P p0) (hq : ∀ o : Int32, o = F_J6_bitCount_0f7a4 p0 → P o → Q o) : wp_J6_bitCount_0f7a4 Q p0 := by
  rw [F_J6_bitCount_0f7a4] at hq
  refine ae ?_
  have h := h _ rfl
  refine ae ?_
  have h := h _ rfl
  refine ae ?_
  have h := h _ rfl
  refine ae ?_
  have h := h _ rfl
  refine ae ?_
  have h := h _ rfl
  refine ae ?_
  have h := h _ rfl
  refine ae ?_
  have h := h _ rfl
  refine ae ?_
  have h := h _ rfl
  refine ae ?_
  have h := h _ rfl
  have q9 := hq _ rfl
  exact q9 h
theorem du_J6_bitCount_0f7a4 {P Q : Int32 → Prop} {p0 : Int32} (h : wp_J6_bitCount_0f7a4 P p0) (hq : P (F_J6_bitCount_0f7a4 p0) → Q (F_J6_bitCount_0f7a4 p0)) : wp_J6_bitCount_0f7a4 Q p0 := dt_J6_bitCount_0f7a4 h (fun o eo => by rw [eo]; exact hq)
theorem bc_r (x : Int32) : 0 ≤ Int32.toInt (F_J6_bitCount_0f7a4 x) ∧ Int32.toInt (F_J6_bitCount_0f7a4 x) ≤ 63 := by
  have l : Int32.toInt (63 : Int32) = 63 := by decide
  rw [F_J6_bitCount_0f7a4]
  have h := fun y => ti_andr y 63 (by decide)
  rw [l] at h
  exact h _
theorem bc63 (x : Int32) : (((Int32.toInt (F_J6_bitCount_0f7a4 x)).toNat : Nat) : Int) < ((64 : Nat) : Int) := by
  have h := bc_r x
  omega
noncomputable def j_X3_worthOf_54 {R : Type} (k5 : Int32 → Int32 → Int32 → Int32 → R) (bZ : Int32) (pE : Nat → Int32) (x1 x2 x3 x4 : Int32) : R := k5 x1 x2 x3 (x4 + 1)
noncomputable def j_X3_worthOf_52 {R : Type} (k5 : Int32 → Int32 → Int32 → Int32 → R) (bZ : Int32) (pE : Nat → Int32) (x1 x2 x4 k0 k1 : Int32) : R := j_X3_worthOf_54 k5 bZ pE x1 x2 (k0 + k1) x4
noncomputable def bd_X3_worthOf_5 (bZ : Int32) (pE : Nat → Int32) (x1 x2 c s : Int32) : Int32 := if ((x1 >>> (c &&& 31)) &&& 1) = 0 then (j_X3_worthOf_54 (fun q0 q1 q2 q3 => q2) bZ pE x1 x2 s c) else (if ((x2 >>> (c &&& 31)) &&& 1) = 0 then (j_X3_worthOf_52 (fun q0 q1 q2 q3 => q2) bZ pE x1 x2 c s (pE c.toNatClampNeg)) else (j_X3_worthOf_52 (fun q0 q1 q2 q3 => q2) bZ pE x1 x2 c s ((pE c.toNatClampNeg) / 2)))
noncomputable def ex_X3_worthOf_5 {R : Type} (po : Int32 → R) (bZ : Int32) (pE : Nat → Int32) (x1 x2 c s : Int32) : R := po s
set_option maxHeartbeats 200000 in
set_option maxRecDepth 10000 in
theorem dl_X3_worthOf_5 {P Q : Int32 → Prop} {bZ : Int32} {pE : Nat → Int32} {x1 x2 a : Int32} {i : Nat} (hi0 : i < 2147483648) (hE : ∀ (c : Int32) (s : Int32), c = nI (i + (Int32.toInt bZ - ((i : Nat) : Int)).toNat) → s = itr (bd_X3_worthOf_5 bZ pE x1 x2) a i (Int32.toInt bZ - ((i : Nat) : Int)).toNat → (P s) → (Q s)) : ∀ (n k : Nat) (c : Int32), c = nI (i + k) → k ≤ (Int32.toInt bZ - ((i : Nat) : Int)).toNat → wb_X3_worthOf_5 P bZ pE n x1 x2 (itr (bd_X3_worthOf_5 bZ pE x1 x2) a i k) c → wb_X3_worthOf_5 Q bZ pE n x1 x2 (itr (bd_X3_worthOf_5 bZ pE x1 x2) a i k) c := by
  intro n
  induction n with
  | zero => intro k c hc hk h; exact False.elim h
  | succ n ih =>
    intro k c hc hk h
    have hr := tp_r bZ
    have hi : Int32.toInt c = ((i + k : Nat) : Int) := by rw [hc]; exact nI_toInt (by omega)
    refine And.intro (fun t0 => ?_) (fun t0 => ?_)
    · have h := And.left h t0
      have t1 := (fa_le _ _).mp t0
      have hk2 : k = (Int32.toInt bZ - ((i : Nat) : Int)).toNat := by omega
      subst hk2
      exact hE _ _ hc rfl h
    · have h := And.right h t0
      have t1 := mt (fa_le _ _).mpr t0
      have hs : ∀ o : Int32, o = itr (bd_X3_worthOf_5 bZ pE x1 x2) a i (k + 1) → wb_X3_worthOf_5 P bZ pE n x1 x2 o (c + 1) → wb_X3_worthOf_5 Q bZ pE n x1 x2 o (c + 1) := by
        intro o eo h9
        have q := ih (k + 1) (c + 1) (by rw [hc]; exact nI_1 _) (by omega)
        rw [← eo] at q
        exact q h9
      rw [itr_s, ← hc, bd_X3_worthOf_5] at hs
      refine ae ?_
      have h := h _ rfl
      refine And.intro (fun c1 => ?_) (fun c1 => ?_)
      · have h := And.left h c1
        rw [if_pos c1] at hs
        rw [j_X3_worthOf_54] at hs
        unfold ws_X3_worthOf_54 at h ⊢
        refine ae ?_
        have h := h _ rfl
        have q9 := hs _ rfl
        exact q9 h
      · have h := And.right h c1
        rw [if_neg c1] at hs
        refine ae ?_
        have h := h _ rfl
        refine And.intro (fun c2 => ?_) (fun c2 => ?_)
        · have h := And.left h c2
          rw [if_pos c2] at hs
          refine And.intro (And.left h) ?_
          have h := And.right h
          refine ae ?_
          have h := h _ rfl
          rw [j_X3_worthOf_52] at hs
          unfold ws_X3_worthOf_52 at h ⊢
          refine ae ?_
          have h := h _ rfl
          rw [j_X3_worthOf_54] at hs
          unfold ws_X3_worthOf_54 at h ⊢
          refine ae ?_
          have h := h _ rfl
          have q9 := hs _ rfl
          exact q9 h
        · have h := And.right h c2
          rw [if_neg c2] at hs
          refine And.intro (And.left h) ?_
          have h := And.right h
          refine ae ?_
          have h := h _ rfl
          refine ae ?_
          have h := h _ rfl
          rw [j_X3_worthOf_52] at hs
          unfold ws_X3_worthOf_52 at h ⊢
          refine ae ?_
          have h := h _ rfl
          rw [j_X3_worthOf_54] at hs
          unfold ws_X3_worthOf_54 at h ⊢
          refine ae ?_
          have h := h _ rfl
          have q9 := hs _ rfl
          exact q9 h
noncomputable def F_X3_worthOf (p0 p1 bZ : Int32) (pE : Nat → Int32) : Int32 := ex_X3_worthOf_5 (fun o0 => o0) bZ pE p0 p1 (nI (0 + (Int32.toInt bZ - ((0 : Nat) : Int)).toNat)) (itr (bd_X3_worthOf_5 bZ pE p0 p1) 0 0 (Int32.toInt bZ - ((0 : Nat) : Int)).toNat)
set_option maxHeartbeats 200000 in
set_option maxRecDepth 10000 in
theorem dt_X3_worthOf {P Q : Int32 → Prop} {p0 p1 bZ : Int32} {pE : Nat → Int32} (h : wp_X3_worthOf P p0 p1 bZ pE) (hq : ∀ o : Int32, o = F_X3_worthOf p0 p1 bZ pE → P o → Q o) : wp_X3_worthOf Q p0 p1 bZ pE := by
  rw [F_X3_worthOf] at hq
  obtain ⟨n1, h⟩ := h
  refine ⟨n1, dl_X3_worthOf_5 (a := 0) (i := 0) (by decide) ?_ n1 0 0 (by decide) (Nat.zero_le _) h⟩
  intro cc2 s3 ec4 es5 h
  rw [← ec4, ← es5, ex_X3_worthOf_5] at hq
  have q9 := hq _ rfl
  exact q9 h
theorem du_X3_worthOf {P Q : Int32 → Prop} {p0 p1 bZ : Int32} {pE : Nat → Int32} (h : wp_X3_worthOf P p0 p1 bZ pE) (hq : P (F_X3_worthOf p0 p1 bZ pE) → Q (F_X3_worthOf p0 p1 bZ pE)) : wp_X3_worthOf Q p0 p1 bZ pE := dt_X3_worthOf h (fun o eo => by rw [eo]; exact hq)
noncomputable def F_X0_worthOf (p0 bZ : Int32) (pE : Nat → Int32) (dO : Int32) : Int32 := (F_X3_worthOf p0 dO bZ pE)
set_option maxHeartbeats 200000 in
set_option maxRecDepth 10000 in
theorem dt_X0_worthOf {P Q : Int32 → Prop} {p0 bZ : Int32} {pE : Nat → Int32} {dO : Int32} (h : wp_X0_worthOf P p0 bZ pE dO) (hq : ∀ o : Int32, o = F_X0_worthOf p0 bZ pE dO → P o → Q o) : wp_X0_worthOf Q p0 bZ pE dO := by
  rw [F_X0_worthOf] at hq
  refine du_X3_worthOf h ?_
  intro h
  have q9 := hq _ rfl
  exact q9 h
theorem du_X0_worthOf {P Q : Int32 → Prop} {p0 bZ : Int32} {pE : Nat → Int32} {dO : Int32} (h : wp_X0_worthOf P p0 bZ pE dO) (hq : P (F_X0_worthOf p0 bZ pE dO) → Q (F_X0_worthOf p0 bZ pE dO)) : wp_X0_worthOf Q p0 bZ pE dO := dt_X0_worthOf h (fun o eo => by rw [eo]; exact hq)
noncomputable def F_X7_join (p0 p1 p2 : Int32) : Int32 := if p0 = 42 then (p1 * p2) else (if p0 = 43 then (p1 + p2) else (if p0 = 45 then (p1 - p2) else (if p0 = 60 then (if p2 ≤ p1 then 0 else 1) else (if p0 = 61 then (if p1 = p2 then 1 else 0) else (if p0 = 62 then (if p1 ≤ p2 then 0 else 1) else (if p2 = 0 then 0 else (p1 / p2)))))))
set_option maxHeartbeats 200000 in
set_option maxRecDepth 10000 in
theorem dt_X7_join {P Q : Int32 → Prop} {p0 p1 p2 : Int32} (h : wp_X7_join P p0 p1 p2) (hq : ∀ o : Int32, o = F_X7_join p0 p1 p2 → P o → Q o) : wp_X7_join Q p0 p1 p2 := by
  rw [F_X7_join] at hq
  refine (And.intro (fun c1 => ?_) (And.intro (fun c2 => ?_) (And.intro (fun c3 => ?_) (And.intro (fun c4 => ?_) (And.intro (fun c5 => ?_) (And.intro (fun c6 => ?_) (fun c1 c2 c3 c4 c5 c6 => ?_)))))))
  · have h := And.left h c1
    rw [if_pos c1] at hq
    have q9 := hq _ rfl
    exact q9 h
  · have h := And.left (And.right h) c2
    rw [if_neg (fun e9 => absurd (e9.symm.trans c2) (by decide)), if_pos c2] at hq
    have q9 := hq _ rfl
    exact q9 h
  · have h := And.left (And.right (And.right h)) c3
    rw [if_neg (fun e9 => absurd (e9.symm.trans c3) (by decide)), if_neg (fun e9 => absurd (e9.symm.trans c3) (by decide)), if_pos c3] at hq
    have q9 := hq _ rfl
    exact q9 h
  · have h := And.left (And.right (And.right (And.right h))) c4
    rw [if_neg (fun e9 => absurd (e9.symm.trans c4) (by decide)), if_neg (fun e9 => absurd (e9.symm.trans c4) (by decide)), if_neg (fun e9 => absurd (e9.symm.trans c4) (by decide)), if_pos c4] at hq
    refine And.intro (fun c7 => ?_) (fun c7 => ?_)
    · have h := And.left h c7
      rw [if_pos c7] at hq
      have q9 := hq _ rfl
      exact q9 h
    · have h := And.right h c7
      rw [if_neg c7] at hq
      have q9 := hq _ rfl
      exact q9 h
  · have h := And.left (And.right (And.right (And.right (And.right h)))) c5
    rw [if_neg (fun e9 => absurd (e9.symm.trans c5) (by decide)), if_neg (fun e9 => absurd (e9.symm.trans c5) (by decide)), if_neg (fun e9 => absurd (e9.symm.trans c5) (by decide)), if_neg (fun e9 => absurd (e9.symm.trans c5) (by decide)), if_pos c5] at hq
    refine And.intro (fun c8 => ?_) (fun c8 => ?_)
    · have h := And.left h c8
      rw [if_neg c8] at hq
      have q9 := hq _ rfl
      exact q9 h
    · have h := And.right h c8
      rw [if_pos c8] at hq
      have q9 := hq _ rfl
      exact q9 h
  · have h := And.left (And.right (And.right (And.right (And.right (And.right h))))) c6
    rw [if_neg (fun e9 => absurd (e9.symm.trans c6) (by decide)), if_neg (fun e9 => absurd (e9.symm.trans c6) (by decide)), if_neg (fun e9 => absurd (e9.symm.trans c6) (by decide)), if_neg (fun e9 => absurd (e9.symm.trans c6) (by decide)), if_neg (fun e9 => absurd (e9.symm.trans c6) (by decide)), if_pos c6] at hq
    refine And.intro (fun c9 => ?_) (fun c9 => ?_)
    · have h := And.left h c9
      rw [if_pos c9] at hq
      have q9 := hq _ rfl
      exact q9 h
    · have h := And.right h c9
      rw [if_neg c9] at hq
      have q9 := hq _ rfl
      exact q9 h
  · have h := And.right (And.right (And.right (And.right (And.right (And.right h))))) c1 c2 c3 c4 c5 c6
    rw [if_neg c1, if_neg c2, if_neg c3, if_neg c4, if_neg c5, if_neg c6] at hq
    refine And.intro (fun c10 => ?_) (fun c10 => ?_)
    · have h := And.left h c10
      rw [if_neg c10] at hq
      refine And.intro (And.left h) ?_
      have h := And.right h
      have q9 := hq _ rfl
      exact q9 h
    · have h := And.right h c10
      rw [if_pos c10] at hq
      have q9 := hq _ rfl
      exact q9 h
theorem du_X7_join {P Q : Int32 → Prop} {p0 p1 p2 : Int32} (h : wp_X7_join P p0 p1 p2) (hq : P (F_X7_join p0 p1 p2) → Q (F_X7_join p0 p1 p2)) : wp_X7_join Q p0 p1 p2 := dt_X7_join h (fun o eo => by rw [eo]; exact hq)
noncomputable def F_X7_meant (p0 : Int32) (qO : Nat → Int32) : Int32 := if (p0 - 1000) < 0 then p0 else (if 7 ≤ (p0 - 1000) then p0 else (qO (p0 - 1000).toNatClampNeg))
set_option maxHeartbeats 200000 in
set_option maxRecDepth 10000 in
theorem dt_X7_meant {P Q : Int32 → Prop} {p0 : Int32} {qO : Nat → Int32} (h : wp_X7_meant P p0 qO) (hq : ∀ o : Int32, o = F_X7_meant p0 qO → P o → Q o) : wp_X7_meant Q p0 qO := by
  rw [F_X7_meant] at hq
  refine ae ?_
  have h := h _ rfl
  refine And.intro (fun c1 => ?_) (fun c1 => ?_)
  · have h := And.left h c1
    rw [if_pos c1] at hq
    have q9 := hq _ rfl
    exact q9 h
  · have h := And.right h c1
    rw [if_neg c1] at hq
    refine And.intro (fun c2 => ?_) (fun c2 => ?_)
    · have h := And.left h c2
      rw [if_pos c2] at hq
      have q9 := hq _ rfl
      exact q9 h
    · have h := And.right h c2
      rw [if_neg c2] at hq
      refine And.intro (And.left h) ?_
      have h := And.right h
      refine ae ?_
      have h := h _ rfl
      have q9 := hq _ rfl
      exact q9 h
theorem du_X7_meant {P Q : Int32 → Prop} {p0 : Int32} {qO : Nat → Int32} (h : wp_X7_meant P p0 qO) (hq : P (F_X7_meant p0 qO) → Q (F_X7_meant p0 qO)) : wp_X7_meant Q p0 qO := dt_X7_meant h (fun o eo => by rw [eo]; exact hq)
noncomputable def j_X7_reckon_136 {R : Type} (po : Int32 → (Nat → Int32) → R) (pG : Int32) (qO oF : Nat → Int32) (x1 : Int32) (qQ : Nat → Int32) : R := if x1 ≤ 0 then (po 0 qQ) else (po (qQ (x1 - 1).toNatClampNeg) qQ)
noncomputable def j_X7_reckon_130 {R : Type} (k4 : Int32 → Int32 → (Nat → Int32) → R) (pG : Int32) (qO oF : Nat → Int32) (x1 x2 : Int32) (qQ : Nat → Int32) : R := k4 x1 (x2 + 1) qQ
noncomputable def fs_X7_reckon_4 {R : Type} (po : Int32 → (Nat → Int32) → R) (pG : Int32) (qO oF : Nat → Int32) (nx : Int32 → Int32 → (Nat → Int32) → R) (x1 x2 : Int32) (qQ : Nat → Int32) : R := if pG ≤ x2 then (j_X7_reckon_136 po pG qO oF x1 qQ) else (if 40 ≤ x2 then (j_X7_reckon_136 po pG qO oF x1 qQ) else (if 2000 ≤ (oF x2.toNatClampNeg) then (if (oF x2.toNatClampNeg) = 2256 then (if x1 ≤ 0 then (j_X7_reckon_130 nx pG qO oF x1 x2 qQ) else (j_X7_reckon_130 nx pG qO oF x1 x2 (upd qQ (x1 - 1).toNatClampNeg (-(qQ (x1 - 1).toNatClampNeg))))) else (if x1 ≤ 1 then (j_X7_reckon_130 nx pG qO oF x1 x2 qQ) else (j_X7_reckon_130 nx pG qO oF (x1 + (-1)) x2 (upd qQ ((x1 + (-1)) - 1).toNatClampNeg (F_X7_join ((oF x2.toNatClampNeg) - 2000) (qQ ((x1 + (-1)) - 1).toNatClampNeg) (qQ (x1 + (-1)).toNatClampNeg)))))) else (if 40 ≤ x1 then (j_X7_reckon_130 nx pG qO oF x1 x2 qQ) else (j_X7_reckon_130 nx pG qO oF (x1 + 1) x2 (upd qQ x1.toNatClampNeg (F_X7_meant (oF x2.toNatClampNeg) qO))))))
set_option maxHeartbeats 200000 in
set_option maxRecDepth 10000 in
theorem dl_X7_reckon_4 {P Q : Int32 → (Nat → Int32) → Prop} {pG : Int32} {qO oF : Nat → Int32} {R : Type} {po : Int32 → (Nat → Int32) → R} {d : Int32 → Int32 → (Nat → Int32) → R} : ∀ (n m : Nat) (x1 x2 : Int32) (qQ : Nat → Int32), 0 ≤ Int32.toInt x2 ∧ Int32.toInt x2 ≤ 40 → 40 - Int32.toInt x2 < (m : Int) → wb_X7_reckon_4 P pG qO oF n x1 x2 qQ → (∀ (b0 : Int32) (b1 : Nat → Int32), po b0 b1 = flp (fs_X7_reckon_4 po pG qO oF) d m x1 x2 qQ → P b0 b1 → Q b0 b1) → wb_X7_reckon_4 Q pG qO oF n x1 x2 qQ := by
  have l1 : Int32.toInt (1 : Int32) = 1 := by decide
  have l40 : Int32.toInt (40 : Int32) = 40 := by decide
  intro n
  induction n with
  | zero => intro m x1 x2 qQ hv hm h hq; exact False.elim h
  | succ n ih =>
    intro m x1 x2 qQ hv hm h hq
    cases m with
    | zero => exfalso; omega
    | succ m =>
      rw [flp_s, fs_X7_reckon_4] at hq
      have h : ws_X7_reckon_4 P (wb_X7_reckon_4 P pG qO oF n) pG qO oF x1 x2 qQ := h
      show ws_X7_reckon_4 Q (wb_X7_reckon_4 Q pG qO oF n) pG qO oF x1 x2 qQ
      unfold ws_X7_reckon_4 at h ⊢
      refine And.intro (fun c1 => ?_) (fun c1 => ?_)
      · have h := And.left h c1
        rw [if_pos c1] at hq
        have dc1 := (fa_le _ _).mp c1
        rw [j_X7_reckon_136] at hq
        unfold ws_X7_reckon_136 at h ⊢
        refine And.intro (fun c2 => ?_) (fun c2 => ?_)
        · have h := And.left h c2
          rw [if_pos c2] at hq
          have dc2 := (fa_le _ _).mp c2
          exact hq _ _ rfl h
        · have h := And.right h c2
          rw [if_neg c2] at hq
          have dc2 := mt (fa_le _ _).mpr c2
          refine ae ?_
          have h := h _ rfl
          refine And.intro (And.left h) ?_
          have h := And.right h
          refine ae ?_
          have h := h _ rfl
          exact hq _ _ rfl h
      · have h := And.right h c1
        rw [if_neg c1] at hq
        have dc1 := mt (fa_le _ _).mpr c1
        refine And.intro (fun c3 => ?_) (fun c3 => ?_)
        · have h := And.left h c3
          rw [if_pos c3] at hq
          have dc3 := (fa_le _ _).mp c3
          rw [j_X7_reckon_136] at hq
          unfold ws_X7_reckon_136 at h ⊢
          refine And.intro (fun c4 => ?_) (fun c4 => ?_)
          · have h := And.left h c4
            rw [if_pos c4] at hq
            have dc4 := (fa_le _ _).mp c4
            exact hq _ _ rfl h
          · have h := And.right h c4
            rw [if_neg c4] at hq
            have dc4 := mt (fa_le _ _).mpr c4
            refine ae ?_
            have h := h _ rfl
            refine And.intro (And.left h) ?_
            have h := And.right h
            refine ae ?_
            have h := h _ rfl
            exact hq _ _ rfl h
        · have h := And.right h c3
          rw [if_neg c3] at hq
          have dc3 := mt (fa_le _ _).mpr c3
          refine And.intro (And.left h) ?_
          have h := And.right h
          refine ae ?_
          have h := h _ rfl
          refine And.intro (fun c5 => ?_) (fun c5 => ?_)
          · have h := And.left h c5
            rw [if_pos c5] at hq
            have dc5 := (fa_le _ _).mp c5
            refine And.intro (fun c6 => ?_) (fun c6 => ?_)
            · have h := And.left h c6
              rw [if_neg c6] at hq
              have dc6 := mt (fa_eq _ _).mpr c6
              refine And.intro (fun c7 => ?_) (fun c7 => ?_)
              · have h := And.left h c7
                rw [if_pos c7] at hq
                have dc7 := (fa_le _ _).mp c7
                rw [j_X7_reckon_130] at hq
                unfold ws_X7_reckon_130 at h ⊢
                refine ae ?_
                have h := h _ rfl
                have f9 := ta_add x2 1 (by omega)
                exact ih m _ _ _ (by omega) (by omega) h hq
              · have h := And.right h c7
                rw [if_neg c7] at hq
                have dc7 := mt (fa_le _ _).mpr c7
                refine ae ?_
                have h := h _ rfl
                refine ae ?_
                have h := h _ rfl
                refine ae ?_
                have h := h _ rfl
                refine ae ?_
                have h := h _ rfl
                refine And.intro (And.left h) ?_
                have h := And.right h
                refine ae ?_
                have h := h _ rfl
                refine And.intro (And.left h) ?_
                have h := And.right h
                refine ae ?_
                have h := h _ rfl
                refine du_X7_join h ?_
                intro h
                refine And.intro (And.left h) ?_
                have h := And.right h
                rw [j_X7_reckon_130] at hq
                unfold ws_X7_reckon_130 at h ⊢
                refine ae ?_
                have h := h _ rfl
                have f9 := ta_add x2 1 (by omega)
                exact ih m _ _ _ (by omega) (by omega) h hq
            · have h := And.right h c6
              rw [if_pos c6] at hq
              have dc6 := (fa_eq _ _).mp c6
              refine And.intro (fun c8 => ?_) (fun c8 => ?_)
              · have h := And.left h c8
                rw [if_pos c8] at hq
                have dc8 := (fa_le _ _).mp c8
                rw [j_X7_reckon_130] at hq
                unfold ws_X7_reckon_130 at h ⊢
                refine ae ?_
                have h := h _ rfl
                have f9 := ta_add x2 1 (by omega)
                exact ih m _ _ _ (by omega) (by omega) h hq
              · have h := And.right h c8
                rw [if_neg c8] at hq
                have dc8 := mt (fa_le _ _).mpr c8
                refine ae ?_
                have h := h _ rfl
                refine ae ?_
                have h := h _ rfl
                refine And.intro (And.left h) ?_
                have h := And.right h
                refine ae ?_
                have h := h _ rfl
                refine And.intro (And.left h) ?_
                have h := And.right h
                rw [j_X7_reckon_130] at hq
                unfold ws_X7_reckon_130 at h ⊢
                refine ae ?_
                have h := h _ rfl
                have f9 := ta_add x2 1 (by omega)
                exact ih m _ _ _ (by omega) (by omega) h hq
          · have h := And.right h c5
            rw [if_neg c5] at hq
            have dc5 := mt (fa_le _ _).mpr c5
            refine And.intro (fun c9 => ?_) (fun c9 => ?_)
            · have h := And.left h c9
              rw [if_pos c9] at hq
              have dc9 := (fa_le _ _).mp c9
              rw [j_X7_reckon_130] at hq
              unfold ws_X7_reckon_130 at h ⊢
              refine ae ?_
              have h := h _ rfl
              have f9 := ta_add x2 1 (by omega)
              exact ih m _ _ _ (by omega) (by omega) h hq
            · have h := And.right h c9
              rw [if_neg c9] at hq
              have dc9 := mt (fa_le _ _).mpr c9
              refine du_X7_meant h ?_
              intro h
              refine And.intro (And.left h) ?_
              have h := And.right h
              refine ae ?_
              have h := h _ rfl
              rw [j_X7_reckon_130] at hq
              unfold ws_X7_reckon_130 at h ⊢
              refine ae ?_
              have h := h _ rfl
              have f9 := ta_add x2 1 (by omega)
              exact ih m _ _ _ (by omega) (by omega) h hq
noncomputable def F_X7_reckon (pG : Int32) (qO qQ oF : Nat → Int32) : Int32 × (Nat → Int32) := flp (fs_X7_reckon_4 (fun o0 o1 => (o0, o1)) pG qO oF) (fun _ _ _ => (0, (fun _ => 0))) 41 0 0 qQ
set_option maxHeartbeats 200000 in
set_option maxRecDepth 10000 in
theorem dt_X7_reckon {P Q : Int32 → (Nat → Int32) → Prop} {pG : Int32} {qO qQ oF : Nat → Int32} (h : wp_X7_reckon P pG qO qQ oF) (hq : ∀ o : Int32 × (Nat → Int32), o = F_X7_reckon pG qO qQ oF → P o.1 o.2 → Q o.1 o.2) : wp_X7_reckon Q pG qO qQ oF := by
  rw [F_X7_reckon] at hq
  obtain ⟨n1, h⟩ := h
  exact ⟨n1, dl_X7_reckon_4 n1 41 _ _ _ (by decide) (by decide) h (fun b0 b1 e9 h9 => hq (b0, b1) e9 h9)⟩
theorem du_X7_reckon {P Q : Int32 → (Nat → Int32) → Prop} {pG : Int32} {qO qQ oF : Nat → Int32} (h : wp_X7_reckon P pG qO qQ oF) (hq : P (F_X7_reckon pG qO qQ oF).1 (F_X7_reckon pG qO qQ oF).2 → Q (F_X7_reckon pG qO qQ oF).1 (F_X7_reckon pG qO qQ oF).2) : wp_X7_reckon Q pG qO qQ oF := dt_X7_reckon h (fun o eo => by rw [eo]; exact hq)
noncomputable def j_X0_pickSeconds_123 {R : Type} (po : Int32 → (Nat → Int32) → (Nat → Int32) → R) (bZ : Int32) (wD gF pE nJ nY : Nat → Int32) (dO pG : Int32) (oF : Nat → Int32) (k0 : Int32) (qO qQ : Nat → Int32) : R := po (if 1 < (if k0 < 99 then k0 else 99) then (if k0 < 99 then k0 else 99) else 1) qO qQ
noncomputable def j_X0_pickSeconds_92 {R : Type} (po : Int32 → (Nat → Int32) → (Nat → Int32) → R) (bZ : Int32) (wD gF pE nJ nY : Nat → Int32) (dO pG : Int32) (oF : Nat → Int32) (x6 x7 : Int32) (qO qQ : Nat → Int32) : R := if pG = 0 then (j_X0_pickSeconds_123 po bZ wD gF pE nJ nY dO pG oF ((2 + (x6 / 4)) + (x7 / 2)) qO qQ) else (j_X0_pickSeconds_123 po bZ wD gF pE nJ nY dO pG oF ((F_X7_reckon pG qO qQ oF).1) qO ((F_X7_reckon pG qO qQ oF).2))
noncomputable def F_X0_pickSeconds (p0 p1 p2 p3 bZ : Int32) (wD gF pE nJ nY : Nat → Int32) (dO pG : Int32) (qO qQ oF : Nat → Int32) : Int32 × (Nat → Int32) × (Nat → Int32) := j_X0_pickSeconds_92 (fun o0 o1 o2 => (o0, o1, o2)) bZ wD gF pE nJ nY dO pG oF (F_X3_aside p0 p1 wD nJ) (F_X3_above p0 p1 gF nY) (upd (upd (upd (upd (upd (upd (upd qO (0 : Int32).toNatClampNeg (F_X3_aside p0 p1 wD nJ)) (1 : Int32).toNatClampNeg (F_X3_above p0 p1 gF nY)) (2 : Int32).toNatClampNeg (gF p0.toNatClampNeg)) (3 : Int32).toNatClampNeg (F_X0_worthOf (1 <<< (p0 &&& 31)) bZ pE dO)) (4 : Int32).toNatClampNeg p1) (5 : Int32).toNatClampNeg p3) (6 : Int32).toNatClampNeg p2) qQ
set_option maxHeartbeats 200000 in
set_option maxRecDepth 10000 in
theorem dt_X0_pickSeconds {P Q : Int32 → (Nat → Int32) → (Nat → Int32) → Prop} {p0 p1 p2 p3 bZ : Int32} {wD gF pE nJ nY : Nat → Int32} {dO pG : Int32} {qO qQ oF : Nat → Int32} (h : wp_X0_pickSeconds P p0 p1 p2 p3 bZ wD gF pE nJ nY dO pG qO qQ oF) (hq : ∀ o : Int32 × (Nat → Int32) × (Nat → Int32), o = F_X0_pickSeconds p0 p1 p2 p3 bZ wD gF pE nJ nY dO pG qO qQ oF → P o.1 o.2.1 o.2.2 → Q o.1 o.2.1 o.2.2) : wp_X0_pickSeconds Q p0 p1 p2 p3 bZ wD gF pE nJ nY dO pG qO qQ oF := by
  rw [F_X0_pickSeconds] at hq
  refine du_X3_aside h ?_
  intro h
  refine du_X3_above h ?_
  intro h
  refine And.intro (And.left h) ?_
  have h := And.right h
  refine ae ?_
  have h := h _ rfl
  refine ae ?_
  have h := h _ rfl
  refine du_X0_worthOf h ?_
  intro h
  rw [j_X0_pickSeconds_92] at hq
  unfold ws_X0_pickSeconds_92 at h ⊢
  refine And.intro (fun c1 => ?_) (fun c1 => ?_)
  · have h := And.left h c1
    rw [if_neg c1] at hq
    refine du_X7_reckon h ?_
    intro h
    rw [j_X0_pickSeconds_123] at hq
    unfold ws_X0_pickSeconds_123 at h ⊢
    refine ae ?_
    have h := h _ rfl
    refine ae ?_
    have h := h _ rfl
    have q9 := hq _ rfl
    dsimp only at q9
    exact q9 h
  · have h := And.right h c1
    rw [if_pos c1] at hq
    refine ae ?_
    have h := h _ rfl
    refine ae ?_
    have h := h _ rfl
    rw [j_X0_pickSeconds_123] at hq
    unfold ws_X0_pickSeconds_123 at h ⊢
    refine ae ?_
    have h := h _ rfl
    refine ae ?_
    have h := h _ rfl
    have q9 := hq _ rfl
    dsimp only at q9
    exact q9 h
theorem du_X0_pickSeconds {P Q : Int32 → (Nat → Int32) → (Nat → Int32) → Prop} {p0 p1 p2 p3 bZ : Int32} {wD gF pE nJ nY : Nat → Int32} {dO pG : Int32} {qO qQ oF : Nat → Int32} (h : wp_X0_pickSeconds P p0 p1 p2 p3 bZ wD gF pE nJ nY dO pG qO qQ oF) (hq : P (F_X0_pickSeconds p0 p1 p2 p3 bZ wD gF pE nJ nY dO pG qO qQ oF).1 (F_X0_pickSeconds p0 p1 p2 p3 bZ wD gF pE nJ nY dO pG qO qQ oF).2.1 (F_X0_pickSeconds p0 p1 p2 p3 bZ wD gF pE nJ nY dO pG qO qQ oF).2.2 → Q (F_X0_pickSeconds p0 p1 p2 p3 bZ wD gF pE nJ nY dO pG qO qQ oF).1 (F_X0_pickSeconds p0 p1 p2 p3 bZ wD gF pE nJ nY dO pG qO qQ oF).2.1 (F_X0_pickSeconds p0 p1 p2 p3 bZ wD gF pE nJ nY dO pG qO qQ oF).2.2) : wp_X0_pickSeconds Q p0 p1 p2 p3 bZ wD gF pE nJ nY dO pG qO qQ oF := dt_X0_pickSeconds h (fun o eo => by rw [eo]; exact hq)
noncomputable def F_X0_pickFruit (p0 p1 bZ : Int32) (wD gF pE qA nJ nY dQ : Nat → Int32) (jC eO eW dO fJ fY jD nG pG : Int32) (qO qQ oF : Nat → Int32) : Int32 × Int32 × Int32 × Int32 × (Nat → Int32) × (Nat → Int32) := if (F_X3_hasFruit p0 bZ) = 0 then ((-1), jC, dO, nG, qO, qQ) else (if (F_X9_isYesOrNo p1) = 0 then ((-1), jC, dO, nG, qO, qQ) else (if (((F_X0_hanging bZ jC eO eW) >>> (p0 &&& 31)) &&& 1) = 0 then ((-2), jC, dO, nG, qO, qQ) else (if (qA p0.toNatClampNeg) ≤ jD then (if fJ = (-1) then ((-4), jC, dO, nG, qO, qQ) else (if (F_X3_isWithin p0 fJ (F_X3_reach fY p1 dQ) wD gF nJ nY) = 0 then ((-4), jC, dO, nG, qO, qQ) else (if (F_J6_bitCount_0f7a4 jC) < (dQ (4 : Int32).toNatClampNeg) then ((F_X0_pickSeconds p0 fJ p1 (F_J6_bitCount_0f7a4 jC) bZ wD gF pE nJ nY dO pG qO qQ oF).1, (jC ||| (1 <<< (p0 &&& 31))), (dO ||| (F_X3_lowerThan p0 (F_X0_hanging bZ jC eO eW) bZ wD gF)), (F_X2_spend (F_X0_pickSeconds p0 fJ p1 (F_J6_bitCount_0f7a4 jC) bZ wD gF pE nJ nY dO pG qO qQ oF).1 nG), (F_X0_pickSeconds p0 fJ p1 (F_J6_bitCount_0f7a4 jC) bZ wD gF pE nJ nY dO pG qO qQ oF).2.1, (F_X0_pickSeconds p0 fJ p1 (F_J6_bitCount_0f7a4 jC) bZ wD gF pE nJ nY dO pG qO qQ oF).2.2) else ((-5), jC, dO, nG, qO, qQ)))) else ((-3), jC, dO, nG, qO, qQ))))
set_option maxHeartbeats 200000 in
set_option maxRecDepth 10000 in
theorem dt_X0_pickFruit {P Q : Int32 → Int32 → Int32 → Int32 → (Nat → Int32) → (Nat → Int32) → Prop} {p0 p1 bZ : Int32} {wD gF pE qA nJ nY dQ : Nat → Int32} {jC eO eW dO fJ fY jD nG pG : Int32} {qO qQ oF : Nat → Int32} (h : wp_X0_pickFruit P p0 p1 bZ wD gF pE qA nJ nY dQ jC eO eW dO fJ fY jD nG pG qO qQ oF) (hq : ∀ o : Int32 × Int32 × Int32 × Int32 × (Nat → Int32) × (Nat → Int32), o = F_X0_pickFruit p0 p1 bZ wD gF pE qA nJ nY dQ jC eO eW dO fJ fY jD nG pG qO qQ oF → P o.1 o.2.1 o.2.2.1 o.2.2.2.1 o.2.2.2.2.1 o.2.2.2.2.2 → Q o.1 o.2.1 o.2.2.1 o.2.2.2.1 o.2.2.2.2.1 o.2.2.2.2.2) : wp_X0_pickFruit Q p0 p1 bZ wD gF pE qA nJ nY dQ jC eO eW dO fJ fY jD nG pG qO qQ oF := by
  rw [F_X0_pickFruit] at hq
  refine du_X3_hasFruit h ?_
  intro h
  refine And.intro (fun c1 => ?_) (fun c1 => ?_)
  · have h := And.left h c1
    rw [if_pos c1] at hq
    have q9 := hq _ rfl
    dsimp only at q9
    exact q9 h
  · have h := And.right h c1
    rw [if_neg c1] at hq
    refine du_X9_isYesOrNo h ?_
    intro h
    refine And.intro (fun c2 => ?_) (fun c2 => ?_)
    · have h := And.left h c2
      rw [if_neg c2] at hq
      refine du_X0_hanging h ?_
      intro h
      refine ae ?_
      have h := h _ rfl
      refine And.intro (fun c3 => ?_) (fun c3 => ?_)
      · have h := And.left h c3
        rw [if_neg c3] at hq
        refine And.intro (And.left h) ?_
        have h := And.right h
        refine ae ?_
        have h := h _ rfl
        refine And.intro (fun c4 => ?_) (fun c4 => ?_)
        · have h := And.left h c4
          rw [if_pos c4] at hq
          refine And.intro (fun c5 => ?_) (fun c5 => ?_)
          · have h := And.left h c5
            rw [if_pos c5] at hq
            have q9 := hq _ rfl
            dsimp only at q9
            exact q9 h
          · have h := And.right h c5
            rw [if_neg c5] at hq
            refine du_X3_reach h ?_
            intro h
            refine du_X3_isWithin h ?_
            intro h
            refine And.intro (fun c6 => ?_) (fun c6 => ?_)
            · have h := And.left h c6
              rw [if_neg c6] at hq
              refine du_J6_bitCount_0f7a4 h ?_
              intro h
              refine And.intro (fun c7 => ?_) (fun c7 => ?_)
              · have h := And.left h c7
                rw [if_pos c7] at hq
                refine du_X0_pickSeconds h ?_
                intro h
                refine du_X3_lowerThan h ?_
                intro h
                refine ae ?_
                have h := h _ rfl
                refine ae ?_
                have h := h _ rfl
                refine du_X2_spend h ?_
                intro h
                have q9 := hq _ rfl
                dsimp only at q9
                exact q9 h
              · have h := And.right h c7
                rw [if_neg c7] at hq
                have q9 := hq _ rfl
                dsimp only at q9
                exact q9 h
            · have h := And.right h c6
              rw [if_pos c6] at hq
              have q9 := hq _ rfl
              dsimp only at q9
              exact q9 h
        · have h := And.right h c4
          rw [if_neg c4] at hq
          have q9 := hq _ rfl
          dsimp only at q9
          exact q9 h
      · have h := And.right h c3
        rw [if_pos c3] at hq
        have q9 := hq _ rfl
        dsimp only at q9
        exact q9 h
    · have h := And.right h c2
      rw [if_pos c2] at hq
      have q9 := hq _ rfl
      dsimp only at q9
      exact q9 h
theorem du_X0_pickFruit {P Q : Int32 → Int32 → Int32 → Int32 → (Nat → Int32) → (Nat → Int32) → Prop} {p0 p1 bZ : Int32} {wD gF pE qA nJ nY dQ : Nat → Int32} {jC eO eW dO fJ fY jD nG pG : Int32} {qO qQ oF : Nat → Int32} (h : wp_X0_pickFruit P p0 p1 bZ wD gF pE qA nJ nY dQ jC eO eW dO fJ fY jD nG pG qO qQ oF) (hq : P (F_X0_pickFruit p0 p1 bZ wD gF pE qA nJ nY dQ jC eO eW dO fJ fY jD nG pG qO qQ oF).1 (F_X0_pickFruit p0 p1 bZ wD gF pE qA nJ nY dQ jC eO eW dO fJ fY jD nG pG qO qQ oF).2.1 (F_X0_pickFruit p0 p1 bZ wD gF pE qA nJ nY dQ jC eO eW dO fJ fY jD nG pG qO qQ oF).2.2.1 (F_X0_pickFruit p0 p1 bZ wD gF pE qA nJ nY dQ jC eO eW dO fJ fY jD nG pG qO qQ oF).2.2.2.1 (F_X0_pickFruit p0 p1 bZ wD gF pE qA nJ nY dQ jC eO eW dO fJ fY jD nG pG qO qQ oF).2.2.2.2.1 (F_X0_pickFruit p0 p1 bZ wD gF pE qA nJ nY dQ jC eO eW dO fJ fY jD nG pG qO qQ oF).2.2.2.2.2 → Q (F_X0_pickFruit p0 p1 bZ wD gF pE qA nJ nY dQ jC eO eW dO fJ fY jD nG pG qO qQ oF).1 (F_X0_pickFruit p0 p1 bZ wD gF pE qA nJ nY dQ jC eO eW dO fJ fY jD nG pG qO qQ oF).2.1 (F_X0_pickFruit p0 p1 bZ wD gF pE qA nJ nY dQ jC eO eW dO fJ fY jD nG pG qO qQ oF).2.2.1 (F_X0_pickFruit p0 p1 bZ wD gF pE qA nJ nY dQ jC eO eW dO fJ fY jD nG pG qO qQ oF).2.2.2.1 (F_X0_pickFruit p0 p1 bZ wD gF pE qA nJ nY dQ jC eO eW dO fJ fY jD nG pG qO qQ oF).2.2.2.2.1 (F_X0_pickFruit p0 p1 bZ wD gF pE qA nJ nY dQ jC eO eW dO fJ fY jD nG pG qO qQ oF).2.2.2.2.2) : wp_X0_pickFruit Q p0 p1 bZ wD gF pE qA nJ nY dQ jC eO eW dO fJ fY jD nG pG qO qQ oF := dt_X0_pickFruit h (fun o eo => by rw [eo]; exact hq)
noncomputable def F_X9_pick (p0 p1 bZ : Int32) (wD gF pE qA nJ nY dQ : Nat → Int32) (jC eO eW dO fJ fY jD nG pG : Int32) (qO qQ oF : Nat → Int32) (oE uF : Int32) (sG : Nat → Int32) : Int32 × Int32 × Int32 × Int32 × (Nat → Int32) × (Nat → Int32) × Int32 × Int32 × (Nat → Int32) := ((F_X9_holdIfDone (F_X0_pickFruit p0 p1 bZ wD gF pE qA nJ nY dQ jC eO eW dO fJ fY jD nG pG qO qQ oF).1 oE uF).1, (F_X0_pickFruit p0 p1 bZ wD gF pE qA nJ nY dQ jC eO eW dO fJ fY jD nG pG qO qQ oF).2.1, (F_X0_pickFruit p0 p1 bZ wD gF pE qA nJ nY dQ jC eO eW dO fJ fY jD nG pG qO qQ oF).2.2.1, (F_X0_pickFruit p0 p1 bZ wD gF pE qA nJ nY dQ jC eO eW dO fJ fY jD nG pG qO qQ oF).2.2.2.1, (F_X0_pickFruit p0 p1 bZ wD gF pE qA nJ nY dQ jC eO eW dO fJ fY jD nG pG qO qQ oF).2.2.2.2.1, (F_X0_pickFruit p0 p1 bZ wD gF pE qA nJ nY dQ jC eO eW dO fJ fY jD nG pG qO qQ oF).2.2.2.2.2, (F_X9_holdIfDone (F_X0_pickFruit p0 p1 bZ wD gF pE qA nJ nY dQ jC eO eW dO fJ fY jD nG pG qO qQ oF).1 oE uF).2.1, (F_X9_holdIfDone (F_X0_pickFruit p0 p1 bZ wD gF pE qA nJ nY dQ jC eO eW dO fJ fY jD nG pG qO qQ oF).1 oE uF).2.2, (F_X4_note jC eO eW dO fJ fY jD nG uF sG))
set_option maxHeartbeats 200000 in
set_option maxRecDepth 10000 in
theorem dt_X9_pick {P Q : Int32 → Int32 → Int32 → Int32 → (Nat → Int32) → (Nat → Int32) → Int32 → Int32 → (Nat → Int32) → Prop} {p0 p1 bZ : Int32} {wD gF pE qA nJ nY dQ : Nat → Int32} {jC eO eW dO fJ fY jD nG pG : Int32} {qO qQ oF : Nat → Int32} {oE uF : Int32} {sG : Nat → Int32} (h : wp_X9_pick P p0 p1 bZ wD gF pE qA nJ nY dQ jC eO eW dO fJ fY jD nG pG qO qQ oF oE uF sG) (hq : ∀ o : Int32 × Int32 × Int32 × Int32 × (Nat → Int32) × (Nat → Int32) × Int32 × Int32 × (Nat → Int32), o = F_X9_pick p0 p1 bZ wD gF pE qA nJ nY dQ jC eO eW dO fJ fY jD nG pG qO qQ oF oE uF sG → P o.1 o.2.1 o.2.2.1 o.2.2.2.1 o.2.2.2.2.1 o.2.2.2.2.2.1 o.2.2.2.2.2.2.1 o.2.2.2.2.2.2.2.1 o.2.2.2.2.2.2.2.2 → Q o.1 o.2.1 o.2.2.1 o.2.2.2.1 o.2.2.2.2.1 o.2.2.2.2.2.1 o.2.2.2.2.2.2.1 o.2.2.2.2.2.2.2.1 o.2.2.2.2.2.2.2.2) : wp_X9_pick Q p0 p1 bZ wD gF pE qA nJ nY dQ jC eO eW dO fJ fY jD nG pG qO qQ oF oE uF sG := by
  rw [F_X9_pick] at hq
  refine du_X4_note h ?_
  intro h
  refine du_X0_pickFruit h ?_
  intro h
  refine du_X9_holdIfDone h ?_
  intro h
  have q9 := hq _ rfl
  dsimp only at q9
  exact q9 h
theorem du_X9_pick {P Q : Int32 → Int32 → Int32 → Int32 → (Nat → Int32) → (Nat → Int32) → Int32 → Int32 → (Nat → Int32) → Prop} {p0 p1 bZ : Int32} {wD gF pE qA nJ nY dQ : Nat → Int32} {jC eO eW dO fJ fY jD nG pG : Int32} {qO qQ oF : Nat → Int32} {oE uF : Int32} {sG : Nat → Int32} (h : wp_X9_pick P p0 p1 bZ wD gF pE qA nJ nY dQ jC eO eW dO fJ fY jD nG pG qO qQ oF oE uF sG) (hq : P (F_X9_pick p0 p1 bZ wD gF pE qA nJ nY dQ jC eO eW dO fJ fY jD nG pG qO qQ oF oE uF sG).1 (F_X9_pick p0 p1 bZ wD gF pE qA nJ nY dQ jC eO eW dO fJ fY jD nG pG qO qQ oF oE uF sG).2.1 (F_X9_pick p0 p1 bZ wD gF pE qA nJ nY dQ jC eO eW dO fJ fY jD nG pG qO qQ oF oE uF sG).2.2.1 (F_X9_pick p0 p1 bZ wD gF pE qA nJ nY dQ jC eO eW dO fJ fY jD nG pG qO qQ oF oE uF sG).2.2.2.1 (F_X9_pick p0 p1 bZ wD gF pE qA nJ nY dQ jC eO eW dO fJ fY jD nG pG qO qQ oF oE uF sG).2.2.2.2.1 (F_X9_pick p0 p1 bZ wD gF pE qA nJ nY dQ jC eO eW dO fJ fY jD nG pG qO qQ oF oE uF sG).2.2.2.2.2.1 (F_X9_pick p0 p1 bZ wD gF pE qA nJ nY dQ jC eO eW dO fJ fY jD nG pG qO qQ oF oE uF sG).2.2.2.2.2.2.1 (F_X9_pick p0 p1 bZ wD gF pE qA nJ nY dQ jC eO eW dO fJ fY jD nG pG qO qQ oF oE uF sG).2.2.2.2.2.2.2.1 (F_X9_pick p0 p1 bZ wD gF pE qA nJ nY dQ jC eO eW dO fJ fY jD nG pG qO qQ oF oE uF sG).2.2.2.2.2.2.2.2 → Q (F_X9_pick p0 p1 bZ wD gF pE qA nJ nY dQ jC eO eW dO fJ fY jD nG pG qO qQ oF oE uF sG).1 (F_X9_pick p0 p1 bZ wD gF pE qA nJ nY dQ jC eO eW dO fJ fY jD nG pG qO qQ oF oE uF sG).2.1 (F_X9_pick p0 p1 bZ wD gF pE qA nJ nY dQ jC eO eW dO fJ fY jD nG pG qO qQ oF oE uF sG).2.2.1 (F_X9_pick p0 p1 bZ wD gF pE qA nJ nY dQ jC eO eW dO fJ fY jD nG pG qO qQ oF oE uF sG).2.2.2.1 (F_X9_pick p0 p1 bZ wD gF pE qA nJ nY dQ jC eO eW dO fJ fY jD nG pG qO qQ oF oE uF sG).2.2.2.2.1 (F_X9_pick p0 p1 bZ wD gF pE qA nJ nY dQ jC eO eW dO fJ fY jD nG pG qO qQ oF oE uF sG).2.2.2.2.2.1 (F_X9_pick p0 p1 bZ wD gF pE qA nJ nY dQ jC eO eW dO fJ fY jD nG pG qO qQ oF oE uF sG).2.2.2.2.2.2.1 (F_X9_pick p0 p1 bZ wD gF pE qA nJ nY dQ jC eO eW dO fJ fY jD nG pG qO qQ oF oE uF sG).2.2.2.2.2.2.2.1 (F_X9_pick p0 p1 bZ wD gF pE qA nJ nY dQ jC eO eW dO fJ fY jD nG pG qO qQ oF oE uF sG).2.2.2.2.2.2.2.2) : wp_X9_pick Q p0 p1 bZ wD gF pE qA nJ nY dQ jC eO eW dO fJ fY jD nG pG qO qQ oF oE uF sG := dt_X9_pick h (fun o eo => by rw [eo]; exact hq)
theorem dw_X9_pick {Q : Int32 → Int32 → Int32 → Int32 → (Nat → Int32) → (Nat → Int32) → Int32 → Int32 → (Nat → Int32) → Prop} {p0 p1 bZ : Int32} {wD gF pE qA nJ nY dQ : Nat → Int32} {jC eO eW dO fJ fY jD nG pG : Int32} {qO qQ oF : Nat → Int32} {oE uF : Int32} {sG : Nat → Int32} (h : wp_X9_pick (fun o0 o1 o2 o3 o4 o5 o6 o7 o8 => (o0, o1, o2, o3, o4, o5, o6, o7, o8) = F_X9_pick p0 p1 bZ wD gF pE qA nJ nY dQ jC eO eW dO fJ fY jD nG pG qO qQ oF oE uF sG → Q o0 o1 o2 o3 o4 o5 o6 o7 o8) p0 p1 bZ wD gF pE qA nJ nY dQ jC eO eW dO fJ fY jD nG pG qO qQ oF oE uF sG) : wp_X9_pick Q p0 p1 bZ wD gF pE qA nJ nY dQ jC eO eW dO fJ fY jD nG pG qO qQ oF oE uF sG := dt_X9_pick h (fun o eo hp => hp eo)
noncomputable def F_X0_goDown (nY : Nat → Int32) (jC eO fJ nG : Int32) : Int32 × Int32 × Int32 × Int32 := if fJ = (-1) then ((-2), jC, eO, nG) else (if jC = 0 then ((-2), jC, eO, nG) else ((F_J6_bitCount_0f7a4 jC), (F_X2_emptyApron jC eO).1, (F_X2_emptyApron jC eO).2, (F_X2_spend (F_X3_downSeconds fJ nY) nG)))
set_option maxHeartbeats 200000 in
set_option maxRecDepth 10000 in
theorem dt_X0_goDown {P Q : Int32 → Int32 → Int32 → Int32 → Prop} {nY : Nat → Int32} {jC eO fJ nG : Int32} (h : wp_X0_goDown P nY jC eO fJ nG) (hq : ∀ o : Int32 × Int32 × Int32 × Int32, o = F_X0_goDown nY jC eO fJ nG → P o.1 o.2.1 o.2.2.1 o.2.2.2 → Q o.1 o.2.1 o.2.2.1 o.2.2.2) : wp_X0_goDown Q nY jC eO fJ nG := by
  rw [F_X0_goDown] at hq
  refine And.intro (fun c1 => ?_) (fun c1 => ?_)
  · have h := And.left h c1
    rw [if_pos c1] at hq
    have q9 := hq _ rfl
    dsimp only at q9
    exact q9 h
  · have h := And.right h c1
    rw [if_neg c1] at hq
    refine And.intro (fun c2 => ?_) (fun c2 => ?_)
    · have h := And.left h c2
      rw [if_neg c2] at hq
      refine du_J6_bitCount_0f7a4 h ?_
      intro h
      refine du_X2_emptyApron h ?_
      intro h
      refine du_X3_downSeconds h ?_
      intro h
      refine du_X2_spend h ?_
      intro h
      have q9 := hq _ rfl
      dsimp only at q9
      exact q9 h
    · have h := And.right h c2
      rw [if_pos c2] at hq
      have q9 := hq _ rfl
      dsimp only at q9
      exact q9 h
theorem du_X0_goDown {P Q : Int32 → Int32 → Int32 → Int32 → Prop} {nY : Nat → Int32} {jC eO fJ nG : Int32} (h : wp_X0_goDown P nY jC eO fJ nG) (hq : P (F_X0_goDown nY jC eO fJ nG).1 (F_X0_goDown nY jC eO fJ nG).2.1 (F_X0_goDown nY jC eO fJ nG).2.2.1 (F_X0_goDown nY jC eO fJ nG).2.2.2 → Q (F_X0_goDown nY jC eO fJ nG).1 (F_X0_goDown nY jC eO fJ nG).2.1 (F_X0_goDown nY jC eO fJ nG).2.2.1 (F_X0_goDown nY jC eO fJ nG).2.2.2) : wp_X0_goDown Q nY jC eO fJ nG := dt_X0_goDown h (fun o eo => by rw [eo]; exact hq)
noncomputable def F_X9_down (nY : Nat → Int32) (jC eO eW dO fJ fY jD nG oE uF : Int32) (sG : Nat → Int32) : Int32 × Int32 × Int32 × Int32 × Int32 × Int32 × (Nat → Int32) := ((F_X9_holdIfDone (F_X0_goDown nY jC eO fJ nG).1 oE uF).1, (F_X0_goDown nY jC eO fJ nG).2.1, (F_X0_goDown nY jC eO fJ nG).2.2.1, (F_X0_goDown nY jC eO fJ nG).2.2.2, (F_X9_holdIfDone (F_X0_goDown nY jC eO fJ nG).1 oE uF).2.1, (F_X9_holdIfDone (F_X0_goDown nY jC eO fJ nG).1 oE uF).2.2, (F_X4_note jC eO eW dO fJ fY jD nG uF sG))
set_option maxHeartbeats 200000 in
set_option maxRecDepth 10000 in
theorem dt_X9_down {P Q : Int32 → Int32 → Int32 → Int32 → Int32 → Int32 → (Nat → Int32) → Prop} {nY : Nat → Int32} {jC eO eW dO fJ fY jD nG oE uF : Int32} {sG : Nat → Int32} (h : wp_X9_down P nY jC eO eW dO fJ fY jD nG oE uF sG) (hq : ∀ o : Int32 × Int32 × Int32 × Int32 × Int32 × Int32 × (Nat → Int32), o = F_X9_down nY jC eO eW dO fJ fY jD nG oE uF sG → P o.1 o.2.1 o.2.2.1 o.2.2.2.1 o.2.2.2.2.1 o.2.2.2.2.2.1 o.2.2.2.2.2.2 → Q o.1 o.2.1 o.2.2.1 o.2.2.2.1 o.2.2.2.2.1 o.2.2.2.2.2.1 o.2.2.2.2.2.2) : wp_X9_down Q nY jC eO eW dO fJ fY jD nG oE uF sG := by
  rw [F_X9_down] at hq
  refine du_X4_note h ?_
  intro h
  refine du_X0_goDown h ?_
  intro h
  refine du_X9_holdIfDone h ?_
  intro h
  have q9 := hq _ rfl
  dsimp only at q9
  exact q9 h
theorem du_X9_down {P Q : Int32 → Int32 → Int32 → Int32 → Int32 → Int32 → (Nat → Int32) → Prop} {nY : Nat → Int32} {jC eO eW dO fJ fY jD nG oE uF : Int32} {sG : Nat → Int32} (h : wp_X9_down P nY jC eO eW dO fJ fY jD nG oE uF sG) (hq : P (F_X9_down nY jC eO eW dO fJ fY jD nG oE uF sG).1 (F_X9_down nY jC eO eW dO fJ fY jD nG oE uF sG).2.1 (F_X9_down nY jC eO eW dO fJ fY jD nG oE uF sG).2.2.1 (F_X9_down nY jC eO eW dO fJ fY jD nG oE uF sG).2.2.2.1 (F_X9_down nY jC eO eW dO fJ fY jD nG oE uF sG).2.2.2.2.1 (F_X9_down nY jC eO eW dO fJ fY jD nG oE uF sG).2.2.2.2.2.1 (F_X9_down nY jC eO eW dO fJ fY jD nG oE uF sG).2.2.2.2.2.2 → Q (F_X9_down nY jC eO eW dO fJ fY jD nG oE uF sG).1 (F_X9_down nY jC eO eW dO fJ fY jD nG oE uF sG).2.1 (F_X9_down nY jC eO eW dO fJ fY jD nG oE uF sG).2.2.1 (F_X9_down nY jC eO eW dO fJ fY jD nG oE uF sG).2.2.2.1 (F_X9_down nY jC eO eW dO fJ fY jD nG oE uF sG).2.2.2.2.1 (F_X9_down nY jC eO eW dO fJ fY jD nG oE uF sG).2.2.2.2.2.1 (F_X9_down nY jC eO eW dO fJ fY jD nG oE uF sG).2.2.2.2.2.2) : wp_X9_down Q nY jC eO eW dO fJ fY jD nG oE uF sG := dt_X9_down h (fun o eo => by rw [eo]; exact hq)
theorem dw_X9_down {Q : Int32 → Int32 → Int32 → Int32 → Int32 → Int32 → (Nat → Int32) → Prop} {nY : Nat → Int32} {jC eO eW dO fJ fY jD nG oE uF : Int32} {sG : Nat → Int32} (h : wp_X9_down (fun o0 o1 o2 o3 o4 o5 o6 => (o0, o1, o2, o3, o4, o5, o6) = F_X9_down nY jC eO eW dO fJ fY jD nG oE uF sG → Q o0 o1 o2 o3 o4 o5 o6) nY jC eO eW dO fJ fY jD nG oE uF sG) : wp_X9_down Q nY jC eO eW dO fJ fY jD nG oE uF sG := dt_X9_down h (fun o eo hp => hp eo)
noncomputable def j_X3_ripeBy_28 {R : Type} (k4 : Int32 → Int32 → Int32 → R) (bZ : Int32) (qA : Nat → Int32) (x1 x2 x3 : Int32) : R := k4 x1 x2 (x3 + 1)
noncomputable def bd_X3_ripeBy_4 (bZ : Int32) (qA : Nat → Int32) (x1 c s : Int32) : Int32 := if x1 < (qA c.toNatClampNeg) then (j_X3_ripeBy_28 (fun q0 q1 q2 => q1) bZ qA x1 s c) else (j_X3_ripeBy_28 (fun q0 q1 q2 => q1) bZ qA x1 (s ||| (1 <<< (c &&& 31))) c)
noncomputable def ex_X3_ripeBy_4 {R : Type} (po : Int32 → R) (bZ : Int32) (qA : Nat → Int32) (x1 c s : Int32) : R := po s
set_option maxHeartbeats 200000 in
set_option maxRecDepth 10000 in
theorem dl_X3_ripeBy_4 {P Q : Int32 → Prop} {bZ : Int32} {qA : Nat → Int32} {x1 a : Int32} {i : Nat} (hi0 : i < 2147483648) (hE : ∀ (c : Int32) (s : Int32), c = nI (i + (Int32.toInt bZ - ((i : Nat) : Int)).toNat) → s = itr (bd_X3_ripeBy_4 bZ qA x1) a i (Int32.toInt bZ - ((i : Nat) : Int)).toNat → (P s) → (Q s)) : ∀ (n k : Nat) (c : Int32), c = nI (i + k) → k ≤ (Int32.toInt bZ - ((i : Nat) : Int)).toNat → wb_X3_ripeBy_4 P bZ qA n x1 (itr (bd_X3_ripeBy_4 bZ qA x1) a i k) c → wb_X3_ripeBy_4 Q bZ qA n x1 (itr (bd_X3_ripeBy_4 bZ qA x1) a i k) c := by
  intro n
  induction n with
  | zero => intro k c hc hk h; exact False.elim h
  | succ n ih =>
    intro k c hc hk h
    have hr := tp_r bZ
    have hi : Int32.toInt c = ((i + k : Nat) : Int) := by rw [hc]; exact nI_toInt (by omega)
    refine And.intro (fun t0 => ?_) (fun t0 => ?_)
    · have h := And.left h t0
      have t1 := (fa_le _ _).mp t0
      have hk2 : k = (Int32.toInt bZ - ((i : Nat) : Int)).toNat := by omega
      subst hk2
      exact hE _ _ hc rfl h
    · have h := And.right h t0
      have t1 := mt (fa_le _ _).mpr t0
      have hs : ∀ o : Int32, o = itr (bd_X3_ripeBy_4 bZ qA x1) a i (k + 1) → wb_X3_ripeBy_4 P bZ qA n x1 o (c + 1) → wb_X3_ripeBy_4 Q bZ qA n x1 o (c + 1) := by
        intro o eo h9
        have q := ih (k + 1) (c + 1) (by rw [hc]; exact nI_1 _) (by omega)
        rw [← eo] at q
        exact q h9
      rw [itr_s, ← hc, bd_X3_ripeBy_4] at hs
      refine And.intro (And.left h) ?_
      have h := And.right h
      refine ae ?_
      have h := h _ rfl
      refine And.intro (fun c1 => ?_) (fun c1 => ?_)
      · have h := And.left h c1
        rw [if_pos c1] at hs
        rw [j_X3_ripeBy_28] at hs
        unfold ws_X3_ripeBy_28 at h ⊢
        refine ae ?_
        have h := h _ rfl
        have q9 := hs _ rfl
        exact q9 h
      · have h := And.right h c1
        rw [if_neg c1] at hs
        refine ae ?_
        have h := h _ rfl
        rw [j_X3_ripeBy_28] at hs
        unfold ws_X3_ripeBy_28 at h ⊢
        refine ae ?_
        have h := h _ rfl
        have q9 := hs _ rfl
        exact q9 h
noncomputable def F_X3_ripeBy (p0 bZ : Int32) (qA : Nat → Int32) : Int32 := ex_X3_ripeBy_4 (fun o0 => o0) bZ qA p0 (nI (0 + (Int32.toInt bZ - ((0 : Nat) : Int)).toNat)) (itr (bd_X3_ripeBy_4 bZ qA p0) 0 0 (Int32.toInt bZ - ((0 : Nat) : Int)).toNat)
set_option maxHeartbeats 200000 in
set_option maxRecDepth 10000 in
theorem dt_X3_ripeBy {P Q : Int32 → Prop} {p0 bZ : Int32} {qA : Nat → Int32} (h : wp_X3_ripeBy P p0 bZ qA) (hq : ∀ o : Int32, o = F_X3_ripeBy p0 bZ qA → P o → Q o) : wp_X3_ripeBy Q p0 bZ qA := by
  rw [F_X3_ripeBy] at hq
  obtain ⟨n1, h⟩ := h
  refine ⟨n1, dl_X3_ripeBy_4 (a := 0) (i := 0) (by decide) ?_ n1 0 0 (by decide) (Nat.zero_le _) h⟩
  intro cc2 s3 ec4 es5 h
  rw [← ec4, ← es5, ex_X3_ripeBy_4] at hq
  have q9 := hq _ rfl
  exact q9 h
theorem du_X3_ripeBy {P Q : Int32 → Prop} {p0 bZ : Int32} {qA : Nat → Int32} (h : wp_X3_ripeBy P p0 bZ qA) (hq : P (F_X3_ripeBy p0 bZ qA) → Q (F_X3_ripeBy p0 bZ qA)) : wp_X3_ripeBy Q p0 bZ qA := dt_X3_ripeBy h (fun o eo => by rw [eo]; exact hq)
noncomputable def F_X0_readyHere (bZ : Int32) (wD gF qA nJ nY dQ : Nat → Int32) (jC eO eW fJ fY jD : Int32) : Int32 := if fJ = (-1) then 0 else (((F_X0_hanging bZ jC eO eW) &&& (F_X3_ripeBy jD bZ qA)) &&& (F_X3_within fJ (F_X3_reach fY 0 dQ) bZ wD gF nJ nY))
set_option maxHeartbeats 200000 in
set_option maxRecDepth 10000 in
theorem dt_X0_readyHere {P Q : Int32 → Prop} {bZ : Int32} {wD gF qA nJ nY dQ : Nat → Int32} {jC eO eW fJ fY jD : Int32} (h : wp_X0_readyHere P bZ wD gF qA nJ nY dQ jC eO eW fJ fY jD) (hq : ∀ o : Int32, o = F_X0_readyHere bZ wD gF qA nJ nY dQ jC eO eW fJ fY jD → P o → Q o) : wp_X0_readyHere Q bZ wD gF qA nJ nY dQ jC eO eW fJ fY jD := by
  rw [F_X0_readyHere] at hq
  refine And.intro (fun c1 => ?_) (fun c1 => ?_)
  · have h := And.left h c1
    rw [if_neg c1] at hq
    refine du_X3_reach h ?_
    intro h
    refine du_X3_within h ?_
    intro h
    refine du_X0_hanging h ?_
    intro h
    refine du_X3_ripeBy h ?_
    intro h
    refine ae ?_
    have h := h _ rfl
    have q9 := hq _ rfl
    exact q9 h
  · have h := And.right h c1
    rw [if_pos c1] at hq
    have q9 := hq _ rfl
    exact q9 h
theorem du_X0_readyHere {P Q : Int32 → Prop} {bZ : Int32} {wD gF qA nJ nY dQ : Nat → Int32} {jC eO eW fJ fY jD : Int32} (h : wp_X0_readyHere P bZ wD gF qA nJ nY dQ jC eO eW fJ fY jD) (hq : P (F_X0_readyHere bZ wD gF qA nJ nY dQ jC eO eW fJ fY jD) → Q (F_X0_readyHere bZ wD gF qA nJ nY dQ jC eO eW fJ fY jD)) : wp_X0_readyHere Q bZ wD gF qA nJ nY dQ jC eO eW fJ fY jD := dt_X0_readyHere h (fun o eo => by rw [eo]; exact hq)
noncomputable def j_X0_shakeTree_63 {R : Type} (k29 : Int32 → Int32 → Int32 → Int32 → Int32 → Int32 → Int32 → R) (bZ : Int32) (wD gF qA nJ nY dQ : Nat → Int32) (jC eO fJ fY jD x1 x2 x3 x4 eW dO nG : Int32) : R := k29 x1 x2 x3 (x4 + 1) eW dO nG
noncomputable def bd_X0_shakeTree_29 (bZ : Int32) (wD gF qA nJ nY dQ : Nat → Int32) (jC eO fJ fY jD x1 x2 eW dO nG c s : Int32) : Int32 := if ((x2 >>> (c &&& 31)) &&& 1) = 0 then (j_X0_shakeTree_63 (fun q0 q1 q2 q3 q4 q5 q6 => q2) bZ wD gF qA nJ nY dQ jC eO fJ fY jD x1 x2 s c eW dO nG) else (j_X0_shakeTree_63 (fun q0 q1 q2 q3 q4 q5 q6 => q2) bZ wD gF qA nJ nY dQ jC eO fJ fY jD x1 x2 (s ||| (F_X3_lowerThan c x1 bZ wD gF)) c eW dO nG)
noncomputable def ex_X0_shakeTree_29 {R : Type} (po : Int32 → Int32 → Int32 → Int32 → R) (bZ : Int32) (wD gF qA nJ nY dQ : Nat → Int32) (jC eO fJ fY jD x1 x2 eW dO nG c s : Int32) : R := po (F_J6_bitCount_0f7a4 x2) (eW ||| x2) (dO ||| s) (F_X2_spend 5 nG)
set_option maxHeartbeats 200000 in
set_option maxRecDepth 10000 in
theorem dl_X0_shakeTree_29 {P Q : Int32 → Int32 → Int32 → Int32 → Prop} {bZ : Int32} {wD gF qA nJ nY dQ : Nat → Int32} {jC eO fJ fY jD x1 x2 eW dO nG a : Int32} {i : Nat} (hi0 : i < 2147483648) (hE : ∀ (c : Int32) (s : Int32), c = nI (i + (Int32.toInt bZ - ((i : Nat) : Int)).toNat) → s = itr (bd_X0_shakeTree_29 bZ wD gF qA nJ nY dQ jC eO fJ fY jD x1 x2 eW dO nG) a i (Int32.toInt bZ - ((i : Nat) : Int)).toNat → (∀ v_3 : Int32, v_3 = eW ||| x2 → ∀ v_4 : Int32, v_4 = dO ||| s → wp_X2_spend (fun zI => wp_J6_bitCount_0f7a4 (fun r_6 => P r_6 v_3 v_4 zI) x2) 5 nG) → (∀ v_3 : Int32, v_3 = eW ||| x2 → ∀ v_4 : Int32, v_4 = dO ||| s → wp_X2_spend (fun zI => wp_J6_bitCount_0f7a4 (fun r_6 => Q r_6 v_3 v_4 zI) x2) 5 nG)) : ∀ (n k : Nat) (c : Int32), c = nI (i + k) → k ≤ (Int32.toInt bZ - ((i : Nat) : Int)).toNat → wb_X0_shakeTree_29 P bZ wD gF qA nJ nY dQ jC eO fJ fY jD n x1 x2 (itr (bd_X0_shakeTree_29 bZ wD gF qA nJ nY dQ jC eO fJ fY jD x1 x2 eW dO nG) a i k) c eW dO nG → wb_X0_shakeTree_29 Q bZ wD gF qA nJ nY dQ jC eO fJ fY jD n x1 x2 (itr (bd_X0_shakeTree_29 bZ wD gF qA nJ nY dQ jC eO fJ fY jD x1 x2 eW dO nG) a i k) c eW dO nG := by
  intro n
  induction n with
  | zero => intro k c hc hk h; exact False.elim h
  | succ n ih =>
    intro k c hc hk h
    have hr := tp_r bZ
    have hi : Int32.toInt c = ((i + k : Nat) : Int) := by rw [hc]; exact nI_toInt (by omega)
    refine And.intro (fun t0 => ?_) (fun t0 => ?_)
    · have h := And.left h t0
      have t1 := (fa_le _ _).mp t0
      have hk2 : k = (Int32.toInt bZ - ((i : Nat) : Int)).toNat := by omega
      subst hk2
      exact hE _ _ hc rfl h
    · have h := And.right h t0
      have t1 := mt (fa_le _ _).mpr t0
      have hs : ∀ o : Int32, o = itr (bd_X0_shakeTree_29 bZ wD gF qA nJ nY dQ jC eO fJ fY jD x1 x2 eW dO nG) a i (k + 1) → wb_X0_shakeTree_29 P bZ wD gF qA nJ nY dQ jC eO fJ fY jD n x1 x2 o (c + 1) eW dO nG → wb_X0_shakeTree_29 Q bZ wD gF qA nJ nY dQ jC eO fJ fY jD n x1 x2 o (c + 1) eW dO nG := by
        intro o eo h9
        have q := ih (k + 1) (c + 1) (by rw [hc]; exact nI_1 _) (by omega)
        rw [← eo] at q
        exact q h9
      rw [itr_s, ← hc, bd_X0_shakeTree_29] at hs
      refine ae ?_
      have h := h _ rfl
      refine And.intro (fun c1 => ?_) (fun c1 => ?_)
      · have h := And.left h c1
        rw [if_pos c1] at hs
        rw [j_X0_shakeTree_63] at hs
        unfold ws_X0_shakeTree_63 at h ⊢
        refine ae ?_
        have h := h _ rfl
        have q9 := hs _ rfl
        exact q9 h
      · have h := And.right h c1
        rw [if_neg c1] at hs
        refine du_X3_lowerThan h ?_
        intro h
        refine ae ?_
        have h := h _ rfl
        rw [j_X0_shakeTree_63] at hs
        unfold ws_X0_shakeTree_63 at h ⊢
        refine ae ?_
        have h := h _ rfl
        have q9 := hs _ rfl
        exact q9 h
noncomputable def F_X0_shakeTree (bZ : Int32) (wD gF qA nJ nY dQ : Nat → Int32) (jC eO eW dO fJ fY jD nG : Int32) : Int32 × Int32 × Int32 × Int32 := if fJ = (-1) then ((-2), eW, dO, nG) else (ex_X0_shakeTree_29 (fun o0 o1 o2 o3 => (o0, o1, o2, o3)) bZ wD gF qA nJ nY dQ jC eO fJ fY jD (F_X0_hanging bZ jC eO eW) (F_X0_readyHere bZ wD gF qA nJ nY dQ jC eO eW fJ fY jD) eW dO nG (nI (0 + (Int32.toInt bZ - ((0 : Nat) : Int)).toNat)) (itr (bd_X0_shakeTree_29 bZ wD gF qA nJ nY dQ jC eO fJ fY jD (F_X0_hanging bZ jC eO eW) (F_X0_readyHere bZ wD gF qA nJ nY dQ jC eO eW fJ fY jD) eW dO nG) (F_X0_readyHere bZ wD gF qA nJ nY dQ jC eO eW fJ fY jD) 0 (Int32.toInt bZ - ((0 : Nat) : Int)).toNat))
set_option maxHeartbeats 200000 in
set_option maxRecDepth 10000 in
theorem dt_X0_shakeTree {P Q : Int32 → Int32 → Int32 → Int32 → Prop} {bZ : Int32} {wD gF qA nJ nY dQ : Nat → Int32} {jC eO eW dO fJ fY jD nG : Int32} (h : wp_X0_shakeTree P bZ wD gF qA nJ nY dQ jC eO eW dO fJ fY jD nG) (hq : ∀ o : Int32 × Int32 × Int32 × Int32, o = F_X0_shakeTree bZ wD gF qA nJ nY dQ jC eO eW dO fJ fY jD nG → P o.1 o.2.1 o.2.2.1 o.2.2.2 → Q o.1 o.2.1 o.2.2.1 o.2.2.2) : wp_X0_shakeTree Q bZ wD gF qA nJ nY dQ jC eO eW dO fJ fY jD nG := by
  rw [F_X0_shakeTree] at hq
  refine And.intro (fun c1 => ?_) (fun c1 => ?_)
  · have h := And.left h c1
    rw [if_neg c1] at hq
    refine du_X0_hanging h ?_
    intro h
    refine du_X0_readyHere h ?_
    intro h
    obtain ⟨n2, h⟩ := h
    refine ⟨n2, dl_X0_shakeTree_29 (a := (F_X0_readyHere bZ wD gF qA nJ nY dQ jC eO eW fJ fY jD)) (i := 0) (by decide) ?_ n2 0 0 (by decide) (Nat.zero_le _) h⟩
    intro cc3 s4 ec5 es6 h
    rw [← ec5, ← es6, ex_X0_shakeTree_29] at hq
    refine ae ?_
    have h := h _ rfl
    refine ae ?_
    have h := h _ rfl
    refine du_X2_spend h ?_
    intro h
    refine du_J6_bitCount_0f7a4 h ?_
    intro h
    have q9 := hq _ rfl
    dsimp only at q9
    exact q9 h
  · have h := And.right h c1
    rw [if_pos c1] at hq
    have q9 := hq _ rfl
    dsimp only at q9
    exact q9 h
theorem du_X0_shakeTree {P Q : Int32 → Int32 → Int32 → Int32 → Prop} {bZ : Int32} {wD gF qA nJ nY dQ : Nat → Int32} {jC eO eW dO fJ fY jD nG : Int32} (h : wp_X0_shakeTree P bZ wD gF qA nJ nY dQ jC eO eW dO fJ fY jD nG) (hq : P (F_X0_shakeTree bZ wD gF qA nJ nY dQ jC eO eW dO fJ fY jD nG).1 (F_X0_shakeTree bZ wD gF qA nJ nY dQ jC eO eW dO fJ fY jD nG).2.1 (F_X0_shakeTree bZ wD gF qA nJ nY dQ jC eO eW dO fJ fY jD nG).2.2.1 (F_X0_shakeTree bZ wD gF qA nJ nY dQ jC eO eW dO fJ fY jD nG).2.2.2 → Q (F_X0_shakeTree bZ wD gF qA nJ nY dQ jC eO eW dO fJ fY jD nG).1 (F_X0_shakeTree bZ wD gF qA nJ nY dQ jC eO eW dO fJ fY jD nG).2.1 (F_X0_shakeTree bZ wD gF qA nJ nY dQ jC eO eW dO fJ fY jD nG).2.2.1 (F_X0_shakeTree bZ wD gF qA nJ nY dQ jC eO eW dO fJ fY jD nG).2.2.2) : wp_X0_shakeTree Q bZ wD gF qA nJ nY dQ jC eO eW dO fJ fY jD nG := dt_X0_shakeTree h (fun o eo => by rw [eo]; exact hq)
noncomputable def F_X9_shake (bZ : Int32) (wD gF qA nJ nY dQ : Nat → Int32) (jC eO eW dO fJ fY jD nG oE uF : Int32) (sG : Nat → Int32) : Int32 × Int32 × Int32 × Int32 × Int32 × Int32 × (Nat → Int32) := ((F_X9_holdIfDone (F_X0_shakeTree bZ wD gF qA nJ nY dQ jC eO eW dO fJ fY jD nG).1 oE uF).1, (F_X0_shakeTree bZ wD gF qA nJ nY dQ jC eO eW dO fJ fY jD nG).2.1, (F_X0_shakeTree bZ wD gF qA nJ nY dQ jC eO eW dO fJ fY jD nG).2.2.1, (F_X0_shakeTree bZ wD gF qA nJ nY dQ jC eO eW dO fJ fY jD nG).2.2.2, (F_X9_holdIfDone (F_X0_shakeTree bZ wD gF qA nJ nY dQ jC eO eW dO fJ fY jD nG).1 oE uF).2.1, (F_X9_holdIfDone (F_X0_shakeTree bZ wD gF qA nJ nY dQ jC eO eW dO fJ fY jD nG).1 oE uF).2.2, (F_X4_note jC eO eW dO fJ fY jD nG uF sG))
set_option maxHeartbeats 200000 in
set_option maxRecDepth 10000 in
theorem dt_X9_shake {P Q : Int32 → Int32 → Int32 → Int32 → Int32 → Int32 → (Nat → Int32) → Prop} {bZ : Int32} {wD gF qA nJ nY dQ : Nat → Int32} {jC eO eW dO fJ fY jD nG oE uF : Int32} {sG : Nat → Int32} (h : wp_X9_shake P bZ wD gF qA nJ nY dQ jC eO eW dO fJ fY jD nG oE uF sG) (hq : ∀ o : Int32 × Int32 × Int32 × Int32 × Int32 × Int32 × (Nat → Int32), o = F_X9_shake bZ wD gF qA nJ nY dQ jC eO eW dO fJ fY jD nG oE uF sG → P o.1 o.2.1 o.2.2.1 o.2.2.2.1 o.2.2.2.2.1 o.2.2.2.2.2.1 o.2.2.2.2.2.2 → Q o.1 o.2.1 o.2.2.1 o.2.2.2.1 o.2.2.2.2.1 o.2.2.2.2.2.1 o.2.2.2.2.2.2) : wp_X9_shake Q bZ wD gF qA nJ nY dQ jC eO eW dO fJ fY jD nG oE uF sG := by
  rw [F_X9_shake] at hq
  refine du_X4_note h ?_
  intro h
  refine du_X0_shakeTree h ?_
  intro h
  refine du_X9_holdIfDone h ?_
  intro h
  have q9 := hq _ rfl
  dsimp only at q9
  exact q9 h
theorem du_X9_shake {P Q : Int32 → Int32 → Int32 → Int32 → Int32 → Int32 → (Nat → Int32) → Prop} {bZ : Int32} {wD gF qA nJ nY dQ : Nat → Int32} {jC eO eW dO fJ fY jD nG oE uF : Int32} {sG : Nat → Int32} (h : wp_X9_shake P bZ wD gF qA nJ nY dQ jC eO eW dO fJ fY jD nG oE uF sG) (hq : P (F_X9_shake bZ wD gF qA nJ nY dQ jC eO eW dO fJ fY jD nG oE uF sG).1 (F_X9_shake bZ wD gF qA nJ nY dQ jC eO eW dO fJ fY jD nG oE uF sG).2.1 (F_X9_shake bZ wD gF qA nJ nY dQ jC eO eW dO fJ fY jD nG oE uF sG).2.2.1 (F_X9_shake bZ wD gF qA nJ nY dQ jC eO eW dO fJ fY jD nG oE uF sG).2.2.2.1 (F_X9_shake bZ wD gF qA nJ nY dQ jC eO eW dO fJ fY jD nG oE uF sG).2.2.2.2.1 (F_X9_shake bZ wD gF qA nJ nY dQ jC eO eW dO fJ fY jD nG oE uF sG).2.2.2.2.2.1 (F_X9_shake bZ wD gF qA nJ nY dQ jC eO eW dO fJ fY jD nG oE uF sG).2.2.2.2.2.2 → Q (F_X9_shake bZ wD gF qA nJ nY dQ jC eO eW dO fJ fY jD nG oE uF sG).1 (F_X9_shake bZ wD gF qA nJ nY dQ jC eO eW dO fJ fY jD nG oE uF sG).2.1 (F_X9_shake bZ wD gF qA nJ nY dQ jC eO eW dO fJ fY jD nG oE uF sG).2.2.1 (F_X9_shake bZ wD gF qA nJ nY dQ jC eO eW dO fJ fY jD nG oE uF sG).2.2.2.1 (F_X9_shake bZ wD gF qA nJ nY dQ jC eO eW dO fJ fY jD nG oE uF sG).2.2.2.2.1 (F_X9_shake bZ wD gF qA nJ nY dQ jC eO eW dO fJ fY jD nG oE uF sG).2.2.2.2.2.1 (F_X9_shake bZ wD gF qA nJ nY dQ jC eO eW dO fJ fY jD nG oE uF sG).2.2.2.2.2.2) : wp_X9_shake Q bZ wD gF qA nJ nY dQ jC eO eW dO fJ fY jD nG oE uF sG := dt_X9_shake h (fun o eo => by rw [eo]; exact hq)
theorem dw_X9_shake {Q : Int32 → Int32 → Int32 → Int32 → Int32 → Int32 → (Nat → Int32) → Prop} {bZ : Int32} {wD gF qA nJ nY dQ : Nat → Int32} {jC eO eW dO fJ fY jD nG oE uF : Int32} {sG : Nat → Int32} (h : wp_X9_shake (fun o0 o1 o2 o3 o4 o5 o6 => (o0, o1, o2, o3, o4, o5, o6) = F_X9_shake bZ wD gF qA nJ nY dQ jC eO eW dO fJ fY jD nG oE uF sG → Q o0 o1 o2 o3 o4 o5 o6) bZ wD gF qA nJ nY dQ jC eO eW dO fJ fY jD nG oE uF sG) : wp_X9_shake Q bZ wD gF qA nJ nY dQ jC eO eW dO fJ fY jD nG oE uF sG := dt_X9_shake h (fun o eo hp => hp eo)
noncomputable def F_X0_sleepOver (jC eO fJ jD nG : Int32) : Int32 × Int32 × Int32 × Int32 × Int32 × Int32 := if jD < 9 then ((jD + 1), (F_X2_emptyApron jC eO).1, (F_X2_emptyApron jC eO).2, (-1), (jD + 1), 0) else ((-1), jC, eO, fJ, jD, nG)
set_option maxHeartbeats 200000 in
set_option maxRecDepth 10000 in
theorem dt_X0_sleepOver {P Q : Int32 → Int32 → Int32 → Int32 → Int32 → Int32 → Prop} {jC eO fJ jD nG : Int32} (h : wp_X0_sleepOver P jC eO fJ jD nG) (hq : ∀ o : Int32 × Int32 × Int32 × Int32 × Int32 × Int32, o = F_X0_sleepOver jC eO fJ jD nG → P o.1 o.2.1 o.2.2.1 o.2.2.2.1 o.2.2.2.2.1 o.2.2.2.2.2 → Q o.1 o.2.1 o.2.2.1 o.2.2.2.1 o.2.2.2.2.1 o.2.2.2.2.2) : wp_X0_sleepOver Q jC eO fJ jD nG := by
  rw [F_X0_sleepOver] at hq
  refine And.intro (fun c1 => ?_) (fun c1 => ?_)
  · have h := And.left h c1
    rw [if_pos c1] at hq
    refine ae ?_
    have h := h _ rfl
    refine du_X2_emptyApron h ?_
    intro h
    have q9 := hq _ rfl
    dsimp only at q9
    exact q9 h
  · have h := And.right h c1
    rw [if_neg c1] at hq
    have q9 := hq _ rfl
    dsimp only at q9
    exact q9 h
theorem du_X0_sleepOver {P Q : Int32 → Int32 → Int32 → Int32 → Int32 → Int32 → Prop} {jC eO fJ jD nG : Int32} (h : wp_X0_sleepOver P jC eO fJ jD nG) (hq : P (F_X0_sleepOver jC eO fJ jD nG).1 (F_X0_sleepOver jC eO fJ jD nG).2.1 (F_X0_sleepOver jC eO fJ jD nG).2.2.1 (F_X0_sleepOver jC eO fJ jD nG).2.2.2.1 (F_X0_sleepOver jC eO fJ jD nG).2.2.2.2.1 (F_X0_sleepOver jC eO fJ jD nG).2.2.2.2.2 → Q (F_X0_sleepOver jC eO fJ jD nG).1 (F_X0_sleepOver jC eO fJ jD nG).2.1 (F_X0_sleepOver jC eO fJ jD nG).2.2.1 (F_X0_sleepOver jC eO fJ jD nG).2.2.2.1 (F_X0_sleepOver jC eO fJ jD nG).2.2.2.2.1 (F_X0_sleepOver jC eO fJ jD nG).2.2.2.2.2) : wp_X0_sleepOver Q jC eO fJ jD nG := dt_X0_sleepOver h (fun o eo => by rw [eo]; exact hq)
noncomputable def F_X9_sleep (jC eO eW dO fJ fY jD nG oE uF : Int32) (sG : Nat → Int32) : Int32 × Int32 × Int32 × Int32 × Int32 × Int32 × Int32 × Int32 × (Nat → Int32) := ((F_X9_holdIfDone (F_X0_sleepOver jC eO fJ jD nG).1 oE uF).1, (F_X0_sleepOver jC eO fJ jD nG).2.1, (F_X0_sleepOver jC eO fJ jD nG).2.2.1, (F_X0_sleepOver jC eO fJ jD nG).2.2.2.1, (F_X0_sleepOver jC eO fJ jD nG).2.2.2.2.1, (F_X0_sleepOver jC eO fJ jD nG).2.2.2.2.2, (F_X9_holdIfDone (F_X0_sleepOver jC eO fJ jD nG).1 oE uF).2.1, (F_X9_holdIfDone (F_X0_sleepOver jC eO fJ jD nG).1 oE uF).2.2, (F_X4_note jC eO eW dO fJ fY jD nG uF sG))
set_option maxHeartbeats 200000 in
set_option maxRecDepth 10000 in
theorem dt_X9_sleep {P Q : Int32 → Int32 → Int32 → Int32 → Int32 → Int32 → Int32 → Int32 → (Nat → Int32) → Prop} {jC eO eW dO fJ fY jD nG oE uF : Int32} {sG : Nat → Int32} (h : wp_X9_sleep P jC eO eW dO fJ fY jD nG oE uF sG) (hq : ∀ o : Int32 × Int32 × Int32 × Int32 × Int32 × Int32 × Int32 × Int32 × (Nat → Int32), o = F_X9_sleep jC eO eW dO fJ fY jD nG oE uF sG → P o.1 o.2.1 o.2.2.1 o.2.2.2.1 o.2.2.2.2.1 o.2.2.2.2.2.1 o.2.2.2.2.2.2.1 o.2.2.2.2.2.2.2.1 o.2.2.2.2.2.2.2.2 → Q o.1 o.2.1 o.2.2.1 o.2.2.2.1 o.2.2.2.2.1 o.2.2.2.2.2.1 o.2.2.2.2.2.2.1 o.2.2.2.2.2.2.2.1 o.2.2.2.2.2.2.2.2) : wp_X9_sleep Q jC eO eW dO fJ fY jD nG oE uF sG := by
  rw [F_X9_sleep] at hq
  refine du_X4_note h ?_
  intro h
  refine du_X0_sleepOver h ?_
  intro h
  refine du_X9_holdIfDone h ?_
  intro h
  have q9 := hq _ rfl
  dsimp only at q9
  exact q9 h
theorem du_X9_sleep {P Q : Int32 → Int32 → Int32 → Int32 → Int32 → Int32 → Int32 → Int32 → (Nat → Int32) → Prop} {jC eO eW dO fJ fY jD nG oE uF : Int32} {sG : Nat → Int32} (h : wp_X9_sleep P jC eO eW dO fJ fY jD nG oE uF sG) (hq : P (F_X9_sleep jC eO eW dO fJ fY jD nG oE uF sG).1 (F_X9_sleep jC eO eW dO fJ fY jD nG oE uF sG).2.1 (F_X9_sleep jC eO eW dO fJ fY jD nG oE uF sG).2.2.1 (F_X9_sleep jC eO eW dO fJ fY jD nG oE uF sG).2.2.2.1 (F_X9_sleep jC eO eW dO fJ fY jD nG oE uF sG).2.2.2.2.1 (F_X9_sleep jC eO eW dO fJ fY jD nG oE uF sG).2.2.2.2.2.1 (F_X9_sleep jC eO eW dO fJ fY jD nG oE uF sG).2.2.2.2.2.2.1 (F_X9_sleep jC eO eW dO fJ fY jD nG oE uF sG).2.2.2.2.2.2.2.1 (F_X9_sleep jC eO eW dO fJ fY jD nG oE uF sG).2.2.2.2.2.2.2.2 → Q (F_X9_sleep jC eO eW dO fJ fY jD nG oE uF sG).1 (F_X9_sleep jC eO eW dO fJ fY jD nG oE uF sG).2.1 (F_X9_sleep jC eO eW dO fJ fY jD nG oE uF sG).2.2.1 (F_X9_sleep jC eO eW dO fJ fY jD nG oE uF sG).2.2.2.1 (F_X9_sleep jC eO eW dO fJ fY jD nG oE uF sG).2.2.2.2.1 (F_X9_sleep jC eO eW dO fJ fY jD nG oE uF sG).2.2.2.2.2.1 (F_X9_sleep jC eO eW dO fJ fY jD nG oE uF sG).2.2.2.2.2.2.1 (F_X9_sleep jC eO eW dO fJ fY jD nG oE uF sG).2.2.2.2.2.2.2.1 (F_X9_sleep jC eO eW dO fJ fY jD nG oE uF sG).2.2.2.2.2.2.2.2) : wp_X9_sleep Q jC eO eW dO fJ fY jD nG oE uF sG := dt_X9_sleep h (fun o eo => by rw [eo]; exact hq)
theorem dw_X9_sleep {Q : Int32 → Int32 → Int32 → Int32 → Int32 → Int32 → Int32 → Int32 → (Nat → Int32) → Prop} {jC eO eW dO fJ fY jD nG oE uF : Int32} {sG : Nat → Int32} (h : wp_X9_sleep (fun o0 o1 o2 o3 o4 o5 o6 o7 o8 => (o0, o1, o2, o3, o4, o5, o6, o7, o8) = F_X9_sleep jC eO eW dO fJ fY jD nG oE uF sG → Q o0 o1 o2 o3 o4 o5 o6 o7 o8) jC eO eW dO fJ fY jD nG oE uF sG) : wp_X9_sleep Q jC eO eW dO fJ fY jD nG oE uF sG := dt_X9_sleep h (fun o eo hp => hp eo)
noncomputable def j_X9_doAct_143 {R : Type} (po : Int32 → Int32 → Int32 → Int32 → Int32 → Int32 → Int32 → Int32 → Int32 → (Nat → Int32) → (Nat → Int32) → R) (bZ bD : Int32) (wD gF pE qA nJ nY dQ : Nat → Int32) (pG : Int32) (oF : Nat → Int32) (jC eO eW dO fJ fY jD nG : Int32) (qO qQ : Nat → Int32) : R := po ((F_X0_sleepOver jC eO fJ jD nG).1) ((F_X0_sleepOver jC eO fJ jD nG).2.1) ((F_X0_sleepOver jC eO fJ jD nG).2.2.1) eW dO ((F_X0_sleepOver jC eO fJ jD nG).2.2.2.1) fY ((F_X0_sleepOver jC eO fJ jD nG).2.2.2.2.1) ((F_X0_sleepOver jC eO fJ jD nG).2.2.2.2.2) qO qQ
noncomputable def F_X9_doAct (p0 p1 bZ bD : Int32) (wD gF pE qA nJ nY dQ : Nat → Int32) (jC eO eW dO fJ fY jD nG pG : Int32) (qO qQ oF : Nat → Int32) : Int32 × Int32 × Int32 × Int32 × Int32 × Int32 × Int32 × Int32 × Int32 × (Nat → Int32) × (Nat → Int32) := if p0 = 97 then ((F_X0_setHelper 1 fY).1, jC, eO, eW, dO, fJ, (F_X0_setHelper 1 fY).2, jD, nG, qO, qQ) else (if p0 = 100 then ((F_X0_goDown nY jC eO fJ nG).1, (F_X0_goDown nY jC eO fJ nG).2.1, (F_X0_goDown nY jC eO fJ nG).2.2.1, eW, dO, fJ, fY, jD, (F_X0_goDown nY jC eO fJ nG).2.2.2, qO, qQ) else (if p0 = 104 then ((F_X0_pickFruit p1 1 bZ wD gF pE qA nJ nY dQ jC eO eW dO fJ fY jD nG pG qO qQ oF).1, (F_X0_pickFruit p1 1 bZ wD gF pE qA nJ nY dQ jC eO eW dO fJ fY jD nG pG qO qQ oF).2.1, eO, eW, (F_X0_pickFruit p1 1 bZ wD gF pE qA nJ nY dQ jC eO eW dO fJ fY jD nG pG qO qQ oF).2.2.1, fJ, fY, jD, (F_X0_pickFruit p1 1 bZ wD gF pE qA nJ nY dQ jC eO eW dO fJ fY jD nG pG qO qQ oF).2.2.2.1, (F_X0_pickFruit p1 1 bZ wD gF pE qA nJ nY dQ jC eO eW dO fJ fY jD nG pG qO qQ oF).2.2.2.2.1, (F_X0_pickFruit p1 1 bZ wD gF pE qA nJ nY dQ jC eO eW dO fJ fY jD nG pG qO qQ oF).2.2.2.2.2) else (if p0 = 107 then ((F_X0_shakeTree bZ wD gF qA nJ nY dQ jC eO eW dO fJ fY jD nG).1, jC, eO, (F_X0_shakeTree bZ wD gF qA nJ nY dQ jC eO eW dO fJ fY jD nG).2.1, (F_X0_shakeTree bZ wD gF qA nJ nY dQ jC eO eW dO fJ fY jD nG).2.2.1, fJ, fY, jD, (F_X0_shakeTree bZ wD gF qA nJ nY dQ jC eO eW dO fJ fY jD nG).2.2.2, qO, qQ) else (if p0 = 109 then ((F_X0_setLadder p1 bD nJ nY dQ jC eO fJ nG).1, (F_X0_setLadder p1 bD nJ nY dQ jC eO fJ nG).2.1, (F_X0_setLadder p1 bD nJ nY dQ jC eO fJ nG).2.2.1, eW, dO, (F_X0_setLadder p1 bD nJ nY dQ jC eO fJ nG).2.2.2.1, fY, jD, (F_X0_setLadder p1 bD nJ nY dQ jC eO fJ nG).2.2.2.2, qO, qQ) else (if p0 = 111 then ((F_X0_setHelper 0 fY).1, jC, eO, eW, dO, fJ, (F_X0_setHelper 0 fY).2, jD, nG, qO, qQ) else (if p0 = 112 then ((F_X0_pickFruit p1 0 bZ wD gF pE qA nJ nY dQ jC eO eW dO fJ fY jD nG pG qO qQ oF).1, (F_X0_pickFruit p1 0 bZ wD gF pE qA nJ nY dQ jC eO eW dO fJ fY jD nG pG qO qQ oF).2.1, eO, eW, (F_X0_pickFruit p1 0 bZ wD gF pE qA nJ nY dQ jC eO eW dO fJ fY jD nG pG qO qQ oF).2.2.1, fJ, fY, jD, (F_X0_pickFruit p1 0 bZ wD gF pE qA nJ nY dQ jC eO eW dO fJ fY jD nG pG qO qQ oF).2.2.2.1, (F_X0_pickFruit p1 0 bZ wD gF pE qA nJ nY dQ jC eO eW dO fJ fY jD nG pG qO qQ oF).2.2.2.2.1, (F_X0_pickFruit p1 0 bZ wD gF pE qA nJ nY dQ jC eO eW dO fJ fY jD nG pG qO qQ oF).2.2.2.2.2) else (j_X9_doAct_143 (fun o0 o1 o2 o3 o4 o5 o6 o7 o8 o9 o10 => (o0, o1, o2, o3, o4, o5, o6, o7, o8, o9, o10)) bZ bD wD gF pE qA nJ nY dQ pG oF jC eO eW dO fJ fY jD nG qO qQ)))))))
set_option maxHeartbeats 200000 in
set_option maxRecDepth 10000 in
theorem dt_X9_doAct {P Q : Int32 → Int32 → Int32 → Int32 → Int32 → Int32 → Int32 → Int32 → Int32 → (Nat → Int32) → (Nat → Int32) → Prop} {p0 p1 bZ bD : Int32} {wD gF pE qA nJ nY dQ : Nat → Int32} {jC eO eW dO fJ fY jD nG pG : Int32} {qO qQ oF : Nat → Int32} (h : wp_X9_doAct P p0 p1 bZ bD wD gF pE qA nJ nY dQ jC eO eW dO fJ fY jD nG pG qO qQ oF) (hq : ∀ o : Int32 × Int32 × Int32 × Int32 × Int32 × Int32 × Int32 × Int32 × Int32 × (Nat → Int32) × (Nat → Int32), o = F_X9_doAct p0 p1 bZ bD wD gF pE qA nJ nY dQ jC eO eW dO fJ fY jD nG pG qO qQ oF → P o.1 o.2.1 o.2.2.1 o.2.2.2.1 o.2.2.2.2.1 o.2.2.2.2.2.1 o.2.2.2.2.2.2.1 o.2.2.2.2.2.2.2.1 o.2.2.2.2.2.2.2.2.1 o.2.2.2.2.2.2.2.2.2.1 o.2.2.2.2.2.2.2.2.2.2 → Q o.1 o.2.1 o.2.2.1 o.2.2.2.1 o.2.2.2.2.1 o.2.2.2.2.2.1 o.2.2.2.2.2.2.1 o.2.2.2.2.2.2.2.1 o.2.2.2.2.2.2.2.2.1 o.2.2.2.2.2.2.2.2.2.1 o.2.2.2.2.2.2.2.2.2.2) : wp_X9_doAct Q p0 p1 bZ bD wD gF pE qA nJ nY dQ jC eO eW dO fJ fY jD nG pG qO qQ oF := by
  rw [F_X9_doAct] at hq
  refine (And.intro (fun c1 => ?_) (And.intro (fun c2 => ?_) (And.intro (fun c3 => ?_) (And.intro (fun c4 => ?_) (And.intro (fun c5 => ?_) (And.intro (fun c6 => ?_) (And.intro (fun c7 => ?_) (fun c1 c2 c3 c4 c5 c6 c7 => ?_))))))))
  · have h := And.left h c1
    rw [if_pos c1] at hq
    refine du_X0_setHelper h ?_
    intro h
    have q9 := hq _ rfl
    dsimp only at q9
    exact q9 h
  · have h := And.left (And.right h) c2
    rw [if_neg (fun e9 => absurd (e9.symm.trans c2) (by decide)), if_pos c2] at hq
    refine du_X0_goDown h ?_
    intro h
    have q9 := hq _ rfl
    dsimp only at q9
    exact q9 h
  · have h := And.left (And.right (And.right h)) c3
    rw [if_neg (fun e9 => absurd (e9.symm.trans c3) (by decide)), if_neg (fun e9 => absurd (e9.symm.trans c3) (by decide)), if_pos c3] at hq
    refine du_X0_pickFruit h ?_
    intro h
    have q9 := hq _ rfl
    dsimp only at q9
    exact q9 h
  · have h := And.left (And.right (And.right (And.right h))) c4
    rw [if_neg (fun e9 => absurd (e9.symm.trans c4) (by decide)), if_neg (fun e9 => absurd (e9.symm.trans c4) (by decide)), if_neg (fun e9 => absurd (e9.symm.trans c4) (by decide)), if_pos c4] at hq
    refine du_X0_shakeTree h ?_
    intro h
    have q9 := hq _ rfl
    dsimp only at q9
    exact q9 h
  · have h := And.left (And.right (And.right (And.right (And.right h)))) c5
    rw [if_neg (fun e9 => absurd (e9.symm.trans c5) (by decide)), if_neg (fun e9 => absurd (e9.symm.trans c5) (by decide)), if_neg (fun e9 => absurd (e9.symm.trans c5) (by decide)), if_neg (fun e9 => absurd (e9.symm.trans c5) (by decide)), if_pos c5] at hq
    refine du_X0_setLadder h ?_
    intro h
    have q9 := hq _ rfl
    dsimp only at q9
    exact q9 h
  · have h := And.left (And.right (And.right (And.right (And.right (And.right h))))) c6
    rw [if_neg (fun e9 => absurd (e9.symm.trans c6) (by decide)), if_neg (fun e9 => absurd (e9.symm.trans c6) (by decide)), if_neg (fun e9 => absurd (e9.symm.trans c6) (by decide)), if_neg (fun e9 => absurd (e9.symm.trans c6) (by decide)), if_neg (fun e9 => absurd (e9.symm.trans c6) (by decide)), if_pos c6] at hq
    refine du_X0_setHelper h ?_
    intro h
    have q9 := hq _ rfl
    dsimp only at q9
    exact q9 h
  · have h := And.left (And.right (And.right (And.right (And.right (And.right (And.right h)))))) c7
    rw [if_neg (fun e9 => absurd (e9.symm.trans c7) (by decide)), if_neg (fun e9 => absurd (e9.symm.trans c7) (by decide)), if_neg (fun e9 => absurd (e9.symm.trans c7) (by decide)), if_neg (fun e9 => absurd (e9.symm.trans c7) (by decide)), if_neg (fun e9 => absurd (e9.symm.trans c7) (by decide)), if_neg (fun e9 => absurd (e9.symm.trans c7) (by decide)), if_pos c7] at hq
    refine du_X0_pickFruit h ?_
    intro h
    have q9 := hq _ rfl
    dsimp only at q9
    exact q9 h
  · have h := And.right (And.right (And.right (And.right (And.right (And.right (And.right h)))))) c1 c2 c3 c4 c5 c6 c7
    rw [if_neg c1, if_neg c2, if_neg c3, if_neg c4, if_neg c5, if_neg c6, if_neg c7] at hq
    rw [j_X9_doAct_143] at hq
    unfold ws_X9_doAct_143 at h ⊢
    refine du_X0_sleepOver h ?_
    intro h
    have q9 := hq _ rfl
    dsimp only at q9
    exact q9 h
theorem du_X9_doAct {P Q : Int32 → Int32 → Int32 → Int32 → Int32 → Int32 → Int32 → Int32 → Int32 → (Nat → Int32) → (Nat → Int32) → Prop} {p0 p1 bZ bD : Int32} {wD gF pE qA nJ nY dQ : Nat → Int32} {jC eO eW dO fJ fY jD nG pG : Int32} {qO qQ oF : Nat → Int32} (h : wp_X9_doAct P p0 p1 bZ bD wD gF pE qA nJ nY dQ jC eO eW dO fJ fY jD nG pG qO qQ oF) (hq : P (F_X9_doAct p0 p1 bZ bD wD gF pE qA nJ nY dQ jC eO eW dO fJ fY jD nG pG qO qQ oF).1 (F_X9_doAct p0 p1 bZ bD wD gF pE qA nJ nY dQ jC eO eW dO fJ fY jD nG pG qO qQ oF).2.1 (F_X9_doAct p0 p1 bZ bD wD gF pE qA nJ nY dQ jC eO eW dO fJ fY jD nG pG qO qQ oF).2.2.1 (F_X9_doAct p0 p1 bZ bD wD gF pE qA nJ nY dQ jC eO eW dO fJ fY jD nG pG qO qQ oF).2.2.2.1 (F_X9_doAct p0 p1 bZ bD wD gF pE qA nJ nY dQ jC eO eW dO fJ fY jD nG pG qO qQ oF).2.2.2.2.1 (F_X9_doAct p0 p1 bZ bD wD gF pE qA nJ nY dQ jC eO eW dO fJ fY jD nG pG qO qQ oF).2.2.2.2.2.1 (F_X9_doAct p0 p1 bZ bD wD gF pE qA nJ nY dQ jC eO eW dO fJ fY jD nG pG qO qQ oF).2.2.2.2.2.2.1 (F_X9_doAct p0 p1 bZ bD wD gF pE qA nJ nY dQ jC eO eW dO fJ fY jD nG pG qO qQ oF).2.2.2.2.2.2.2.1 (F_X9_doAct p0 p1 bZ bD wD gF pE qA nJ nY dQ jC eO eW dO fJ fY jD nG pG qO qQ oF).2.2.2.2.2.2.2.2.1 (F_X9_doAct p0 p1 bZ bD wD gF pE qA nJ nY dQ jC eO eW dO fJ fY jD nG pG qO qQ oF).2.2.2.2.2.2.2.2.2.1 (F_X9_doAct p0 p1 bZ bD wD gF pE qA nJ nY dQ jC eO eW dO fJ fY jD nG pG qO qQ oF).2.2.2.2.2.2.2.2.2.2 → Q (F_X9_doAct p0 p1 bZ bD wD gF pE qA nJ nY dQ jC eO eW dO fJ fY jD nG pG qO qQ oF).1 (F_X9_doAct p0 p1 bZ bD wD gF pE qA nJ nY dQ jC eO eW dO fJ fY jD nG pG qO qQ oF).2.1 (F_X9_doAct p0 p1 bZ bD wD gF pE qA nJ nY dQ jC eO eW dO fJ fY jD nG pG qO qQ oF).2.2.1 (F_X9_doAct p0 p1 bZ bD wD gF pE qA nJ nY dQ jC eO eW dO fJ fY jD nG pG qO qQ oF).2.2.2.1 (F_X9_doAct p0 p1 bZ bD wD gF pE qA nJ nY dQ jC eO eW dO fJ fY jD nG pG qO qQ oF).2.2.2.2.1 (F_X9_doAct p0 p1 bZ bD wD gF pE qA nJ nY dQ jC eO eW dO fJ fY jD nG pG qO qQ oF).2.2.2.2.2.1 (F_X9_doAct p0 p1 bZ bD wD gF pE qA nJ nY dQ jC eO eW dO fJ fY jD nG pG qO qQ oF).2.2.2.2.2.2.1 (F_X9_doAct p0 p1 bZ bD wD gF pE qA nJ nY dQ jC eO eW dO fJ fY jD nG pG qO qQ oF).2.2.2.2.2.2.2.1 (F_X9_doAct p0 p1 bZ bD wD gF pE qA nJ nY dQ jC eO eW dO fJ fY jD nG pG qO qQ oF).2.2.2.2.2.2.2.2.1 (F_X9_doAct p0 p1 bZ bD wD gF pE qA nJ nY dQ jC eO eW dO fJ fY jD nG pG qO qQ oF).2.2.2.2.2.2.2.2.2.1 (F_X9_doAct p0 p1 bZ bD wD gF pE qA nJ nY dQ jC eO eW dO fJ fY jD nG pG qO qQ oF).2.2.2.2.2.2.2.2.2.2) : wp_X9_doAct Q p0 p1 bZ bD wD gF pE qA nJ nY dQ jC eO eW dO fJ fY jD nG pG qO qQ oF := dt_X9_doAct h (fun o eo => by rw [eo]; exact hq)
theorem dw_X9_doAct {Q : Int32 → Int32 → Int32 → Int32 → Int32 → Int32 → Int32 → Int32 → Int32 → (Nat → Int32) → (Nat → Int32) → Prop} {p0 p1 bZ bD : Int32} {wD gF pE qA nJ nY dQ : Nat → Int32} {jC eO eW dO fJ fY jD nG pG : Int32} {qO qQ oF : Nat → Int32} (h : wp_X9_doAct (fun o0 o1 o2 o3 o4 o5 o6 o7 o8 o9 o10 => (o0, o1, o2, o3, o4, o5, o6, o7, o8, o9, o10) = F_X9_doAct p0 p1 bZ bD wD gF pE qA nJ nY dQ jC eO eW dO fJ fY jD nG pG qO qQ oF → Q o0 o1 o2 o3 o4 o5 o6 o7 o8 o9 o10) p0 p1 bZ bD wD gF pE qA nJ nY dQ jC eO eW dO fJ fY jD nG pG qO qQ oF) : wp_X9_doAct Q p0 p1 bZ bD wD gF pE qA nJ nY dQ jC eO eW dO fJ fY jD nG pG qO qQ oF := dt_X9_doAct h (fun o eo hp => hp eo)
noncomputable def j_X9_doActs_118 {R : Type} (po : Int32 → Int32 → Int32 → Int32 → Int32 → Int32 → Int32 → Int32 → Int32 → (Nat → Int32) → (Nat → Int32) → Int32 → Int32 → (Nat → Int32) → Int32 → (Nat → Int32) → R) (vZ : Nat → Int32) (bZ bD : Int32) (wD gF pE qA nJ nY dQ : Nat → Int32) (pG : Int32) (oF : Nat → Int32) (x2 x3 x4 jC eO eW dO fJ fY jD nG : Int32) (qO qQ : Nat → Int32) (oE uF : Int32) (sG : Nat → Int32) (qF : Int32) (jJ : Nat → Int32) : R := po x2 jC eO eW dO fJ fY jD nG qO qQ oE uF sG ((F_X9_tell_ x4 x3 qF jJ).1) ((F_X9_tell_ x4 x3 qF jJ).2)
noncomputable def j_X9_doActs_107 {R : Type} (po : Int32 → Int32 → Int32 → Int32 → Int32 → Int32 → Int32 → Int32 → Int32 → (Nat → Int32) → (Nat → Int32) → Int32 → Int32 → (Nat → Int32) → Int32 → (Nat → Int32) → R) (vZ : Nat → Int32) (bZ bD : Int32) (wD gF pE qA nJ nY dQ : Nat → Int32) (pG : Int32) (oF : Nat → Int32) (x2 x3 x4 jC eO eW dO fJ fY jD nG : Int32) (qO qQ : Nat → Int32) (oE uF : Int32) (sG : Nat → Int32) (qF : Int32) (jJ : Nat → Int32) : R := if x2 ≤ 0 then (j_X9_doActs_118 po vZ bZ bD wD gF pE qA nJ nY dQ pG oF x2 x3 x4 jC eO eW dO fJ fY jD nG qO qQ oE uF sG qF jJ) else (j_X9_doActs_118 po vZ bZ bD wD gF pE qA nJ nY dQ pG oF x2 x3 x4 jC eO eW dO fJ fY jD nG qO qQ ((F_X4_hold oE uF).1) ((F_X4_hold oE uF).2) sG qF jJ)
noncomputable def j_X9_doActs_101 {R : Type} (k21 : Int32 → Int32 → Int32 → Int32 → Int32 → Int32 → Int32 → Int32 → Int32 → Int32 → Int32 → Int32 → Int32 → (Nat → Int32) → (Nat → Int32) → Int32 → Int32 → (Nat → Int32) → Int32 → (Nat → Int32) → R) (vZ : Nat → Int32) (bZ bD : Int32) (wD gF pE qA nJ nY dQ : Nat → Int32) (pG : Int32) (oF : Nat → Int32) (x1 x2 x3 x4 x5 jC eO eW dO fJ fY jD nG : Int32) (qO qQ : Nat → Int32) (oE uF : Int32) (sG : Nat → Int32) (qF : Int32) (jJ : Nat → Int32) : R := k21 x1 x2 x3 x4 (x5 + 1) jC eO eW dO fJ fY jD nG qO qQ oE uF sG qF jJ
noncomputable def j_X9_doActs_99 {R : Type} (k21 : Int32 → Int32 → Int32 → Int32 → Int32 → Int32 → Int32 → Int32 → Int32 → Int32 → Int32 → Int32 → Int32 → (Nat → Int32) → (Nat → Int32) → Int32 → Int32 → (Nat → Int32) → Int32 → (Nat → Int32) → R) (vZ : Nat → Int32) (bZ bD : Int32) (wD gF pE qA nJ nY dQ : Nat → Int32) (pG : Int32) (oF : Nat → Int32) (x1 x2 x4 x5 k0 k1 jC eO eW dO fJ fY jD nG : Int32) (qO qQ : Nat → Int32) (oE uF : Int32) (sG : Nat → Int32) (qF : Int32) (jJ : Nat → Int32) : R := j_X9_doActs_101 k21 vZ bZ bD wD gF pE qA nJ nY dQ pG oF x1 x2 (k0 + k1) x4 x5 jC eO eW dO fJ fY jD nG qO qQ oE uF sG qF jJ
noncomputable def j_X9_doActs_94 {R : Type} (k21 : Int32 → Int32 → Int32 → Int32 → Int32 → Int32 → Int32 → Int32 → Int32 → Int32 → Int32 → Int32 → Int32 → (Nat → Int32) → (Nat → Int32) → Int32 → Int32 → (Nat → Int32) → Int32 → (Nat → Int32) → R) (vZ : Nat → Int32) (bZ bD : Int32) (wD gF pE qA nJ nY dQ : Nat → Int32) (pG : Int32) (oF : Nat → Int32) (x1 x2 x4 x5 k0 jC eO eW dO fJ fY jD nG : Int32) (qO qQ : Nat → Int32) (oE uF : Int32) (sG : Nat → Int32) (qF : Int32) (jJ : Nat → Int32) : R := j_X9_doActs_99 k21 vZ bZ bD wD gF pE qA nJ nY dQ pG oF x1 x2 x4 x5 k0 1 jC eO eW dO fJ fY jD nG qO qQ oE uF sG qF jJ
noncomputable def fs_X9_doActs_21 {R : Type} (po : Int32 → Int32 → Int32 → Int32 → Int32 → Int32 → Int32 → Int32 → Int32 → (Nat → Int32) → (Nat → Int32) → Int32 → Int32 → (Nat → Int32) → Int32 → (Nat → Int32) → R) (vZ : Nat → Int32) (bZ bD : Int32) (wD gF pE qA nJ nY dQ : Nat → Int32) (pG : Int32) (oF : Nat → Int32) (nx : Int32 → Int32 → Int32 → Int32 → Int32 → Int32 → Int32 → Int32 → Int32 → Int32 → Int32 → Int32 → Int32 → (Nat → Int32) → (Nat → Int32) → Int32 → Int32 → (Nat → Int32) → Int32 → (Nat → Int32) → R) (x1 x2 x3 x4 x5 jC eO eW dO fJ fY jD nG : Int32) (qO qQ : Nat → Int32) (oE uF : Int32) (sG : Nat → Int32) (qF : Int32) (jJ : Nat → Int32) : R := if x1 ≤ x5 then (j_X9_doActs_107 po vZ bZ bD wD gF pE qA nJ nY dQ pG oF x2 x3 x4 jC eO eW dO fJ fY jD nG qO qQ oE uF sG qF jJ) else (if 30 ≤ x5 then (j_X9_doActs_107 po vZ bZ bD wD gF pE qA nJ nY dQ pG oF x2 x3 x4 jC eO eW dO fJ fY jD nG qO qQ oE uF sG qF jJ) else (if x4 = 0 then (if 0 ≤ (F_X9_doAct ((vZ x5.toNatClampNeg) / 100) ((vZ x5.toNatClampNeg) - (vZ x5.toNatClampNeg) / 100 * 100) bZ bD wD gF pE qA nJ nY dQ jC eO eW dO fJ fY jD nG pG qO qQ oF).1 then (if ((vZ x5.toNatClampNeg) / 100) = 112 then (j_X9_doActs_94 nx vZ bZ bD wD gF pE qA nJ nY dQ pG oF x1 (x2 + 1) x4 x5 x3 ((F_X9_doAct ((vZ x5.toNatClampNeg) / 100) ((vZ x5.toNatClampNeg) - (vZ x5.toNatClampNeg) / 100 * 100) bZ bD wD gF pE qA nJ nY dQ jC eO eW dO fJ fY jD nG pG qO qQ oF).2.1) ((F_X9_doAct ((vZ x5.toNatClampNeg) / 100) ((vZ x5.toNatClampNeg) - (vZ x5.toNatClampNeg) / 100 * 100) bZ bD wD gF pE qA nJ nY dQ jC eO eW dO fJ fY jD nG pG qO qQ oF).2.2.1) ((F_X9_doAct ((vZ x5.toNatClampNeg) / 100) ((vZ x5.toNatClampNeg) - (vZ x5.toNatClampNeg) / 100 * 100) bZ bD wD gF pE qA nJ nY dQ jC eO eW dO fJ fY jD nG pG qO qQ oF).2.2.2.1) ((F_X9_doAct ((vZ x5.toNatClampNeg) / 100) ((vZ x5.toNatClampNeg) - (vZ x5.toNatClampNeg) / 100 * 100) bZ bD wD gF pE qA nJ nY dQ jC eO eW dO fJ fY jD nG pG qO qQ oF).2.2.2.2.1) ((F_X9_doAct ((vZ x5.toNatClampNeg) / 100) ((vZ x5.toNatClampNeg) - (vZ x5.toNatClampNeg) / 100 * 100) bZ bD wD gF pE qA nJ nY dQ jC eO eW dO fJ fY jD nG pG qO qQ oF).2.2.2.2.2.1) ((F_X9_doAct ((vZ x5.toNatClampNeg) / 100) ((vZ x5.toNatClampNeg) - (vZ x5.toNatClampNeg) / 100 * 100) bZ bD wD gF pE qA nJ nY dQ jC eO eW dO fJ fY jD nG pG qO qQ oF).2.2.2.2.2.2.1) ((F_X9_doAct ((vZ x5.toNatClampNeg) / 100) ((vZ x5.toNatClampNeg) - (vZ x5.toNatClampNeg) / 100 * 100) bZ bD wD gF pE qA nJ nY dQ jC eO eW dO fJ fY jD nG pG qO qQ oF).2.2.2.2.2.2.2.1) ((F_X9_doAct ((vZ x5.toNatClampNeg) / 100) ((vZ x5.toNatClampNeg) - (vZ x5.toNatClampNeg) / 100 * 100) bZ bD wD gF pE qA nJ nY dQ jC eO eW dO fJ fY jD nG pG qO qQ oF).2.2.2.2.2.2.2.2.1) ((F_X9_doAct ((vZ x5.toNatClampNeg) / 100) ((vZ x5.toNatClampNeg) - (vZ x5.toNatClampNeg) / 100 * 100) bZ bD wD gF pE qA nJ nY dQ jC eO eW dO fJ fY jD nG pG qO qQ oF).2.2.2.2.2.2.2.2.2.1) ((F_X9_doAct ((vZ x5.toNatClampNeg) / 100) ((vZ x5.toNatClampNeg) - (vZ x5.toNatClampNeg) / 100 * 100) bZ bD wD gF pE qA nJ nY dQ jC eO eW dO fJ fY jD nG pG qO qQ oF).2.2.2.2.2.2.2.2.2.2) oE uF sG qF jJ) else (if ((vZ x5.toNatClampNeg) / 100) = 104 then (j_X9_doActs_94 nx vZ bZ bD wD gF pE qA nJ nY dQ pG oF x1 (x2 + 1) x4 x5 x3 ((F_X9_doAct ((vZ x5.toNatClampNeg) / 100) ((vZ x5.toNatClampNeg) - (vZ x5.toNatClampNeg) / 100 * 100) bZ bD wD gF pE qA nJ nY dQ jC eO eW dO fJ fY jD nG pG qO qQ oF).2.1) ((F_X9_doAct ((vZ x5.toNatClampNeg) / 100) ((vZ x5.toNatClampNeg) - (vZ x5.toNatClampNeg) / 100 * 100) bZ bD wD gF pE qA nJ nY dQ jC eO eW dO fJ fY jD nG pG qO qQ oF).2.2.1) ((F_X9_doAct ((vZ x5.toNatClampNeg) / 100) ((vZ x5.toNatClampNeg) - (vZ x5.toNatClampNeg) / 100 * 100) bZ bD wD gF pE qA nJ nY dQ jC eO eW dO fJ fY jD nG pG qO qQ oF).2.2.2.1) ((F_X9_doAct ((vZ x5.toNatClampNeg) / 100) ((vZ x5.toNatClampNeg) - (vZ x5.toNatClampNeg) / 100 * 100) bZ bD wD gF pE qA nJ nY dQ jC eO eW dO fJ fY jD nG pG qO qQ oF).2.2.2.2.1) ((F_X9_doAct ((vZ x5.toNatClampNeg) / 100) ((vZ x5.toNatClampNeg) - (vZ x5.toNatClampNeg) / 100 * 100) bZ bD wD gF pE qA nJ nY dQ jC eO eW dO fJ fY jD nG pG qO qQ oF).2.2.2.2.2.1) ((F_X9_doAct ((vZ x5.toNatClampNeg) / 100) ((vZ x5.toNatClampNeg) - (vZ x5.toNatClampNeg) / 100 * 100) bZ bD wD gF pE qA nJ nY dQ jC eO eW dO fJ fY jD nG pG qO qQ oF).2.2.2.2.2.2.1) ((F_X9_doAct ((vZ x5.toNatClampNeg) / 100) ((vZ x5.toNatClampNeg) - (vZ x5.toNatClampNeg) / 100 * 100) bZ bD wD gF pE qA nJ nY dQ jC eO eW dO fJ fY jD nG pG qO qQ oF).2.2.2.2.2.2.2.1) ((F_X9_doAct ((vZ x5.toNatClampNeg) / 100) ((vZ x5.toNatClampNeg) - (vZ x5.toNatClampNeg) / 100 * 100) bZ bD wD gF pE qA nJ nY dQ jC eO eW dO fJ fY jD nG pG qO qQ oF).2.2.2.2.2.2.2.2.1) ((F_X9_doAct ((vZ x5.toNatClampNeg) / 100) ((vZ x5.toNatClampNeg) - (vZ x5.toNatClampNeg) / 100 * 100) bZ bD wD gF pE qA nJ nY dQ jC eO eW dO fJ fY jD nG pG qO qQ oF).2.2.2.2.2.2.2.2.2.1) ((F_X9_doAct ((vZ x5.toNatClampNeg) / 100) ((vZ x5.toNatClampNeg) - (vZ x5.toNatClampNeg) / 100 * 100) bZ bD wD gF pE qA nJ nY dQ jC eO eW dO fJ fY jD nG pG qO qQ oF).2.2.2.2.2.2.2.2.2.2) oE uF sG qF jJ) else (j_X9_doActs_99 nx vZ bZ bD wD gF pE qA nJ nY dQ pG oF x1 (x2 + 1) x4 x5 x3 0 ((F_X9_doAct ((vZ x5.toNatClampNeg) / 100) ((vZ x5.toNatClampNeg) - (vZ x5.toNatClampNeg) / 100 * 100) bZ bD wD gF pE qA nJ nY dQ jC eO eW dO fJ fY jD nG pG qO qQ oF).2.1) ((F_X9_doAct ((vZ x5.toNatClampNeg) / 100) ((vZ x5.toNatClampNeg) - (vZ x5.toNatClampNeg) / 100 * 100) bZ bD wD gF pE qA nJ nY dQ jC eO eW dO fJ fY jD nG pG qO qQ oF).2.2.1) ((F_X9_doAct ((vZ x5.toNatClampNeg) / 100) ((vZ x5.toNatClampNeg) - (vZ x5.toNatClampNeg) / 100 * 100) bZ bD wD gF pE qA nJ nY dQ jC eO eW dO fJ fY jD nG pG qO qQ oF).2.2.2.1) ((F_X9_doAct ((vZ x5.toNatClampNeg) / 100) ((vZ x5.toNatClampNeg) - (vZ x5.toNatClampNeg) / 100 * 100) bZ bD wD gF pE qA nJ nY dQ jC eO eW dO fJ fY jD nG pG qO qQ oF).2.2.2.2.1) ((F_X9_doAct ((vZ x5.toNatClampNeg) / 100) ((vZ x5.toNatClampNeg) - (vZ x5.toNatClampNeg) / 100 * 100) bZ bD wD gF pE qA nJ nY dQ jC eO eW dO fJ fY jD nG pG qO qQ oF).2.2.2.2.2.1) ((F_X9_doAct ((vZ x5.toNatClampNeg) / 100) ((vZ x5.toNatClampNeg) - (vZ x5.toNatClampNeg) / 100 * 100) bZ bD wD gF pE qA nJ nY dQ jC eO eW dO fJ fY jD nG pG qO qQ oF).2.2.2.2.2.2.1) ((F_X9_doAct ((vZ x5.toNatClampNeg) / 100) ((vZ x5.toNatClampNeg) - (vZ x5.toNatClampNeg) / 100 * 100) bZ bD wD gF pE qA nJ nY dQ jC eO eW dO fJ fY jD nG pG qO qQ oF).2.2.2.2.2.2.2.1) ((F_X9_doAct ((vZ x5.toNatClampNeg) / 100) ((vZ x5.toNatClampNeg) - (vZ x5.toNatClampNeg) / 100 * 100) bZ bD wD gF pE qA nJ nY dQ jC eO eW dO fJ fY jD nG pG qO qQ oF).2.2.2.2.2.2.2.2.1) ((F_X9_doAct ((vZ x5.toNatClampNeg) / 100) ((vZ x5.toNatClampNeg) - (vZ x5.toNatClampNeg) / 100 * 100) bZ bD wD gF pE qA nJ nY dQ jC eO eW dO fJ fY jD nG pG qO qQ oF).2.2.2.2.2.2.2.2.2.1) ((F_X9_doAct ((vZ x5.toNatClampNeg) / 100) ((vZ x5.toNatClampNeg) - (vZ x5.toNatClampNeg) / 100 * 100) bZ bD wD gF pE qA nJ nY dQ jC eO eW dO fJ fY jD nG pG qO qQ oF).2.2.2.2.2.2.2.2.2.2) oE uF sG qF jJ))) else (j_X9_doActs_101 nx vZ bZ bD wD gF pE qA nJ nY dQ pG oF x1 x2 x3 1 x5 ((F_X9_doAct ((vZ x5.toNatClampNeg) / 100) ((vZ x5.toNatClampNeg) - (vZ x5.toNatClampNeg) / 100 * 100) bZ bD wD gF pE qA nJ nY dQ jC eO eW dO fJ fY jD nG pG qO qQ oF).2.1) ((F_X9_doAct ((vZ x5.toNatClampNeg) / 100) ((vZ x5.toNatClampNeg) - (vZ x5.toNatClampNeg) / 100 * 100) bZ bD wD gF pE qA nJ nY dQ jC eO eW dO fJ fY jD nG pG qO qQ oF).2.2.1) ((F_X9_doAct ((vZ x5.toNatClampNeg) / 100) ((vZ x5.toNatClampNeg) - (vZ x5.toNatClampNeg) / 100 * 100) bZ bD wD gF pE qA nJ nY dQ jC eO eW dO fJ fY jD nG pG qO qQ oF).2.2.2.1) ((F_X9_doAct ((vZ x5.toNatClampNeg) / 100) ((vZ x5.toNatClampNeg) - (vZ x5.toNatClampNeg) / 100 * 100) bZ bD wD gF pE qA nJ nY dQ jC eO eW dO fJ fY jD nG pG qO qQ oF).2.2.2.2.1) ((F_X9_doAct ((vZ x5.toNatClampNeg) / 100) ((vZ x5.toNatClampNeg) - (vZ x5.toNatClampNeg) / 100 * 100) bZ bD wD gF pE qA nJ nY dQ jC eO eW dO fJ fY jD nG pG qO qQ oF).2.2.2.2.2.1) ((F_X9_doAct ((vZ x5.toNatClampNeg) / 100) ((vZ x5.toNatClampNeg) - (vZ x5.toNatClampNeg) / 100 * 100) bZ bD wD gF pE qA nJ nY dQ jC eO eW dO fJ fY jD nG pG qO qQ oF).2.2.2.2.2.2.1) ((F_X9_doAct ((vZ x5.toNatClampNeg) / 100) ((vZ x5.toNatClampNeg) - (vZ x5.toNatClampNeg) / 100 * 100) bZ bD wD gF pE qA nJ nY dQ jC eO eW dO fJ fY jD nG pG qO qQ oF).2.2.2.2.2.2.2.1) ((F_X9_doAct ((vZ x5.toNatClampNeg) / 100) ((vZ x5.toNatClampNeg) - (vZ x5.toNatClampNeg) / 100 * 100) bZ bD wD gF pE qA nJ nY dQ jC eO eW dO fJ fY jD nG pG qO qQ oF).2.2.2.2.2.2.2.2.1) ((F_X9_doAct ((vZ x5.toNatClampNeg) / 100) ((vZ x5.toNatClampNeg) - (vZ x5.toNatClampNeg) / 100 * 100) bZ bD wD gF pE qA nJ nY dQ jC eO eW dO fJ fY jD nG pG qO qQ oF).2.2.2.2.2.2.2.2.2.1) ((F_X9_doAct ((vZ x5.toNatClampNeg) / 100) ((vZ x5.toNatClampNeg) - (vZ x5.toNatClampNeg) / 100 * 100) bZ bD wD gF pE qA nJ nY dQ jC eO eW dO fJ fY jD nG pG qO qQ oF).2.2.2.2.2.2.2.2.2.2) oE uF sG qF jJ)) else (j_X9_doActs_107 po vZ bZ bD wD gF pE qA nJ nY dQ pG oF x2 x3 x4 jC eO eW dO fJ fY jD nG qO qQ oE uF sG qF jJ)))
