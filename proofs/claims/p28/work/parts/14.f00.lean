/-! functions out of the weakest starts -/
theorem ae {e : Int32} {A : Int32 -> Prop} (h : A e) : ∀ v : Int32, v = e -> A v := fun v ev => by rw [ev]; exact h
def itr {α : Type} (f : Int32 -> α -> α) (a : α) (i : Nat) : Nat -> α := fun n => Nat.rec (motive := fun _ => α) a (fun k s => f (nI (i + k)) s) n
theorem itr_s {α : Type} (f : Int32 -> α -> α) (a : α) (i k : Nat) : itr f a i (k + 1) = f (nI (i + k)) (itr f a i k) := rfl
theorem itr_0 {α : Type} (f : Int32 -> α -> α) (a : α) (i : Nat) : itr f a i 0 = a := rfl
def flp {α : Type} (f : α -> α) (z : α) : Nat -> α := fun n => Nat.rec (motive := fun _ => α) z (fun _ s => f s) n
theorem flp_s {α : Type} (f : α -> α) (z : α) (n : Nat) : flp f z (n + 1) = f (flp f z n) := rfl
theorem ad_lt {a b : Int32} (h : 0 <= b.toInt /\ b.toInt <= 3) : (((Int32.toInt (a + b) - Int32.toInt a).toNat : Nat) : Int) < ((4 : Nat) : Int) := by
  have r := aAT a
  by_cases hb : a.toInt + b.toInt <= 2147483647
  · rw [aAD a b (by omega)]; omega
  · have e2 : ((2 ^ 32 : Nat) : Int) = 4294967296 := by decide
    rw [Int32.toInt_add, Int.bmod_def, e2]
    split <;> omega
theorem le30 {v : Int32} (h : ¬ 30 < v) : Int32.toInt v < 2147483647 := by
  have l : Int32.toInt (30 : Int32) = 30 := by decide
  have q := mt (aAd 30 v).mpr h
  omega
noncomputable def j_X8_digitHere_24 {R : Type} (po : Int32 -> R) (qJ rX : Int32) (qM : Nat -> Int32) (k0 : Int32) : R := if k0 < 48 then (po (-1)) else (if 57 < k0 then (po (-1)) else (po (k0 - 48)))
noncomputable def aC7 (qJ rX : Int32) (qM : Nat -> Int32) : Int32 := if rX <= qJ then (j_X8_digitHere_24 (fun o0 => o0) qJ rX qM (-1)) else (j_X8_digitHere_24 (fun o0 => o0) qJ rX qM (qM qJ.toNatClampNeg))
set_option maxHeartbeats 200000 in
set_option maxRecDepth 10000 in
theorem dt_X8_digitHere {P Q : Int32 -> Prop} {qJ rX : Int32} {qM : Nat -> Int32} (h : wp_X8_digitHere P qJ rX qM) (hq : ∀ o : Int32, o = aC7 qJ rX qM -> P o -> Q o) : wp_X8_digitHere Q qJ rX qM := by
  rw [aC7] at hq
  refine And.intro (fun c1 => ?_) (fun c1 => ?_)
  · have h := And.left h c1
    rw [if_pos c1] at hq
    rw [j_X8_digitHere_24] at hq
    unfold ws_X8_digitHere_24 at h ⊢
    refine And.intro (fun c2 => ?_) (fun c2 => ?_)
    · have h := And.left h c2
      rw [if_pos c2] at hq
      have q9 := hq _ rfl
      exact q9 h
    · have h := And.right h c2
      rw [if_neg c2] at hq
      refine And.intro (fun c3 => ?_) (fun c3 => ?_)
      · have h := And.left h c3
        rw [if_pos c3] at hq
        have q9 := hq _ rfl
        exact q9 h
      · have h := And.right h c3
        rw [if_neg c3] at hq
        refine ae ?_
        have h := h _ rfl
        have q9 := hq _ rfl
        exact q9 h
  · have h := And.right h c1
    rw [if_neg c1] at hq
    refine And.intro (And.left h) ?_
    have h := And.right h
    refine ae ?_
    have h := h _ rfl
    rw [j_X8_digitHere_24] at hq
    unfold ws_X8_digitHere_24 at h ⊢
    refine And.intro (fun c4 => ?_) (fun c4 => ?_)
    · have h := And.left h c4
      rw [if_pos c4] at hq
      have q9 := hq _ rfl
      exact q9 h
    · have h := And.right h c4
      rw [if_neg c4] at hq
      refine And.intro (fun c5 => ?_) (fun c5 => ?_)
      · have h := And.left h c5
        rw [if_pos c5] at hq
        have q9 := hq _ rfl
        exact q9 h
      · have h := And.right h c5
        rw [if_neg c5] at hq
        refine ae ?_
        have h := h _ rfl
        have q9 := hq _ rfl
        exact q9 h
theorem du_X8_digitHere {P Q : Int32 -> Prop} {qJ rX : Int32} {qM : Nat -> Int32} (h : wp_X8_digitHere P qJ rX qM) (hq : P (aC7 qJ rX qM) -> Q (aC7 qJ rX qM)) : wp_X8_digitHere Q qJ rX qM := dt_X8_digitHere h (fun o eo => by rw [eo]; exact hq)
noncomputable def aVj (qJ rX : Int32) : Int32 := if rX <= qJ then qJ else (qJ + 1)
set_option maxHeartbeats 200000 in
set_option maxRecDepth 10000 in
theorem dt_X8_skip {P Q : Int32 -> Prop} {qJ rX : Int32} (h : wp_X8_skip P qJ rX) (hq : ∀ o : Int32, o = aVj qJ rX -> P o -> Q o) : wp_X8_skip Q qJ rX := by
  rw [aVj] at hq
  refine And.intro (fun c1 => ?_) (fun c1 => ?_)
  · have h := And.left h c1
    rw [if_pos c1] at hq
    have q9 := hq _ rfl
    exact q9 h
  · have h := And.right h c1
    rw [if_neg c1] at hq
    refine ae ?_
    have h := h _ rfl
    have q9 := hq _ rfl
    exact q9 h
theorem du_X8_skip {P Q : Int32 -> Prop} {qJ rX : Int32} (h : wp_X8_skip P qJ rX) (hq : P (aVj qJ rX) -> Q (aVj qJ rX)) : wp_X8_skip Q qJ rX := dt_X8_skip h (fun o eo => by rw [eo]; exact hq)
noncomputable def fs_X8_readNumber_18 {R : Type} (po : Int32 -> Int32 -> R) (rX : Int32) (qM : Nat -> Int32) (nx : Int32 -> Int32 -> Int32 -> Int32 -> R) (x1 x2 x3 qJ : Int32) : R := if x1 <= x3 then (po x2 qJ) else (if (aC7 qJ rX qM) = (-1) then (po x2 qJ) else (nx x1 ((x2 * 10) + (aC7 qJ rX qM)) (x3 + 1) (aVj qJ rX)))
set_option maxHeartbeats 200000 in
set_option maxRecDepth 10000 in
theorem dl_X8_readNumber_18 {P Q : Int32 -> Int32 -> Prop} {rX : Int32} {qM : Nat -> Int32} {R : Type} {po : Int32 -> Int32 -> R} {d : Int32 -> Int32 -> Int32 -> Int32 -> R} : ∀ (n m : Nat) (x1 x2 x3 qJ : Int32), 0 <= Int32.toInt x3 /\ Int32.toInt x3 <= 3 /\ Int32.toInt x1 <= 3 -> 3 - Int32.toInt x3 < (m : Int) -> wb_X8_readNumber_18 P rX qM n x1 x2 x3 qJ -> (∀ (b0 b1 : Int32), po b0 b1 = flp (fs_X8_readNumber_18 po rX qM) d m x1 x2 x3 qJ -> P b0 b1 -> Q b0 b1) -> wb_X8_readNumber_18 Q rX qM n x1 x2 x3 qJ := by
  have l1 : Int32.toInt (1 : Int32) = 1 := by decide
  intro n
  induction n with
  | zero => intro m x1 x2 x3 qJ hv hm h hq; exact False.elim h
  | succ n ih =>
    intro m x1 x2 x3 qJ hv hm h hq
    cases m with
    | zero => exfalso; omega
    | succ m =>
      rw [flp_s, fs_X8_readNumber_18] at hq
      have h : ws_X8_readNumber_18 P (wb_X8_readNumber_18 P rX qM n) rX qM x1 x2 x3 qJ := h
      show ws_X8_readNumber_18 Q (wb_X8_readNumber_18 Q rX qM n) rX qM x1 x2 x3 qJ
      unfold ws_X8_readNumber_18 at h ⊢
      refine And.intro (fun c1 => ?_) (fun c1 => ?_)
      · have h := And.left h c1
        rw [if_pos c1] at hq
        have dc1 := (aAO _ _).mp c1
        exact hq _ _ rfl h
      · have h := And.right h c1
        rw [if_neg c1] at hq
        have dc1 := mt (aAO _ _).mpr c1
        refine du_X8_digitHere h ?_
        intro h
        refine And.intro (fun c2 => ?_) (fun c2 => ?_)
        · have h := And.left h c2
          rw [if_neg c2] at hq
          have dc2 := mt (zJ _ _).mpr c2
          refine ae ?_
          have h := h _ rfl
          refine ae ?_
          have h := h _ rfl
          refine du_X8_skip h ?_
          intro h
          refine ae ?_
          have h := h _ rfl
          have f9 := aAD x3 1 (by omega)
          exact ih m _ _ _ _ (by omega) (by omega) h hq
        · have h := And.right h c2
          rw [if_pos c2] at hq
          have dc2 := (zJ _ _).mp c2
          exact hq _ _ rfl h
noncomputable def aCW (p0 qJ rX : Int32) (qM : Nat -> Int32) : Int32 × Int32 := if (aC7 qJ rX qM) = (-1) then ((-1), qJ) else (flp (fs_X8_readNumber_18 (fun o0 o1 => (o0, o1)) rX qM) (fun _ _ _ _ => (0, 0)) 4 p0 (aC7 qJ rX qM) 1 (aVj qJ rX))
set_option maxHeartbeats 200000 in
set_option maxRecDepth 10000 in
theorem dt_X8_readNumber {P Q : Int32 -> Int32 -> Prop} {p0 qJ rX : Int32} {qM : Nat -> Int32} (hy0 : Int32.toInt p0 <= 3) (h : aMm P p0 qJ rX qM) (hq : ∀ o : Int32 × Int32, o = aCW p0 qJ rX qM -> P o.1 o.2 -> Q o.1 o.2) : aMm Q p0 qJ rX qM := by
  rw [aCW] at hq
  refine du_X8_digitHere h ?_
  intro h
  refine And.intro (fun c1 => ?_) (fun c1 => ?_)
  · have h := And.left h c1
    rw [if_neg c1] at hq
    refine du_X8_skip h ?_
    intro h
    obtain ⟨n2, h⟩ := h
    exact ⟨n2, dl_X8_readNumber_18 n2 4 _ _ _ _ ⟨by decide, by decide, hy0⟩ (by decide) h (fun b0 b1 e9 h9 => hq (b0, b1) e9 h9)⟩
  · have h := And.right h c1
    rw [if_pos c1] at hq
    have q9 := hq _ rfl
    dsimp only at q9
    exact q9 h
theorem aUE {P Q : Int32 -> Int32 -> Prop} {p0 qJ rX : Int32} {qM : Nat -> Int32} (hy0 : Int32.toInt p0 <= 3) (h : aMm P p0 qJ rX qM) (hq : P (aCW p0 qJ rX qM).1 (aCW p0 qJ rX qM).2 -> Q (aCW p0 qJ rX qM).1 (aCW p0 qJ rX qM).2) : aMm Q p0 qJ rX qM := dt_X8_readNumber hy0 h (fun o eo => by rw [eo]; exact hq)
noncomputable def aE7 (qJ rX : Int32) (qM : Nat -> Int32) : Int32 := if rX <= qJ then (-1) else (qM qJ.toNatClampNeg)
set_option maxHeartbeats 200000 in
set_option maxRecDepth 10000 in
theorem dt_X8_here {P Q : Int32 -> Prop} {qJ rX : Int32} {qM : Nat -> Int32} (h : wp_X8_here P qJ rX qM) (hq : ∀ o : Int32, o = aE7 qJ rX qM -> P o -> Q o) : wp_X8_here Q qJ rX qM := by
  rw [aE7] at hq
  refine And.intro (fun c1 => ?_) (fun c1 => ?_)
  · have h := And.left h c1
    rw [if_pos c1] at hq
    have q9 := hq _ rfl
    exact q9 h
  · have h := And.right h c1
    rw [if_neg c1] at hq
    refine And.intro (And.left h) ?_
    have h := And.right h
    refine ae ?_
    have h := h _ rfl
    have q9 := hq _ rfl
    exact q9 h
theorem du_X8_here {P Q : Int32 -> Prop} {qJ rX : Int32} {qM : Nat -> Int32} (h : wp_X8_here P qJ rX qM) (hq : P (aE7 qJ rX qM) -> Q (aE7 qJ rX qM)) : wp_X8_here Q qJ rX qM := dt_X8_here h (fun o eo => by rw [eo]; exact hq)
noncomputable def aGm (p0 qJ rX : Int32) (qM : Nat -> Int32) : Int32 × Int32 := if (aE7 qJ rX qM) = p0 then (1, (qJ + 1)) else (0, qJ)
set_option maxHeartbeats 200000 in
set_option maxRecDepth 10000 in
theorem dt_X8_take {P Q : Int32 -> Int32 -> Prop} {p0 qJ rX : Int32} {qM : Nat -> Int32} (h : wp_X8_take P p0 qJ rX qM) (hq : ∀ o : Int32 × Int32, o = aGm p0 qJ rX qM -> P o.1 o.2 -> Q o.1 o.2) : wp_X8_take Q p0 qJ rX qM := by
  rw [aGm] at hq
  refine du_X8_here h ?_
  intro h
  refine And.intro (fun c1 => ?_) (fun c1 => ?_)
  · have h := And.left h c1
    rw [if_pos c1] at hq
    refine ae ?_
    have h := h _ rfl
    have q9 := hq _ rfl
    dsimp only at q9
    exact q9 h
  · have h := And.right h c1
    rw [if_neg c1] at hq
    have q9 := hq _ rfl
    dsimp only at q9
    exact q9 h
theorem du_X8_take {P Q : Int32 -> Int32 -> Prop} {p0 qJ rX : Int32} {qM : Nat -> Int32} (h : wp_X8_take P p0 qJ rX qM) (hq : P (aGm p0 qJ rX qM).1 (aGm p0 qJ rX qM).2 -> Q (aGm p0 qJ rX qM).1 (aGm p0 qJ rX qM).2) : wp_X8_take Q p0 qJ rX qM := dt_X8_take h (fun o eo => by rw [eo]; exact hq)
noncomputable def aJ0 (p0 qL qJ rX : Int32) : Int32 × Int32 := (0, (if p0 < qL then p0 else qL))
set_option maxHeartbeats 200000 in
set_option maxRecDepth 10000 in
theorem dt_X8_open {P Q : Int32 -> Int32 -> Prop} {p0 qL qJ rX : Int32} (h : wp_X8_open P p0 qL qJ rX) (hq : ∀ o : Int32 × Int32, o = aJ0 p0 qL qJ rX -> P o.1 o.2 -> Q o.1 o.2) : wp_X8_open Q p0 qL qJ rX := by
  rw [aJ0] at hq
  refine ae ?_
  have h := h _ rfl
  have q9 := hq _ rfl
  dsimp only at q9
  exact q9 h
theorem du_X8_open {P Q : Int32 -> Int32 -> Prop} {p0 qL qJ rX : Int32} (h : wp_X8_open P p0 qL qJ rX) (hq : P (aJ0 p0 qL qJ rX).1 (aJ0 p0 qL qJ rX).2 -> Q (aJ0 p0 qL qJ rX).1 (aJ0 p0 qL qJ rX).2) : wp_X8_open Q p0 qL qJ rX := dt_X8_open h (fun o eo => by rw [eo]; exact hq)
noncomputable def F_X8_isThrough (qL qJ : Int32) : Int32 := if qJ = qL then 1 else 0
set_option maxHeartbeats 200000 in
set_option maxRecDepth 10000 in
theorem dt_X8_isThrough {P Q : Int32 -> Prop} {qL qJ : Int32} (h : bCL P qL qJ) (hq : ∀ o : Int32, o = F_X8_isThrough qL qJ -> P o -> Q o) : bCL Q qL qJ := by
  rw [F_X8_isThrough] at hq
  refine And.intro (fun c1 => ?_) (fun c1 => ?_)
  · have h := And.left h c1
    rw [if_neg c1] at hq
    have q9 := hq _ rfl
    exact q9 h
  · have h := And.right h c1
    rw [if_pos c1] at hq
    have q9 := hq _ rfl
    exact q9 h
theorem du_X8_isThrough {P Q : Int32 -> Prop} {qL qJ : Int32} (h : bCL P qL qJ) (hq : P (F_X8_isThrough qL qJ) -> Q (F_X8_isThrough qL qJ)) : bCL Q qL qJ := dt_X8_isThrough h (fun o eo => by rw [eo]; exact hq)
noncomputable def F_X8_clear (qL : Int32) : Int32 := 0
set_option maxHeartbeats 200000 in
set_option maxRecDepth 10000 in
theorem dt_X8_clear {P Q : Int32 -> Prop} {qL : Int32} (h : wp_X8_clear P qL) (hq : ∀ o : Int32, o = F_X8_clear qL -> P o -> Q o) : wp_X8_clear Q qL := by
  rw [F_X8_clear] at hq
  have q9 := hq _ rfl
  exact q9 h
theorem aFm {P Q : Int32 -> Prop} {qL : Int32} (h : wp_X8_clear P qL) (hq : P (F_X8_clear qL) -> Q (F_X8_clear qL)) : wp_X8_clear Q qL := dt_X8_clear h (fun o eo => by rw [eo]; exact hq)
noncomputable def F_X8_wrong (qJ : Int32) : Int32 := ((-1) - qJ)
set_option maxHeartbeats 200000 in
set_option maxRecDepth 10000 in
theorem dt_X8_wrong {P Q : Int32 -> Prop} {qJ : Int32} (h : wp_X8_wrong P qJ) (hq : ∀ o : Int32, o = F_X8_wrong qJ -> P o -> Q o) : wp_X8_wrong Q qJ := by
  rw [F_X8_wrong] at hq
  have q9 := hq _ rfl
  exact q9 h
theorem du_X8_wrong {P Q : Int32 -> Prop} {qJ : Int32} (h : wp_X8_wrong P qJ) (hq : P (F_X8_wrong qJ) -> Q (F_X8_wrong qJ)) : wp_X8_wrong Q qJ := dt_X8_wrong h (fun o eo => by rw [eo]; exact hq)
noncomputable def aHt (p3 qJ rX : Int32) (qM uU gF : Nat -> Int32) : Int32 × Int32 × (Nat -> Int32) × (Nat -> Int32) := if (aCW 2 qJ rX qM).1 = (-1) then (0, (aCW 2 qJ rX qM).2, uU, gF) else (if (aGm 44 (aCW 2 qJ rX qM).2 rX qM).1 = 0 then (0, (aGm 44 (aCW 2 qJ rX qM).2 rX qM).2, uU, gF) else (if (aCW 2 (aGm 44 (aCW 2 qJ rX qM).2 rX qM).2 rX qM).1 = (-1) then (0, (aCW 2 (aGm 44 (aCW 2 qJ rX qM).2 rX qM).2 rX qM).2, uU, gF) else (if p3 < 0 then (0, (aCW 2 (aGm 44 (aCW 2 qJ rX qM).2 rX qM).2 rX qM).2, uU, gF) else (if 16 <= p3 then (0, (aCW 2 (aGm 44 (aCW 2 qJ rX qM).2 rX qM).2 rX qM).2, uU, gF) else (if p3 < 16 then (1, (aCW 2 (aGm 44 (aCW 2 qJ rX qM).2 rX qM).2 rX qM).2, (upd uU p3.toNatClampNeg (aCW 2 qJ rX qM).1), (upd gF p3.toNatClampNeg (aCW 2 (aGm 44 (aCW 2 qJ rX qM).2 rX qM).2 rX qM).1)) else (0, (aCW 2 (aGm 44 (aCW 2 qJ rX qM).2 rX qM).2 rX qM).2, uU, gF))))))
set_option maxHeartbeats 200000 in
set_option maxRecDepth 10000 in
theorem dt_X3_readPair {P Q : Int32 -> Int32 -> (Nat -> Int32) -> (Nat -> Int32) -> Prop} {p3 qJ rX : Int32} {qM uU gF : Nat -> Int32} (h : wp_X3_readPair P p3 qJ rX qM uU gF) (hq : ∀ o : Int32 × Int32 × (Nat -> Int32) × (Nat -> Int32), o = aHt p3 qJ rX qM uU gF -> P o.1 o.2.1 o.2.2.1 o.2.2.2 -> Q o.1 o.2.1 o.2.2.1 o.2.2.2) : wp_X3_readPair Q p3 qJ rX qM uU gF := by
  rw [aHt] at hq
  refine aUE (by decide) h ?_
  intro h
  refine And.intro (fun c1 => ?_) (fun c1 => ?_)
  · have h := And.left h c1
    rw [if_pos c1] at hq
    have q9 := hq _ rfl
    dsimp only at q9
    exact q9 h
  · have h := And.right h c1
    rw [if_neg c1] at hq
    refine du_X8_take h ?_
    intro h
    refine And.intro (fun c2 => ?_) (fun c2 => ?_)
    · have h := And.left h c2
      rw [if_neg c2] at hq
      refine aUE (by decide) h ?_
      intro h
      refine And.intro (fun c3 => ?_) (fun c3 => ?_)
      · have h := And.left h c3
        rw [if_pos c3] at hq
        have q9 := hq _ rfl
        dsimp only at q9
        exact q9 h
      · have h := And.right h c3
        rw [if_neg c3] at hq
        refine And.intro (fun c4 => ?_) (fun c4 => ?_)
        · have h := And.left h c4
          rw [if_pos c4] at hq
          have q9 := hq _ rfl
          dsimp only at q9
          exact q9 h
        · have h := And.right h c4
          rw [if_neg c4] at hq
          refine And.intro (fun c5 => ?_) (fun c5 => ?_)
          · have h := And.left h c5
            rw [if_pos c5] at hq
            have q9 := hq _ rfl
            dsimp only at q9
            exact q9 h
          · have h := And.right h c5
            rw [if_neg c5] at hq
            refine And.intro (fun c6 => ?_) (fun c6 => ?_)
            · have h := And.left h c6
              rw [if_pos c6] at hq
              refine And.intro (And.left h) ?_
              have h := And.right h
              refine And.intro (And.left h) ?_
              have h := And.right h
              have q9 := hq _ rfl
              dsimp only at q9
              exact q9 h
            · have h := And.right h c6
              rw [if_neg c6] at hq
              have q9 := hq _ rfl
              dsimp only at q9
              exact q9 h
    · have h := And.right h c2
      rw [if_pos c2] at hq
      have q9 := hq _ rfl
      dsimp only at q9
      exact q9 h
theorem du_X3_readPair {P Q : Int32 -> Int32 -> (Nat -> Int32) -> (Nat -> Int32) -> Prop} {p3 qJ rX : Int32} {qM uU gF : Nat -> Int32} (h : wp_X3_readPair P p3 qJ rX qM uU gF) (hq : P (aHt p3 qJ rX qM uU gF).1 (aHt p3 qJ rX qM uU gF).2.1 (aHt p3 qJ rX qM uU gF).2.2.1 (aHt p3 qJ rX qM uU gF).2.2.2 -> Q (aHt p3 qJ rX qM uU gF).1 (aHt p3 qJ rX qM uU gF).2.1 (aHt p3 qJ rX qM uU gF).2.2.1 (aHt p3 qJ rX qM uU gF).2.2.2) : wp_X3_readPair Q p3 qJ rX qM uU gF := dt_X3_readPair h (fun o eo => by rw [eo]; exact hq)
noncomputable def aRk {R : Type} (po : Int32 -> Int32 -> Int32 -> (Nat -> Int32) -> (Nat -> Int32) -> (Nat -> Int32) -> (Nat -> Int32) -> R) (rX : Int32) (qM : Nat -> Int32) (x2 k1 k2 qJ bJ : Int32) (uU gF pL qF : Nat -> Int32) : R := if ((upd qF k1.toNatClampNeg k2) x2.toNatClampNeg) = (-1) then (po 0 qJ bJ uU gF pL (upd qF k1.toNatClampNeg k2)) else (po 1 qJ (bJ + 1) uU gF pL (upd qF k1.toNatClampNeg k2))
noncomputable def aUo {R : Type} (po : Int32 -> Int32 -> Int32 -> (Nat -> Int32) -> (Nat -> Int32) -> (Nat -> Int32) -> (Nat -> Int32) -> R) (rX : Int32) (qM : Nat -> Int32) (x2 k1 k2 qJ bJ : Int32) (uU gF pL qF : Nat -> Int32) : R := if ((upd pL k1.toNatClampNeg k2) x2.toNatClampNeg) = (-1) then (po 0 qJ bJ uU gF (upd pL k1.toNatClampNeg k2) qF) else (if (aGm 64 qJ rX qM).1 = 0 then (aRk po rX qM x2 x2 0 ((aGm 64 qJ rX qM).2) bJ uU gF (upd pL k1.toNatClampNeg k2) qF) else (aRk po rX qM x2 x2 ((aCW 1 (aGm 64 qJ rX qM).2 rX qM).1) ((aCW 1 (aGm 64 qJ rX qM).2 rX qM).2) bJ uU gF (upd pL k1.toNatClampNeg k2) qF))
noncomputable def aIU (qJ rX : Int32) (qM : Nat -> Int32) (bJ : Int32) (uU gF pL qF : Nat -> Int32) : Int32 × Int32 × Int32 × (Nat -> Int32) × (Nat -> Int32) × (Nat -> Int32) × (Nat -> Int32) := if (aHt bJ qJ rX qM uU gF).1 = 0 then (0, (aHt bJ qJ rX qM uU gF).2.1, bJ, (aHt bJ qJ rX qM uU gF).2.2.1, (aHt bJ qJ rX qM uU gF).2.2.2, pL, qF) else (if (aGm 42 (aHt bJ qJ rX qM uU gF).2.1 rX qM).1 = 0 then (aUo (fun o0 o1 o2 o3 o4 o5 o6 => (o0, o1, o2, o3, o4, o5, o6)) rX qM bJ bJ 1 ((aGm 42 (aHt bJ qJ rX qM uU gF).2.1 rX qM).2) bJ ((aHt bJ qJ rX qM uU gF).2.2.1) ((aHt bJ qJ rX qM uU gF).2.2.2) pL qF) else (aUo (fun o0 o1 o2 o3 o4 o5 o6 => (o0, o1, o2, o3, o4, o5, o6)) rX qM bJ bJ ((aCW 1 (aGm 42 (aHt bJ qJ rX qM uU gF).2.1 rX qM).2 rX qM).1) ((aCW 1 (aGm 42 (aHt bJ qJ rX qM uU gF).2.1 rX qM).2 rX qM).2) bJ ((aHt bJ qJ rX qM uU gF).2.2.1) ((aHt bJ qJ rX qM uU gF).2.2.2) pL qF))
set_option maxHeartbeats 200000 in
set_option maxRecDepth 10000 in
theorem dt_X3_readFruit {P Q : Int32 -> Int32 -> Int32 -> (Nat -> Int32) -> (Nat -> Int32) -> (Nat -> Int32) -> (Nat -> Int32) -> Prop} {qJ rX : Int32} {qM : Nat -> Int32} {bJ : Int32} {uU gF pL qF : Nat -> Int32} (h : wp_X3_readFruit P qJ rX qM bJ uU gF pL qF) (hq : ∀ o : Int32 × Int32 × Int32 × (Nat -> Int32) × (Nat -> Int32) × (Nat -> Int32) × (Nat -> Int32), o = aIU qJ rX qM bJ uU gF pL qF -> P o.1 o.2.1 o.2.2.1 o.2.2.2.1 o.2.2.2.2.1 o.2.2.2.2.2.1 o.2.2.2.2.2.2 -> Q o.1 o.2.1 o.2.2.1 o.2.2.2.1 o.2.2.2.2.1 o.2.2.2.2.2.1 o.2.2.2.2.2.2) : wp_X3_readFruit Q qJ rX qM bJ uU gF pL qF := by
  rw [aIU] at hq
  refine du_X3_readPair h ?_
  intro h
  refine And.intro (fun c1 => ?_) (fun c1 => ?_)
  · have h := And.left h c1
    rw [if_neg c1] at hq
    refine du_X8_take h ?_
    intro h
    refine And.intro (fun c2 => ?_) (fun c2 => ?_)
    · have h := And.left h c2
      rw [if_pos c2] at hq
      rw [aUo] at hq
      unfold ws_X3_readFruit_46 at h ⊢
      refine And.intro (And.left h) ?_
      have h := And.right h
      refine And.intro (And.left h) ?_
      have h := And.right h
      refine ae ?_
      have h := h _ rfl
      refine And.intro (fun c3 => ?_) (fun c3 => ?_)
      · have h := And.left h c3
        rw [if_neg c3] at hq
        refine du_X8_take h ?_
        intro h
        refine And.intro (fun c4 => ?_) (fun c4 => ?_)
        · have h := And.left h c4
          rw [if_pos c4] at hq
          rw [aRk] at hq
          unfold aYi at h ⊢
          refine And.intro (And.left h) ?_
          have h := And.right h
          refine And.intro (And.left h) ?_
          have h := And.right h
          refine ae ?_
          have h := h _ rfl
          refine And.intro (fun c5 => ?_) (fun c5 => ?_)
          · have h := And.left h c5
            rw [if_neg c5] at hq
            refine ae ?_
            have h := h _ rfl
            have q9 := hq _ rfl
            dsimp only at q9
            exact q9 h
          · have h := And.right h c5
            rw [if_pos c5] at hq
            have q9 := hq _ rfl
            dsimp only at q9
            exact q9 h
        · have h := And.right h c4
          rw [if_neg c4] at hq
          refine aUE (by decide) h ?_
          intro h
          rw [aRk] at hq
          unfold aYi at h ⊢
          refine And.intro (And.left h) ?_
          have h := And.right h
          refine And.intro (And.left h) ?_
          have h := And.right h
          refine ae ?_
          have h := h _ rfl
          refine And.intro (fun c6 => ?_) (fun c6 => ?_)
          · have h := And.left h c6
            rw [if_neg c6] at hq
            refine ae ?_
            have h := h _ rfl
            have q9 := hq _ rfl
            dsimp only at q9
            exact q9 h
          · have h := And.right h c6
            rw [if_pos c6] at hq
            have q9 := hq _ rfl
            dsimp only at q9
            exact q9 h
      · have h := And.right h c3
        rw [if_pos c3] at hq
        have q9 := hq _ rfl
        dsimp only at q9
        exact q9 h
    · have h := And.right h c2
      rw [if_neg c2] at hq
      refine aUE (by decide) h ?_
      intro h
      rw [aUo] at hq
      unfold ws_X3_readFruit_46 at h ⊢
      refine And.intro (And.left h) ?_
      have h := And.right h
      refine And.intro (And.left h) ?_
      have h := And.right h
      refine ae ?_
      have h := h _ rfl
      refine And.intro (fun c7 => ?_) (fun c7 => ?_)
      · have h := And.left h c7
        rw [if_neg c7] at hq
        refine du_X8_take h ?_
        intro h
        refine And.intro (fun c8 => ?_) (fun c8 => ?_)
        · have h := And.left h c8
          rw [if_pos c8] at hq
          rw [aRk] at hq
          unfold aYi at h ⊢
          refine And.intro (And.left h) ?_
          have h := And.right h
          refine And.intro (And.left h) ?_
          have h := And.right h
          refine ae ?_
          have h := h _ rfl
          refine And.intro (fun c9 => ?_) (fun c9 => ?_)
          · have h := And.left h c9
            rw [if_neg c9] at hq
            refine ae ?_
            have h := h _ rfl
            have q9 := hq _ rfl
            dsimp only at q9
            exact q9 h
          · have h := And.right h c9
            rw [if_pos c9] at hq
            have q9 := hq _ rfl
            dsimp only at q9
            exact q9 h
        · have h := And.right h c8
          rw [if_neg c8] at hq
          refine aUE (by decide) h ?_
          intro h
          rw [aRk] at hq
          unfold aYi at h ⊢
          refine And.intro (And.left h) ?_
          have h := And.right h
          refine And.intro (And.left h) ?_
          have h := And.right h
          refine ae ?_
          have h := h _ rfl
          refine And.intro (fun c10 => ?_) (fun c10 => ?_)
          · have h := And.left h c10
            rw [if_neg c10] at hq
            refine ae ?_
            have h := h _ rfl
            have q9 := hq _ rfl
            dsimp only at q9
            exact q9 h
          · have h := And.right h c10
            rw [if_pos c10] at hq
            have q9 := hq _ rfl
            dsimp only at q9
            exact q9 h
      · have h := And.right h c7
        rw [if_pos c7] at hq
        have q9 := hq _ rfl
        dsimp only at q9
        exact q9 h
  · have h := And.right h c1
    rw [if_pos c1] at hq
    have q9 := hq _ rfl
    dsimp only at q9
    exact q9 h
theorem du_X3_readFruit {P Q : Int32 -> Int32 -> Int32 -> (Nat -> Int32) -> (Nat -> Int32) -> (Nat -> Int32) -> (Nat -> Int32) -> Prop} {qJ rX : Int32} {qM : Nat -> Int32} {bJ : Int32} {uU gF pL qF : Nat -> Int32} (h : wp_X3_readFruit P qJ rX qM bJ uU gF pL qF) (hq : P (aIU qJ rX qM bJ uU gF pL qF).1 (aIU qJ rX qM bJ uU gF pL qF).2.1 (aIU qJ rX qM bJ uU gF pL qF).2.2.1 (aIU qJ rX qM bJ uU gF pL qF).2.2.2.1 (aIU qJ rX qM bJ uU gF pL qF).2.2.2.2.1 (aIU qJ rX qM bJ uU gF pL qF).2.2.2.2.2.1 (aIU qJ rX qM bJ uU gF pL qF).2.2.2.2.2.2 -> Q (aIU qJ rX qM bJ uU gF pL qF).1 (aIU qJ rX qM bJ uU gF pL qF).2.1 (aIU qJ rX qM bJ uU gF pL qF).2.2.1 (aIU qJ rX qM bJ uU gF pL qF).2.2.2.1 (aIU qJ rX qM bJ uU gF pL qF).2.2.2.2.1 (aIU qJ rX qM bJ uU gF pL qF).2.2.2.2.2.1 (aIU qJ rX qM bJ uU gF pL qF).2.2.2.2.2.2) : wp_X3_readFruit Q qJ rX qM bJ uU gF pL qF := dt_X3_readFruit h (fun o eo => by rw [eo]; exact hq)
noncomputable def aHL (p3 qJ rX : Int32) (qM mX oE : Nat -> Int32) : Int32 × Int32 × (Nat -> Int32) × (Nat -> Int32) := if (aCW 2 qJ rX qM).1 = (-1) then (0, (aCW 2 qJ rX qM).2, mX, oE) else (if (aGm 44 (aCW 2 qJ rX qM).2 rX qM).1 = 0 then (0, (aGm 44 (aCW 2 qJ rX qM).2 rX qM).2, mX, oE) else (if (aCW 2 (aGm 44 (aCW 2 qJ rX qM).2 rX qM).2 rX qM).1 = (-1) then (0, (aCW 2 (aGm 44 (aCW 2 qJ rX qM).2 rX qM).2 rX qM).2, mX, oE) else (if p3 < 0 then (0, (aCW 2 (aGm 44 (aCW 2 qJ rX qM).2 rX qM).2 rX qM).2, mX, oE) else (if 8 <= p3 then (0, (aCW 2 (aGm 44 (aCW 2 qJ rX qM).2 rX qM).2 rX qM).2, mX, oE) else (if p3 < 8 then (1, (aCW 2 (aGm 44 (aCW 2 qJ rX qM).2 rX qM).2 rX qM).2, (upd mX p3.toNatClampNeg (aCW 2 qJ rX qM).1), (upd oE p3.toNatClampNeg (aCW 2 (aGm 44 (aCW 2 qJ rX qM).2 rX qM).2 rX qM).1)) else (0, (aCW 2 (aGm 44 (aCW 2 qJ rX qM).2 rX qM).2 rX qM).2, mX, oE))))))
set_option maxHeartbeats 200000 in
set_option maxRecDepth 10000 in
theorem dt_X3_readPair_b2 {P Q : Int32 -> Int32 -> (Nat -> Int32) -> (Nat -> Int32) -> Prop} {p3 qJ rX : Int32} {qM mX oE : Nat -> Int32} (h : wp_X3_readPair_b2 P p3 qJ rX qM mX oE) (hq : ∀ o : Int32 × Int32 × (Nat -> Int32) × (Nat -> Int32), o = aHL p3 qJ rX qM mX oE -> P o.1 o.2.1 o.2.2.1 o.2.2.2 -> Q o.1 o.2.1 o.2.2.1 o.2.2.2) : wp_X3_readPair_b2 Q p3 qJ rX qM mX oE := by
  rw [aHL] at hq
  refine aUE (by decide) h ?_
  intro h
  refine And.intro (fun c1 => ?_) (fun c1 => ?_)
  · have h := And.left h c1
    rw [if_pos c1] at hq
    have q9 := hq _ rfl
    dsimp only at q9
    exact q9 h
  · have h := And.right h c1
    rw [if_neg c1] at hq
    refine du_X8_take h ?_
    intro h
    refine And.intro (fun c2 => ?_) (fun c2 => ?_)
    · have h := And.left h c2
      rw [if_neg c2] at hq
      refine aUE (by decide) h ?_
      intro h
      refine And.intro (fun c3 => ?_) (fun c3 => ?_)
      · have h := And.left h c3
        rw [if_pos c3] at hq
        have q9 := hq _ rfl
        dsimp only at q9
        exact q9 h
      · have h := And.right h c3
        rw [if_neg c3] at hq
        refine And.intro (fun c4 => ?_) (fun c4 => ?_)
        · have h := And.left h c4
          rw [if_pos c4] at hq
          have q9 := hq _ rfl
          dsimp only at q9
          exact q9 h
        · have h := And.right h c4
          rw [if_neg c4] at hq
          refine And.intro (fun c5 => ?_) (fun c5 => ?_)
          · have h := And.left h c5
            rw [if_pos c5] at hq
            have q9 := hq _ rfl
            dsimp only at q9
            exact q9 h
          · have h := And.right h c5
            rw [if_neg c5] at hq
            refine And.intro (fun c6 => ?_) (fun c6 => ?_)
            · have h := And.left h c6
              rw [if_pos c6] at hq
              refine And.intro (And.left h) ?_
              have h := And.right h
              refine And.intro (And.left h) ?_
              have h := And.right h
              have q9 := hq _ rfl
              dsimp only at q9
              exact q9 h
            · have h := And.right h c6
              rw [if_neg c6] at hq
              have q9 := hq _ rfl
              dsimp only at q9
              exact q9 h
    · have h := And.right h c2
      rw [if_pos c2] at hq
      have q9 := hq _ rfl
      dsimp only at q9
      exact q9 h
theorem du_X3_readPair_b2 {P Q : Int32 -> Int32 -> (Nat -> Int32) -> (Nat -> Int32) -> Prop} {p3 qJ rX : Int32} {qM mX oE : Nat -> Int32} (h : wp_X3_readPair_b2 P p3 qJ rX qM mX oE) (hq : P (aHL p3 qJ rX qM mX oE).1 (aHL p3 qJ rX qM mX oE).2.1 (aHL p3 qJ rX qM mX oE).2.2.1 (aHL p3 qJ rX qM mX oE).2.2.2 -> Q (aHL p3 qJ rX qM mX oE).1 (aHL p3 qJ rX qM mX oE).2.1 (aHL p3 qJ rX qM mX oE).2.2.1 (aHL p3 qJ rX qM mX oE).2.2.2) : wp_X3_readPair_b2 Q p3 qJ rX qM mX oE := dt_X3_readPair_b2 h (fun o eo => by rw [eo]; exact hq)
noncomputable def aJG (qJ rX : Int32) (qM : Nat -> Int32) (aI : Int32) (mX oE : Nat -> Int32) : Int32 × Int32 × Int32 × (Nat -> Int32) × (Nat -> Int32) := if (aHL aI qJ rX qM mX oE).1 = 0 then (0, (aHL aI qJ rX qM mX oE).2.1, aI, (aHL aI qJ rX qM mX oE).2.2.1, (aHL aI qJ rX qM mX oE).2.2.2) else (1, (aHL aI qJ rX qM mX oE).2.1, (aI + 1), (aHL aI qJ rX qM mX oE).2.2.1, (aHL aI qJ rX qM mX oE).2.2.2)
set_option maxHeartbeats 200000 in
set_option maxRecDepth 10000 in
theorem dt_X3_readStanding {P Q : Int32 -> Int32 -> Int32 -> (Nat -> Int32) -> (Nat -> Int32) -> Prop} {qJ rX : Int32} {qM : Nat -> Int32} {aI : Int32} {mX oE : Nat -> Int32} (h : wp_X3_readStanding P qJ rX qM aI mX oE) (hq : ∀ o : Int32 × Int32 × Int32 × (Nat -> Int32) × (Nat -> Int32), o = aJG qJ rX qM aI mX oE -> P o.1 o.2.1 o.2.2.1 o.2.2.2.1 o.2.2.2.2 -> Q o.1 o.2.1 o.2.2.1 o.2.2.2.1 o.2.2.2.2) : wp_X3_readStanding Q qJ rX qM aI mX oE := by
  rw [aJG] at hq
  refine du_X3_readPair_b2 h ?_
  intro h
  refine And.intro (fun c1 => ?_) (fun c1 => ?_)
  · have h := And.left h c1
    rw [if_neg c1] at hq
    refine ae ?_
    have h := h _ rfl
    have q9 := hq _ rfl
    dsimp only at q9
    exact q9 h
  · have h := And.right h c1
    rw [if_pos c1] at hq
    have q9 := hq _ rfl
    dsimp only at q9
    exact q9 h
theorem du_X3_readStanding {P Q : Int32 -> Int32 -> Int32 -> (Nat -> Int32) -> (Nat -> Int32) -> Prop} {qJ rX : Int32} {qM : Nat -> Int32} {aI : Int32} {mX oE : Nat -> Int32} (h : wp_X3_readStanding P qJ rX qM aI mX oE) (hq : P (aJG qJ rX qM aI mX oE).1 (aJG qJ rX qM aI mX oE).2.1 (aJG qJ rX qM aI mX oE).2.2.1 (aJG qJ rX qM aI mX oE).2.2.2.1 (aJG qJ rX qM aI mX oE).2.2.2.2 -> Q (aJG qJ rX qM aI mX oE).1 (aJG qJ rX qM aI mX oE).2.1 (aJG qJ rX qM aI mX oE).2.2.1 (aJG qJ rX qM aI mX oE).2.2.2.1 (aJG qJ rX qM aI mX oE).2.2.2.2) : wp_X3_readStanding Q qJ rX qM aI mX oE := dt_X3_readStanding h (fun o eo => by rw [eo]; exact hq)
noncomputable def j_X3_readLine_28 {R : Type} (po : Int32 -> Int32 -> Int32 -> Int32 -> (Nat -> Int32) -> (Nat -> Int32) -> (Nat -> Int32) -> (Nat -> Int32) -> (Nat -> Int32) -> (Nat -> Int32) -> R) (rX : Int32) (qM : Nat -> Int32) (qJ bJ aI : Int32) (uU gF pL qF mX oE : Nat -> Int32) : R := if (aE7 qJ rX qM) = 115 then (if 8 <= aI then (po 0 qJ bJ aI uU gF pL qF mX oE) else (po ((aJG (aVj qJ rX) rX qM aI mX oE).1) ((aJG (aVj qJ rX) rX qM aI mX oE).2.1) bJ ((aJG (aVj qJ rX) rX qM aI mX oE).2.2.1) uU gF pL qF ((aJG (aVj qJ rX) rX qM aI mX oE).2.2.2.1) ((aJG (aVj qJ rX) rX qM aI mX oE).2.2.2.2))) else (po 0 qJ bJ aI uU gF pL qF mX oE)
noncomputable def aCs (qJ rX : Int32) (qM : Nat -> Int32) (bJ aI : Int32) (uU gF pL qF mX oE : Nat -> Int32) : Int32 × Int32 × Int32 × Int32 × (Nat -> Int32) × (Nat -> Int32) × (Nat -> Int32) × (Nat -> Int32) × (Nat -> Int32) × (Nat -> Int32) := if (aE7 qJ rX qM) = 102 then (if 16 <= bJ then (j_X3_readLine_28 (fun o0 o1 o2 o3 o4 o5 o6 o7 o8 o9 => (o0, o1, o2, o3, o4, o5, o6, o7, o8, o9)) rX qM qJ bJ aI uU gF pL qF mX oE) else ((aIU (aVj qJ rX) rX qM bJ uU gF pL qF).1, (aIU (aVj qJ rX) rX qM bJ uU gF pL qF).2.1, (aIU (aVj qJ rX) rX qM bJ uU gF pL qF).2.2.1, aI, (aIU (aVj qJ rX) rX qM bJ uU gF pL qF).2.2.2.1, (aIU (aVj qJ rX) rX qM bJ uU gF pL qF).2.2.2.2.1, (aIU (aVj qJ rX) rX qM bJ uU gF pL qF).2.2.2.2.2.1, (aIU (aVj qJ rX) rX qM bJ uU gF pL qF).2.2.2.2.2.2, mX, oE)) else (j_X3_readLine_28 (fun o0 o1 o2 o3 o4 o5 o6 o7 o8 o9 => (o0, o1, o2, o3, o4, o5, o6, o7, o8, o9)) rX qM qJ bJ aI uU gF pL qF mX oE)
set_option maxHeartbeats 200000 in
set_option maxRecDepth 10000 in
theorem dt_X3_readLine {P Q : Int32 -> Int32 -> Int32 -> Int32 -> (Nat -> Int32) -> (Nat -> Int32) -> (Nat -> Int32) -> (Nat -> Int32) -> (Nat -> Int32) -> (Nat -> Int32) -> Prop} {qJ rX : Int32} {qM : Nat -> Int32} {bJ aI : Int32} {uU gF pL qF mX oE : Nat -> Int32} (h : wp_X3_readLine P qJ rX qM bJ aI uU gF pL qF mX oE) (hq : ∀ o : Int32 × Int32 × Int32 × Int32 × (Nat -> Int32) × (Nat -> Int32) × (Nat -> Int32) × (Nat -> Int32) × (Nat -> Int32) × (Nat -> Int32), o = aCs qJ rX qM bJ aI uU gF pL qF mX oE -> P o.1 o.2.1 o.2.2.1 o.2.2.2.1 o.2.2.2.2.1 o.2.2.2.2.2.1 o.2.2.2.2.2.2.1 o.2.2.2.2.2.2.2.1 o.2.2.2.2.2.2.2.2.1 o.2.2.2.2.2.2.2.2.2 -> Q o.1 o.2.1 o.2.2.1 o.2.2.2.1 o.2.2.2.2.1 o.2.2.2.2.2.1 o.2.2.2.2.2.2.1 o.2.2.2.2.2.2.2.1 o.2.2.2.2.2.2.2.2.1 o.2.2.2.2.2.2.2.2.2) : wp_X3_readLine Q qJ rX qM bJ aI uU gF pL qF mX oE := by
  rw [aCs] at hq
  refine du_X8_here h ?_
  intro h
  refine And.intro (fun c1 => ?_) (fun c1 => ?_)
  · have h := And.left h c1
    rw [if_neg c1] at hq
    rw [j_X3_readLine_28] at hq
    unfold ws_X3_readLine_28 at h ⊢
    refine du_X8_here h ?_
    intro h
    refine And.intro (fun c2 => ?_) (fun c2 => ?_)
    · have h := And.left h c2
      rw [if_neg c2] at hq
      have q9 := hq _ rfl
      dsimp only at q9
      exact q9 h
    · have h := And.right h c2
      rw [if_pos c2] at hq
      refine And.intro (fun c3 => ?_) (fun c3 => ?_)
      · have h := And.left h c3
        rw [if_pos c3] at hq
        have q9 := hq _ rfl
        dsimp only at q9
        exact q9 h
      · have h := And.right h c3
        rw [if_neg c3] at hq
        refine du_X8_skip h ?_
        intro h
        refine du_X3_readStanding h ?_
        intro h
        refine And.intro (And.left h) ?_
        have h := And.right h
        have q9 := hq _ rfl
        dsimp only at q9
        exact q9 h
  · have h := And.right h c1
    rw [if_pos c1] at hq
    refine And.intro (fun c4 => ?_) (fun c4 => ?_)
    · have h := And.left h c4
      rw [if_pos c4] at hq
      rw [j_X3_readLine_28] at hq
      unfold ws_X3_readLine_28 at h ⊢
      refine du_X8_here h ?_
      intro h
      refine And.intro (fun c5 => ?_) (fun c5 => ?_)
      · have h := And.left h c5
        rw [if_neg c5] at hq
        have q9 := hq _ rfl
        dsimp only at q9
        exact q9 h
      · have h := And.right h c5
        rw [if_pos c5] at hq
        refine And.intro (fun c6 => ?_) (fun c6 => ?_)
        · have h := And.left h c6
          rw [if_pos c6] at hq
          have q9 := hq _ rfl
          dsimp only at q9
          exact q9 h
        · have h := And.right h c6
          rw [if_neg c6] at hq
          refine du_X8_skip h ?_
          intro h
          refine du_X3_readStanding h ?_
          intro h
          refine And.intro (And.left h) ?_
          have h := And.right h
          have q9 := hq _ rfl
          dsimp only at q9
          exact q9 h
    · have h := And.right h c4
      rw [if_neg c4] at hq
      refine du_X8_skip h ?_
      intro h
      refine du_X3_readFruit h ?_
      intro h
      refine And.intro (And.left h) ?_
      have h := And.right h
      have q9 := hq _ rfl
      dsimp only at q9
      exact q9 h
theorem du_X3_readLine {P Q : Int32 -> Int32 -> Int32 -> Int32 -> (Nat -> Int32) -> (Nat -> Int32) -> (Nat -> Int32) -> (Nat -> Int32) -> (Nat -> Int32) -> (Nat -> Int32) -> Prop} {qJ rX : Int32} {qM : Nat -> Int32} {bJ aI : Int32} {uU gF pL qF mX oE : Nat -> Int32} (h : wp_X3_readLine P qJ rX qM bJ aI uU gF pL qF mX oE) (hq : P (aCs qJ rX qM bJ aI uU gF pL qF mX oE).1 (aCs qJ rX qM bJ aI uU gF pL qF mX oE).2.1 (aCs qJ rX qM bJ aI uU gF pL qF mX oE).2.2.1 (aCs qJ rX qM bJ aI uU gF pL qF mX oE).2.2.2.1 (aCs qJ rX qM bJ aI uU gF pL qF mX oE).2.2.2.2.1 (aCs qJ rX qM bJ aI uU gF pL qF mX oE).2.2.2.2.2.1 (aCs qJ rX qM bJ aI uU gF pL qF mX oE).2.2.2.2.2.2.1 (aCs qJ rX qM bJ aI uU gF pL qF mX oE).2.2.2.2.2.2.2.1 (aCs qJ rX qM bJ aI uU gF pL qF mX oE).2.2.2.2.2.2.2.2.1 (aCs qJ rX qM bJ aI uU gF pL qF mX oE).2.2.2.2.2.2.2.2.2 -> Q (aCs qJ rX qM bJ aI uU gF pL qF mX oE).1 (aCs qJ rX qM bJ aI uU gF pL qF mX oE).2.1 (aCs qJ rX qM bJ aI uU gF pL qF mX oE).2.2.1 (aCs qJ rX qM bJ aI uU gF pL qF mX oE).2.2.2.1 (aCs qJ rX qM bJ aI uU gF pL qF mX oE).2.2.2.2.1 (aCs qJ rX qM bJ aI uU gF pL qF mX oE).2.2.2.2.2.1 (aCs qJ rX qM bJ aI uU gF pL qF mX oE).2.2.2.2.2.2.1 (aCs qJ rX qM bJ aI uU gF pL qF mX oE).2.2.2.2.2.2.2.1 (aCs qJ rX qM bJ aI uU gF pL qF mX oE).2.2.2.2.2.2.2.2.1 (aCs qJ rX qM bJ aI uU gF pL qF mX oE).2.2.2.2.2.2.2.2.2) : wp_X3_readLine Q qJ rX qM bJ aI uU gF pL qF mX oE := dt_X3_readLine h (fun o eo => by rw [eo]; exact hq)
noncomputable def fs_X3_readLines_18 {R : Type} (po : Int32 -> Int32 -> Int32 -> Int32 -> (Nat -> Int32) -> (Nat -> Int32) -> (Nat -> Int32) -> (Nat -> Int32) -> (Nat -> Int32) -> (Nat -> Int32) -> R) (rX : Int32) (qM : Nat -> Int32) (dN bD : Int32) (nx : Int32 -> Int32 -> Int32 -> Int32 -> (Nat -> Int32) -> (Nat -> Int32) -> (Nat -> Int32) -> (Nat -> Int32) -> (Nat -> Int32) -> (Nat -> Int32) -> R) (x2 qJ bJ aI : Int32) (uU gF pL qF mX oE : Nat -> Int32) : R := if 76 < x2 then (po (-1) qJ bJ aI uU gF pL qF mX oE) else (if (aCs qJ rX qM bJ aI uU gF pL qF mX oE).1 = 0 then (po (-1) ((aCs qJ rX qM bJ aI uU gF pL qF mX oE).2.1) ((aCs qJ rX qM bJ aI uU gF pL qF mX oE).2.2.1) ((aCs qJ rX qM bJ aI uU gF pL qF mX oE).2.2.2.1) ((aCs qJ rX qM bJ aI uU gF pL qF mX oE).2.2.2.2.1) ((aCs qJ rX qM bJ aI uU gF pL qF mX oE).2.2.2.2.2.1) ((aCs qJ rX qM bJ aI uU gF pL qF mX oE).2.2.2.2.2.2.1) ((aCs qJ rX qM bJ aI uU gF pL qF mX oE).2.2.2.2.2.2.2.1) ((aCs qJ rX qM bJ aI uU gF pL qF mX oE).2.2.2.2.2.2.2.2.1) ((aCs qJ rX qM bJ aI uU gF pL qF mX oE).2.2.2.2.2.2.2.2.2)) else (if (aGm 59 (aCs qJ rX qM bJ aI uU gF pL qF mX oE).2.1 rX qM).1 = 0 then (po x2 ((aGm 59 (aCs qJ rX qM bJ aI uU gF pL qF mX oE).2.1 rX qM).2) ((aCs qJ rX qM bJ aI uU gF pL qF mX oE).2.2.1) ((aCs qJ rX qM bJ aI uU gF pL qF mX oE).2.2.2.1) ((aCs qJ rX qM bJ aI uU gF pL qF mX oE).2.2.2.2.1) ((aCs qJ rX qM bJ aI uU gF pL qF mX oE).2.2.2.2.2.1) ((aCs qJ rX qM bJ aI uU gF pL qF mX oE).2.2.2.2.2.2.1) ((aCs qJ rX qM bJ aI uU gF pL qF mX oE).2.2.2.2.2.2.2.1) ((aCs qJ rX qM bJ aI uU gF pL qF mX oE).2.2.2.2.2.2.2.2.1) ((aCs qJ rX qM bJ aI uU gF pL qF mX oE).2.2.2.2.2.2.2.2.2)) else (nx (x2 + 1) ((aGm 59 (aCs qJ rX qM bJ aI uU gF pL qF mX oE).2.1 rX qM).2) ((aCs qJ rX qM bJ aI uU gF pL qF mX oE).2.2.1) ((aCs qJ rX qM bJ aI uU gF pL qF mX oE).2.2.2.1) ((aCs qJ rX qM bJ aI uU gF pL qF mX oE).2.2.2.2.1) ((aCs qJ rX qM bJ aI uU gF pL qF mX oE).2.2.2.2.2.1) ((aCs qJ rX qM bJ aI uU gF pL qF mX oE).2.2.2.2.2.2.1) ((aCs qJ rX qM bJ aI uU gF pL qF mX oE).2.2.2.2.2.2.2.1) ((aCs qJ rX qM bJ aI uU gF pL qF mX oE).2.2.2.2.2.2.2.2.1) ((aCs qJ rX qM bJ aI uU gF pL qF mX oE).2.2.2.2.2.2.2.2.2))))
set_option maxHeartbeats 200000 in
set_option maxRecDepth 10000 in
theorem dl_X3_readLines_18 {P Q : Int32 -> Int32 -> Int32 -> Int32 -> (Nat -> Int32) -> (Nat -> Int32) -> (Nat -> Int32) -> (Nat -> Int32) -> (Nat -> Int32) -> (Nat -> Int32) -> Prop} {rX : Int32} {qM : Nat -> Int32} {dN bD : Int32} {R : Type} {po d : Int32 -> Int32 -> Int32 -> Int32 -> (Nat -> Int32) -> (Nat -> Int32) -> (Nat -> Int32) -> (Nat -> Int32) -> (Nat -> Int32) -> (Nat -> Int32) -> R} : ∀ (n m : Nat) (x2 qJ bJ aI : Int32) (uU gF pL qF mX oE : Nat -> Int32), 1 <= Int32.toInt x2 /\ Int32.toInt x2 <= 77 -> 77 - Int32.toInt x2 < (m : Int) -> wb_X3_readLines_18 P rX qM dN bD n x2 qJ bJ aI uU gF pL qF mX oE -> (∀ (b0 b1 b2 b3 : Int32) (b4 b5 b6 b7 b8 b9 : Nat -> Int32), po b0 b1 b2 b3 b4 b5 b6 b7 b8 b9 = flp (fs_X3_readLines_18 po rX qM dN bD) d m x2 qJ bJ aI uU gF pL qF mX oE -> P b0 b1 b2 b3 b4 b5 b6 b7 b8 b9 -> Q b0 b1 b2 b3 b4 b5 b6 b7 b8 b9) -> wb_X3_readLines_18 Q rX qM dN bD n x2 qJ bJ aI uU gF pL qF mX oE := by
  have l1 : Int32.toInt (1 : Int32) = 1 := by decide
  have l76 : Int32.toInt (76 : Int32) = 76 := by decide
  intro n
  induction n with
  | zero => intro m x2 qJ bJ aI uU gF pL qF mX oE hv hm h hq; exact False.elim h
  | succ n ih =>
    intro m x2 qJ bJ aI uU gF pL qF mX oE hv hm h hq
    cases m with
    | zero => exfalso; omega
    | succ m =>
      rw [flp_s, fs_X3_readLines_18] at hq
      have h : ws_X3_readLines_18 P (wb_X3_readLines_18 P rX qM dN bD n) rX qM dN bD x2 qJ bJ aI uU gF pL qF mX oE := h
      show ws_X3_readLines_18 Q (wb_X3_readLines_18 Q rX qM dN bD n) rX qM dN bD x2 qJ bJ aI uU gF pL qF mX oE
      unfold ws_X3_readLines_18 at h ⊢
      refine And.intro (fun c1 => ?_) (fun c1 => ?_)
      · have h := And.left h c1
        rw [if_pos c1] at hq
        have dc1 := (aAd _ _).mp c1
        exact hq _ _ _ _ _ _ _ _ _ _ rfl h
      · have h := And.right h c1
        rw [if_neg c1] at hq
        have dc1 := mt (aAd _ _).mpr c1
        refine du_X3_readLine h ?_
        intro h
        refine And.intro (fun c2 => ?_) (fun c2 => ?_)
        · have h := And.left h c2
          rw [if_neg c2] at hq
          have dc2 := mt (zJ _ _).mpr c2
          refine du_X8_take h ?_
          intro h
          refine And.intro (fun c3 => ?_) (fun c3 => ?_)
          · have h := And.left h c3
            rw [if_neg c3] at hq
            have dc3 := mt (zJ _ _).mpr c3
            refine ae ?_
            have h := h _ rfl
            have f9 := aAD x2 1 (by omega)
            exact ih m _ _ _ _ _ _ _ _ _ _ (by omega) (by omega) h hq
          · have h := And.right h c3
            rw [if_pos c3] at hq
            have dc3 := (zJ _ _).mp c3
            exact hq _ _ _ _ _ _ _ _ _ _ rfl h
        · have h := And.right h c2
          rw [if_pos c2] at hq
          have dc2 := (zJ _ _).mp c2
          exact hq _ _ _ _ _ _ _ _ _ _ rfl h
noncomputable def aFK (qJ rX : Int32) (qM : Nat -> Int32) (dN bD bJ aI : Int32) (uU gF pL qF mX oE : Nat -> Int32) : Int32 × Int32 × Int32 × Int32 × (Nat -> Int32) × (Nat -> Int32) × (Nat -> Int32) × (Nat -> Int32) × (Nat -> Int32) × (Nat -> Int32) := flp (fs_X3_readLines_18 (fun o0 o1 o2 o3 o4 o5 o6 o7 o8 o9 => (o0, o1, o2, o3, o4, o5, o6, o7, o8, o9)) rX qM dN bD) (fun _ _ _ _ _ _ _ _ _ _ => (0, 0, 0, 0, (fun _ => 0), (fun _ => 0), (fun _ => 0), (fun _ => 0), (fun _ => 0), (fun _ => 0))) 77 1 qJ dN bD uU gF pL qF mX oE
set_option maxHeartbeats 200000 in
set_option maxRecDepth 10000 in
theorem dt_X3_readLines {P Q : Int32 -> Int32 -> Int32 -> Int32 -> (Nat -> Int32) -> (Nat -> Int32) -> (Nat -> Int32) -> (Nat -> Int32) -> (Nat -> Int32) -> (Nat -> Int32) -> Prop} {qJ rX : Int32} {qM : Nat -> Int32} {dN bD bJ aI : Int32} {uU gF pL qF mX oE : Nat -> Int32} (h : wp_X3_readLines P qJ rX qM dN bD bJ aI uU gF pL qF mX oE) (hq : ∀ o : Int32 × Int32 × Int32 × Int32 × (Nat -> Int32) × (Nat -> Int32) × (Nat -> Int32) × (Nat -> Int32) × (Nat -> Int32) × (Nat -> Int32), o = aFK qJ rX qM dN bD bJ aI uU gF pL qF mX oE -> P o.1 o.2.1 o.2.2.1 o.2.2.2.1 o.2.2.2.2.1 o.2.2.2.2.2.1 o.2.2.2.2.2.2.1 o.2.2.2.2.2.2.2.1 o.2.2.2.2.2.2.2.2.1 o.2.2.2.2.2.2.2.2.2 -> Q o.1 o.2.1 o.2.2.1 o.2.2.2.1 o.2.2.2.2.1 o.2.2.2.2.2.1 o.2.2.2.2.2.2.1 o.2.2.2.2.2.2.2.1 o.2.2.2.2.2.2.2.2.1 o.2.2.2.2.2.2.2.2.2) : wp_X3_readLines Q qJ rX qM dN bD bJ aI uU gF pL qF mX oE := by
  rw [aFK] at hq
  obtain ⟨n1, h⟩ := h
  exact ⟨n1, dl_X3_readLines_18 n1 77 _ _ _ _ _ _ _ _ _ _ (by decide) (by decide) h (fun b0 b1 b2 b3 b4 b5 b6 b7 b8 b9 e9 h9 => hq (b0, b1, b2, b3, b4, b5, b6, b7, b8, b9) e9 h9)⟩
theorem du_X3_readLines {P Q : Int32 -> Int32 -> Int32 -> Int32 -> (Nat -> Int32) -> (Nat -> Int32) -> (Nat -> Int32) -> (Nat -> Int32) -> (Nat -> Int32) -> (Nat -> Int32) -> Prop} {qJ rX : Int32} {qM : Nat -> Int32} {dN bD bJ aI : Int32} {uU gF pL qF mX oE : Nat -> Int32} (h : wp_X3_readLines P qJ rX qM dN bD bJ aI uU gF pL qF mX oE) (hq : P (aFK qJ rX qM dN bD bJ aI uU gF pL qF mX oE).1 (aFK qJ rX qM dN bD bJ aI uU gF pL qF mX oE).2.1 (aFK qJ rX qM dN bD bJ aI uU gF pL qF mX oE).2.2.1 (aFK qJ rX qM dN bD bJ aI uU gF pL qF mX oE).2.2.2.1 (aFK qJ rX qM dN bD bJ aI uU gF pL qF mX oE).2.2.2.2.1 (aFK qJ rX qM dN bD bJ aI uU gF pL qF mX oE).2.2.2.2.2.1 (aFK qJ rX qM dN bD bJ aI uU gF pL qF mX oE).2.2.2.2.2.2.1 (aFK qJ rX qM dN bD bJ aI uU gF pL qF mX oE).2.2.2.2.2.2.2.1 (aFK qJ rX qM dN bD bJ aI uU gF pL qF mX oE).2.2.2.2.2.2.2.2.1 (aFK qJ rX qM dN bD bJ aI uU gF pL qF mX oE).2.2.2.2.2.2.2.2.2 -> Q (aFK qJ rX qM dN bD bJ aI uU gF pL qF mX oE).1 (aFK qJ rX qM dN bD bJ aI uU gF pL qF mX oE).2.1 (aFK qJ rX qM dN bD bJ aI uU gF pL qF mX oE).2.2.1 (aFK qJ rX qM dN bD bJ aI uU gF pL qF mX oE).2.2.2.1 (aFK qJ rX qM dN bD bJ aI uU gF pL qF mX oE).2.2.2.2.1 (aFK qJ rX qM dN bD bJ aI uU gF pL qF mX oE).2.2.2.2.2.1 (aFK qJ rX qM dN bD bJ aI uU gF pL qF mX oE).2.2.2.2.2.2.1 (aFK qJ rX qM dN bD bJ aI uU gF pL qF mX oE).2.2.2.2.2.2.2.1 (aFK qJ rX qM dN bD bJ aI uU gF pL qF mX oE).2.2.2.2.2.2.2.2.1 (aFK qJ rX qM dN bD bJ aI uU gF pL qF mX oE).2.2.2.2.2.2.2.2.2) : wp_X3_readLines Q qJ rX qM dN bD bJ aI uU gF pL qF mX oE := dt_X3_readLines h (fun o eo => by rw [eo]; exact hq)
noncomputable def F_X3_takeLines (dN bD bJ aI : Int32) : Int32 × Int32 := (bJ, aI)
set_option maxHeartbeats 200000 in
set_option maxRecDepth 10000 in
theorem dt_X3_takeLines {P Q : Int32 -> Int32 -> Prop} {dN bD bJ aI : Int32} (h : wp_X3_takeLines P dN bD bJ aI) (hq : ∀ o : Int32 × Int32, o = F_X3_takeLines dN bD bJ aI -> P o.1 o.2 -> Q o.1 o.2) : wp_X3_takeLines Q dN bD bJ aI := by
  rw [F_X3_takeLines] at hq
  have q9 := hq _ rfl
  dsimp only at q9
  exact q9 h
theorem aXH {P Q : Int32 -> Int32 -> Prop} {dN bD bJ aI : Int32} (h : wp_X3_takeLines P dN bD bJ aI) (hq : P (F_X3_takeLines dN bD bJ aI).1 (F_X3_takeLines dN bD bJ aI).2 -> Q (F_X3_takeLines dN bD bJ aI).1 (F_X3_takeLines dN bD bJ aI).2) : wp_X3_takeLines Q dN bD bJ aI := dt_X3_takeLines h (fun o eo => by rw [eo]; exact hq)
noncomputable def aXt (pR c : Int32) (s : (Nat -> Int32)) : (Nat -> Int32) := (upd s c.toNatClampNeg (vp_nar .boolean 0))
noncomputable def ex_X4_forgetAll_7 {R : Type} (po : Int32 -> (Nat -> Int32) -> R) (pR c : Int32) (s : (Nat -> Int32)) : R := po pR s
set_option maxHeartbeats 200000 in
set_option maxRecDepth 10000 in
theorem dl_X4_forgetAll_7 {P Q : Int32 -> (Nat -> Int32) -> Prop} {pR : Int32} {a : (Nat -> Int32)} {i : Nat} (hi0 : i < 2147483648) (hE : ∀ (c : Int32) (s : (Nat -> Int32)), c = nI (i + (Int32.toInt 2 - ((i : Nat) : Int)).toNat) -> s = itr (aXt pR) a i (Int32.toInt 2 - ((i : Nat) : Int)).toNat -> (P pR s) -> (Q pR s)) : ∀ (n k : Nat) (c : Int32), c = nI (i + k) -> k <= (Int32.toInt 2 - ((i : Nat) : Int)).toNat -> wb_X4_forgetAll_7 P n c pR (itr (aXt pR) a i k) -> wb_X4_forgetAll_7 Q n c pR (itr (aXt pR) a i k) := by
  intro n
  induction n with
  | zero => intro k c hc hk h; exact False.elim h
  | succ n ih =>
    intro k c hc hk h
    have hr := aAT 2
    have hi : Int32.toInt c = ((i + k : Nat) : Int) := by rw [hc]; exact nI_toInt (by omega)
    refine And.intro (fun t0 => ?_) (fun t0 => ?_)
    · have h := And.left h t0
      have t1 := (aAO _ _).mp t0
      have hk2 : k = (Int32.toInt 2 - ((i : Nat) : Int)).toNat := by omega
      subst hk2
      exact hE _ _ hc rfl h
    · have h := And.right h t0
      have t1 := mt (aAO _ _).mpr t0
      have hs : ∀ o : (Nat -> Int32), o = itr (aXt pR) a i (k + 1) -> wb_X4_forgetAll_7 P n (c + 1) pR o -> wb_X4_forgetAll_7 Q n (c + 1) pR o := by
        intro o eo h9
        have q := ih (k + 1) (c + 1) (by rw [hc]; exact nI_1 _) (by omega)
        rw [<- eo] at q
        exact q h9
      rw [itr_s, <- hc, aXt] at hs
      refine And.intro (And.left h) ?_
      have h := And.right h
      refine ae ?_
      have h := h _ rfl
      have q9 := hs _ rfl
      exact q9 h
noncomputable def aYm (pR : Int32) (uF : Nat -> Int32) : Int32 × (Nat -> Int32) := ex_X4_forgetAll_7 (fun o0 o1 => (o0, o1)) 0 (nI (0 + (Int32.toInt 2 - ((0 : Nat) : Int)).toNat)) (itr (aXt 0) uF 0 (Int32.toInt 2 - ((0 : Nat) : Int)).toNat)
set_option maxHeartbeats 200000 in
set_option maxRecDepth 10000 in
theorem dt_X4_forgetAll {P Q : Int32 -> (Nat -> Int32) -> Prop} {pR : Int32} {uF : Nat -> Int32} (h : wp_X4_forgetAll P pR uF) (hq : ∀ o : Int32 × (Nat -> Int32), o = aYm pR uF -> P o.1 o.2 -> Q o.1 o.2) : wp_X4_forgetAll Q pR uF := by
  rw [aYm] at hq
  obtain ⟨n1, h⟩ := h
  refine ⟨n1, dl_X4_forgetAll_7 (a := uF) (i := 0) (by decide) ?_ n1 0 0 (by decide) (Nat.zero_le _) h⟩
  intro cc2 s3 ec4 es5 h
  rw [<- ec4, <- es5, ex_X4_forgetAll_7] at hq
  have q9 := hq _ rfl
  dsimp only at q9
  exact q9 h
theorem aXI {P Q : Int32 -> (Nat -> Int32) -> Prop} {pR : Int32} {uF : Nat -> Int32} (h : wp_X4_forgetAll P pR uF) (hq : P (aYm pR uF).1 (aYm pR uF).2 -> Q (aYm pR uF).1 (aYm pR uF).2) : wp_X4_forgetAll Q pR uF := dt_X4_forgetAll h (fun o eo => by rw [eo]; exact hq)
noncomputable def aDR {R : Type} (po : Int32 -> Int32 -> Int32 -> Int32 -> Int32 -> Int32 -> Int32 -> Int32 -> (Nat -> Int32) -> (Nat -> Int32) -> (Nat -> Int32) -> (Nat -> Int32) -> (Nat -> Int32) -> (Nat -> Int32) -> Int32 -> (Nat -> Int32) -> R) (qM : Nat -> Int32) (x3 qL qJ rX dN bD bJ aI : Int32) (uU gF pL qF mX oE : Nat -> Int32) (pR : Int32) (uF : Nat -> Int32) : R := po x3 (F_X8_clear qL) qJ rX dN bD bJ aI uU gF pL qF mX oE pR uF
noncomputable def aLa {R : Type} (po : Int32 -> Int32 -> Int32 -> Int32 -> Int32 -> Int32 -> Int32 -> Int32 -> (Nat -> Int32) -> (Nat -> Int32) -> (Nat -> Int32) -> (Nat -> Int32) -> (Nat -> Int32) -> (Nat -> Int32) -> Int32 -> (Nat -> Int32) -> R) (qM : Nat -> Int32) (x1 x2 k0 qL qJ rX dN bD bJ aI : Int32) (uU gF pL qF mX oE : Nat -> Int32) (pR : Int32) (uF : Nat -> Int32) : R := if x2 = 0 then (aDR po qM k0 qL qJ rX dN bD bJ aI uU gF pL qF mX oE pR uF) else (if x1 <= 0 then (aDR po qM k0 qL qJ rX dN bD bJ aI uU gF pL qF mX oE pR uF) else (aDR po qM k0 qL qJ rX ((F_X3_takeLines dN bD bJ aI).1) ((F_X3_takeLines dN bD bJ aI).2) bJ aI uU gF pL qF mX oE ((aYm pR uF).1) ((aYm pR uF).2)))
noncomputable def aXM {R : Type} (po : Int32 -> Int32 -> Int32 -> Int32 -> Int32 -> Int32 -> Int32 -> Int32 -> (Nat -> Int32) -> (Nat -> Int32) -> (Nat -> Int32) -> (Nat -> Int32) -> (Nat -> Int32) -> (Nat -> Int32) -> Int32 -> (Nat -> Int32) -> R) (qM : Nat -> Int32) (x1 k0 qL qJ rX dN bD bJ aI : Int32) (uU gF pL qF mX oE : Nat -> Int32) (pR : Int32) (uF : Nat -> Int32) : R := if k0 = 0 then (aLa po qM x1 k0 (F_X8_wrong qJ) qL qJ rX dN bD bJ aI uU gF pL qF mX oE pR uF) else (aLa po qM x1 k0 x1 qL qJ rX dN bD bJ aI uU gF pL qF mX oE pR uF)
noncomputable def j_X9_orchard_54 {R : Type} (po : Int32 -> Int32 -> Int32 -> Int32 -> Int32 -> Int32 -> Int32 -> Int32 -> (Nat -> Int32) -> (Nat -> Int32) -> (Nat -> Int32) -> (Nat -> Int32) -> (Nat -> Int32) -> (Nat -> Int32) -> Int32 -> (Nat -> Int32) -> R) (qM : Nat -> Int32) (x1 qL qJ rX dN bD bJ aI : Int32) (uU gF pL qF mX oE : Nat -> Int32) (pR : Int32) (uF : Nat -> Int32) : R := aXM po qM x1 0 qL qJ rX dN bD bJ aI uU gF pL qF mX oE pR uF
noncomputable def j_X9_orchard_34 {R : Type} (po : Int32 -> Int32 -> Int32 -> Int32 -> Int32 -> Int32 -> Int32 -> Int32 -> (Nat -> Int32) -> (Nat -> Int32) -> (Nat -> Int32) -> (Nat -> Int32) -> (Nat -> Int32) -> (Nat -> Int32) -> Int32 -> (Nat -> Int32) -> R) (qM : Nat -> Int32) (k0 qL qJ rX dN bD bJ aI : Int32) (uU gF pL qF mX oE : Nat -> Int32) (pR : Int32) (uF : Nat -> Int32) : R := if k0 = (-1) then (j_X9_orchard_54 po qM k0 qL qJ rX dN bD bJ aI uU gF pL qF mX oE pR uF) else (if (F_X8_isThrough qL qJ) = 0 then (j_X9_orchard_54 po qM k0 qL qJ rX dN bD bJ aI uU gF pL qF mX oE pR uF) else (aXM po qM k0 1 qL qJ rX dN bD bJ aI uU gF pL qF mX oE pR uF))
noncomputable def aFs (qL qJ rX : Int32) (qM : Nat -> Int32) (dN bD bJ aI : Int32) (uU gF pL qF mX oE : Nat -> Int32) (pR : Int32) (uF : Nat -> Int32) : Int32 × Int32 × Int32 × Int32 × Int32 × Int32 × Int32 × Int32 × (Nat -> Int32) × (Nat -> Int32) × (Nat -> Int32) × (Nat -> Int32) × (Nat -> Int32) × (Nat -> Int32) × Int32 × (Nat -> Int32) := if qL = 0 then (j_X9_orchard_34 (fun o0 o1 o2 o3 o4 o5 o6 o7 o8 o9 o10 o11 o12 o13 o14 o15 => (o0, o1, o2, o3, o4, o5, o6, o7, o8, o9, o10, o11, o12, o13, o14, o15)) qM 0 qL ((aJ0 76 qL qJ rX).1) ((aJ0 76 qL qJ rX).2) dN bD bJ aI uU gF pL qF mX oE pR uF) else (j_X9_orchard_34 (fun o0 o1 o2 o3 o4 o5 o6 o7 o8 o9 o10 o11 o12 o13 o14 o15 => (o0, o1, o2, o3, o4, o5, o6, o7, o8, o9, o10, o11, o12, o13, o14, o15)) qM ((aFK (aJ0 76 qL qJ rX).1 (aJ0 76 qL qJ rX).2 qM dN bD bJ aI uU gF pL qF mX oE).1) qL ((aFK (aJ0 76 qL qJ rX).1 (aJ0 76 qL qJ rX).2 qM dN bD bJ aI uU gF pL qF mX oE).2.1) ((aJ0 76 qL qJ rX).2) dN bD ((aFK (aJ0 76 qL qJ rX).1 (aJ0 76 qL qJ rX).2 qM dN bD bJ aI uU gF pL qF mX oE).2.2.1) ((aFK (aJ0 76 qL qJ rX).1 (aJ0 76 qL qJ rX).2 qM dN bD bJ aI uU gF pL qF mX oE).2.2.2.1) ((aFK (aJ0 76 qL qJ rX).1 (aJ0 76 qL qJ rX).2 qM dN bD bJ aI uU gF pL qF mX oE).2.2.2.2.1) ((aFK (aJ0 76 qL qJ rX).1 (aJ0 76 qL qJ rX).2 qM dN bD bJ aI uU gF pL qF mX oE).2.2.2.2.2.1) ((aFK (aJ0 76 qL qJ rX).1 (aJ0 76 qL qJ rX).2 qM dN bD bJ aI uU gF pL qF mX oE).2.2.2.2.2.2.1) ((aFK (aJ0 76 qL qJ rX).1 (aJ0 76 qL qJ rX).2 qM dN bD bJ aI uU gF pL qF mX oE).2.2.2.2.2.2.2.1) ((aFK (aJ0 76 qL qJ rX).1 (aJ0 76 qL qJ rX).2 qM dN bD bJ aI uU gF pL qF mX oE).2.2.2.2.2.2.2.2.1) ((aFK (aJ0 76 qL qJ rX).1 (aJ0 76 qL qJ rX).2 qM dN bD bJ aI uU gF pL qF mX oE).2.2.2.2.2.2.2.2.2) pR uF)
set_option maxHeartbeats 200000 in
set_option maxRecDepth 10000 in
theorem dt_X9_orchard {P Q : Int32 -> Int32 -> Int32 -> Int32 -> Int32 -> Int32 -> Int32 -> Int32 -> (Nat -> Int32) -> (Nat -> Int32) -> (Nat -> Int32) -> (Nat -> Int32) -> (Nat -> Int32) -> (Nat -> Int32) -> Int32 -> (Nat -> Int32) -> Prop} {qL qJ rX : Int32} {qM : Nat -> Int32} {dN bD bJ aI : Int32} {uU gF pL qF mX oE : Nat -> Int32} {pR : Int32} {uF : Nat -> Int32} (h : wp_X9_orchard P qL qJ rX qM dN bD bJ aI uU gF pL qF mX oE pR uF) (hq : ∀ o : Int32 × Int32 × Int32 × Int32 × Int32 × Int32 × Int32 × Int32 × (Nat -> Int32) × (Nat -> Int32) × (Nat -> Int32) × (Nat -> Int32) × (Nat -> Int32) × (Nat -> Int32) × Int32 × (Nat -> Int32), o = aFs qL qJ rX qM dN bD bJ aI uU gF pL qF mX oE pR uF -> P o.1 o.2.1 o.2.2.1 o.2.2.2.1 o.2.2.2.2.1 o.2.2.2.2.2.1 o.2.2.2.2.2.2.1 o.2.2.2.2.2.2.2.1 o.2.2.2.2.2.2.2.2.1 o.2.2.2.2.2.2.2.2.2.1 o.2.2.2.2.2.2.2.2.2.2.1 o.2.2.2.2.2.2.2.2.2.2.2.1 o.2.2.2.2.2.2.2.2.2.2.2.2.1 o.2.2.2.2.2.2.2.2.2.2.2.2.2.1 o.2.2.2.2.2.2.2.2.2.2.2.2.2.2.1 o.2.2.2.2.2.2.2.2.2.2.2.2.2.2.2 -> Q o.1 o.2.1 o.2.2.1 o.2.2.2.1 o.2.2.2.2.1 o.2.2.2.2.2.1 o.2.2.2.2.2.2.1 o.2.2.2.2.2.2.2.1 o.2.2.2.2.2.2.2.2.1 o.2.2.2.2.2.2.2.2.2.1 o.2.2.2.2.2.2.2.2.2.2.1 o.2.2.2.2.2.2.2.2.2.2.2.1 o.2.2.2.2.2.2.2.2.2.2.2.2.1 o.2.2.2.2.2.2.2.2.2.2.2.2.2.1 o.2.2.2.2.2.2.2.2.2.2.2.2.2.2.1 o.2.2.2.2.2.2.2.2.2.2.2.2.2.2.2) : wp_X9_orchard Q qL qJ rX qM dN bD bJ aI uU gF pL qF mX oE pR uF := by
  rw [aFs] at hq
  refine du_X8_open h ?_
  intro h
  refine And.intro (fun c1 => ?_) (fun c1 => ?_)
  · have h := And.left h c1
    rw [if_neg c1] at hq
    refine du_X3_readLines h ?_
    intro h
    rw [j_X9_orchard_34] at hq
    unfold ws_X9_orchard_34 at h ⊢
    refine And.intro (fun c2 => ?_) (fun c2 => ?_)
    · have h := And.left h c2
      rw [if_pos c2] at hq
      rw [j_X9_orchard_54] at hq
      unfold bCb at h ⊢
      rw [aXM] at hq
      unfold aXn at h ⊢
      refine And.intro (fun c3 => ?_) (fun c3 => ?_)
      · have h := And.left h c3
        rw [if_pos c3] at hq
        refine du_X8_wrong h ?_
        intro h
        rw [aLa] at hq
        unfold aLL at h ⊢
        refine And.intro (fun c4 => ?_) (fun c4 => ?_)
        · have h := And.left h c4
          rw [if_pos c4] at hq
          rw [aDR] at hq
          unfold aDC at h ⊢
          refine aFm h ?_
          intro h
          have q9 := hq _ rfl
          dsimp only at q9
          exact q9 h
        · have h := And.right h c4
          rw [if_neg c4] at hq
          refine And.intro (fun c5 => ?_) (fun c5 => ?_)
          · have h := And.left h c5
            rw [if_pos c5] at hq
            rw [aDR] at hq
            unfold aDC at h ⊢
            refine aFm h ?_
            intro h
            have q9 := hq _ rfl
            dsimp only at q9
            exact q9 h
          · have h := And.right h c5
            rw [if_neg c5] at hq
            refine aXH h ?_
            intro h
            refine aXI h ?_
            intro h
            rw [aDR] at hq
            unfold aDC at h ⊢
            refine aFm h ?_
            intro h
            have q9 := hq _ rfl
            dsimp only at q9
            exact q9 h
      · have h := And.right h c3
        rw [if_neg c3] at hq
        rw [aLa] at hq
        unfold aLL at h ⊢
        refine And.intro (fun c6 => ?_) (fun c6 => ?_)
        · have h := And.left h c6
          rw [if_pos c6] at hq
          rw [aDR] at hq
          unfold aDC at h ⊢
          refine aFm h ?_
          intro h
          have q9 := hq _ rfl
          dsimp only at q9
          exact q9 h
        · have h := And.right h c6
          rw [if_neg c6] at hq
          refine And.intro (fun c7 => ?_) (fun c7 => ?_)
          · have h := And.left h c7
            rw [if_pos c7] at hq
            rw [aDR] at hq
            unfold aDC at h ⊢
            refine aFm h ?_
            intro h
            have q9 := hq _ rfl
            dsimp only at q9
            exact q9 h
          · have h := And.right h c7
            rw [if_neg c7] at hq
            refine aXH h ?_
            intro h
            refine aXI h ?_
            intro h
            rw [aDR] at hq
            unfold aDC at h ⊢
            refine aFm h ?_
            intro h
            have q9 := hq _ rfl
            dsimp only at q9
            exact q9 h
    · have h := And.right h c2
      rw [if_neg c2] at hq
      refine du_X8_isThrough h ?_
      intro h
      refine And.intro (fun c8 => ?_) (fun c8 => ?_)
      · have h := And.left h c8
        rw [if_pos c8] at hq
        rw [j_X9_orchard_54] at hq
        unfold bCb at h ⊢
        rw [aXM] at hq
        unfold aXn at h ⊢
        refine And.intro (fun c9 => ?_) (fun c9 => ?_)
        · have h := And.left h c9
          rw [if_pos c9] at hq
          refine du_X8_wrong h ?_
          intro h
          rw [aLa] at hq
          unfold aLL at h ⊢
          refine And.intro (fun c10 => ?_) (fun c10 => ?_)
          · have h := And.left h c10
            rw [if_pos c10] at hq
            rw [aDR] at hq
            unfold aDC at h ⊢
            refine aFm h ?_
            intro h
            have q9 := hq _ rfl
            dsimp only at q9
            exact q9 h
          · have h := And.right h c10
            rw [if_neg c10] at hq
            refine And.intro (fun c11 => ?_) (fun c11 => ?_)
            · have h := And.left h c11
              rw [if_pos c11] at hq
              rw [aDR] at hq
              unfold aDC at h ⊢
              refine aFm h ?_
              intro h
              have q9 := hq _ rfl
              dsimp only at q9
              exact q9 h
            · have h := And.right h c11
              rw [if_neg c11] at hq
              refine aXH h ?_
              intro h
              refine aXI h ?_
              intro h
              rw [aDR] at hq
              unfold aDC at h ⊢
              refine aFm h ?_
              intro h
              have q9 := hq _ rfl
              dsimp only at q9
              exact q9 h
        · have h := And.right h c9
          rw [if_neg c9] at hq
          rw [aLa] at hq
          unfold aLL at h ⊢
          refine And.intro (fun c12 => ?_) (fun c12 => ?_)
          · have h := And.left h c12
            rw [if_pos c12] at hq
            rw [aDR] at hq
            unfold aDC at h ⊢
            refine aFm h ?_
            intro h
            have q9 := hq _ rfl
            dsimp only at q9
            exact q9 h
          · have h := And.right h c12
            rw [if_neg c12] at hq
            refine And.intro (fun c13 => ?_) (fun c13 => ?_)
            · have h := And.left h c13
              rw [if_pos c13] at hq
              rw [aDR] at hq
              unfold aDC at h ⊢
              refine aFm h ?_
              intro h
              have q9 := hq _ rfl
              dsimp only at q9
              exact q9 h
            · have h := And.right h c13
              rw [if_neg c13] at hq
              refine aXH h ?_
              intro h
              refine aXI h ?_
              intro h
              rw [aDR] at hq
              unfold aDC at h ⊢
              refine aFm h ?_
              intro h
              have q9 := hq _ rfl
              dsimp only at q9
              exact q9 h
      · have h := And.right h c8
        rw [if_neg c8] at hq
        rw [aXM] at hq
        unfold aXn at h ⊢
        refine And.intro (fun c14 => ?_) (fun c14 => ?_)
        · have h := And.left h c14
          rw [if_pos c14] at hq
          refine du_X8_wrong h ?_
          intro h
          rw [aLa] at hq
          unfold aLL at h ⊢
          refine And.intro (fun c15 => ?_) (fun c15 => ?_)
          · have h := And.left h c15
            rw [if_pos c15] at hq
            rw [aDR] at hq
            unfold aDC at h ⊢
            refine aFm h ?_
            intro h
            have q9 := hq _ rfl
            dsimp only at q9
            exact q9 h
          · have h := And.right h c15
            rw [if_neg c15] at hq
            refine And.intro (fun c16 => ?_) (fun c16 => ?_)
            · have h := And.left h c16
              rw [if_pos c16] at hq
              rw [aDR] at hq
              unfold aDC at h ⊢
              refine aFm h ?_
              intro h
              have q9 := hq _ rfl
              dsimp only at q9
              exact q9 h
            · have h := And.right h c16
              rw [if_neg c16] at hq
              refine aXH h ?_
              intro h
              refine aXI h ?_
              intro h
              rw [aDR] at hq
              unfold aDC at h ⊢
              refine aFm h ?_
              intro h
              have q9 := hq _ rfl
              dsimp only at q9
              exact q9 h
        · have h := And.right h c14
          rw [if_neg c14] at hq
          rw [aLa] at hq
          unfold aLL at h ⊢
          refine And.intro (fun c17 => ?_) (fun c17 => ?_)
          · have h := And.left h c17
            rw [if_pos c17] at hq
            rw [aDR] at hq
            unfold aDC at h ⊢
            refine aFm h ?_
            intro h
            have q9 := hq _ rfl
            dsimp only at q9
            exact q9 h
          · have h := And.right h c17
            rw [if_neg c17] at hq
            refine And.intro (fun c18 => ?_) (fun c18 => ?_)
            · have h := And.left h c18
              rw [if_pos c18] at hq
              rw [aDR] at hq
              unfold aDC at h ⊢
              refine aFm h ?_
              intro h
              have q9 := hq _ rfl
              dsimp only at q9
              exact q9 h
            · have h := And.right h c18
              rw [if_neg c18] at hq
              refine aXH h ?_
              intro h
              refine aXI h ?_
              intro h
              rw [aDR] at hq
              unfold aDC at h ⊢
              refine aFm h ?_
              intro h
              have q9 := hq _ rfl
              dsimp only at q9
              exact q9 h
  · have h := And.right h c1
    rw [if_pos c1] at hq
    rw [j_X9_orchard_34] at hq
    unfold ws_X9_orchard_34 at h ⊢
    refine And.intro (fun c19 => ?_) (fun c19 => ?_)
    · have h := And.left h c19
      rw [if_pos c19] at hq
      rw [j_X9_orchard_54] at hq
      unfold bCb at h ⊢
      rw [aXM] at hq
      unfold aXn at h ⊢
      refine And.intro (fun c20 => ?_) (fun c20 => ?_)
      · have h := And.left h c20
        rw [if_pos c20] at hq
        refine du_X8_wrong h ?_
        intro h
        rw [aLa] at hq
        unfold aLL at h ⊢
        refine And.intro (fun c21 => ?_) (fun c21 => ?_)
        · have h := And.left h c21
          rw [if_pos c21] at hq
          rw [aDR] at hq
          unfold aDC at h ⊢
          refine aFm h ?_
          intro h
          have q9 := hq _ rfl
          dsimp only at q9
          exact q9 h
        · have h := And.right h c21
          rw [if_neg c21] at hq
          refine And.intro (fun c22 => ?_) (fun c22 => ?_)
          · have h := And.left h c22
            rw [if_pos c22] at hq
            rw [aDR] at hq
            unfold aDC at h ⊢
            refine aFm h ?_
            intro h
            have q9 := hq _ rfl
            dsimp only at q9
            exact q9 h
          · have h := And.right h c22
            rw [if_neg c22] at hq
            refine aXH h ?_
            intro h
            refine aXI h ?_
            intro h
            rw [aDR] at hq
            unfold aDC at h ⊢
            refine aFm h ?_
            intro h
            have q9 := hq _ rfl
            dsimp only at q9
            exact q9 h
      · have h := And.right h c20
        rw [if_neg c20] at hq
        rw [aLa] at hq
        unfold aLL at h ⊢
        refine And.intro (fun c23 => ?_) (fun c23 => ?_)
        · have h := And.left h c23
          rw [if_pos c23] at hq
          rw [aDR] at hq
          unfold aDC at h ⊢
          refine aFm h ?_
          intro h
          have q9 := hq _ rfl
          dsimp only at q9
          exact q9 h
        · have h := And.right h c23
          rw [if_neg c23] at hq
          refine And.intro (fun c24 => ?_) (fun c24 => ?_)
          · have h := And.left h c24
            rw [if_pos c24] at hq
            rw [aDR] at hq
            unfold aDC at h ⊢
            refine aFm h ?_
            intro h
            have q9 := hq _ rfl
            dsimp only at q9
            exact q9 h
          · have h := And.right h c24
            rw [if_neg c24] at hq
            refine aXH h ?_
            intro h
            refine aXI h ?_
            intro h
            rw [aDR] at hq
            unfold aDC at h ⊢
            refine aFm h ?_
            intro h
            have q9 := hq _ rfl
            dsimp only at q9
            exact q9 h
    · have h := And.right h c19
      rw [if_neg c19] at hq
      refine du_X8_isThrough h ?_
      intro h
      refine And.intro (fun c25 => ?_) (fun c25 => ?_)
      · have h := And.left h c25
        rw [if_pos c25] at hq
        rw [j_X9_orchard_54] at hq
        unfold bCb at h ⊢
        rw [aXM] at hq
        unfold aXn at h ⊢
        refine And.intro (fun c26 => ?_) (fun c26 => ?_)
        · have h := And.left h c26
          rw [if_pos c26] at hq
          refine du_X8_wrong h ?_
          intro h
          rw [aLa] at hq
          unfold aLL at h ⊢
          refine And.intro (fun c27 => ?_) (fun c27 => ?_)
          · have h := And.left h c27
            rw [if_pos c27] at hq
            rw [aDR] at hq
            unfold aDC at h ⊢
            refine aFm h ?_
            intro h
            have q9 := hq _ rfl
            dsimp only at q9
            exact q9 h
          · have h := And.right h c27
            rw [if_neg c27] at hq
            refine And.intro (fun c28 => ?_) (fun c28 => ?_)
            · have h := And.left h c28
              rw [if_pos c28] at hq
              rw [aDR] at hq
              unfold aDC at h ⊢
              refine aFm h ?_
              intro h
              have q9 := hq _ rfl
              dsimp only at q9
              exact q9 h
            · have h := And.right h c28
              rw [if_neg c28] at hq
              refine aXH h ?_
              intro h
              refine aXI h ?_
              intro h
              rw [aDR] at hq
              unfold aDC at h ⊢
              refine aFm h ?_
              intro h
              have q9 := hq _ rfl
              dsimp only at q9
              exact q9 h
        · have h := And.right h c26
          rw [if_neg c26] at hq
          rw [aLa] at hq
          unfold aLL at h ⊢
          refine And.intro (fun c29 => ?_) (fun c29 => ?_)
          · have h := And.left h c29
            rw [if_pos c29] at hq
            rw [aDR] at hq
            unfold aDC at h ⊢
            refine aFm h ?_
            intro h
            have q9 := hq _ rfl
            dsimp only at q9
            exact q9 h
          · have h := And.right h c29
            rw [if_neg c29] at hq
            refine And.intro (fun c30 => ?_) (fun c30 => ?_)
            · have h := And.left h c30
              rw [if_pos c30] at hq
              rw [aDR] at hq
              unfold aDC at h ⊢
              refine aFm h ?_
              intro h
              have q9 := hq _ rfl
              dsimp only at q9
              exact q9 h
            · have h := And.right h c30
              rw [if_neg c30] at hq
              refine aXH h ?_
              intro h
              refine aXI h ?_
              intro h
              rw [aDR] at hq
              unfold aDC at h ⊢
              refine aFm h ?_
              intro h
              have q9 := hq _ rfl
              dsimp only at q9
              exact q9 h
      · have h := And.right h c25
        rw [if_neg c25] at hq
        rw [aXM] at hq
        unfold aXn at h ⊢
        refine And.intro (fun c31 => ?_) (fun c31 => ?_)
        · have h := And.left h c31
          rw [if_pos c31] at hq
          refine du_X8_wrong h ?_
          intro h
          rw [aLa] at hq
          unfold aLL at h ⊢
          refine And.intro (fun c32 => ?_) (fun c32 => ?_)
          · have h := And.left h c32
            rw [if_pos c32] at hq
            rw [aDR] at hq
            unfold aDC at h ⊢
            refine aFm h ?_
            intro h
            have q9 := hq _ rfl
            dsimp only at q9
            exact q9 h
          · have h := And.right h c32
            rw [if_neg c32] at hq
            refine And.intro (fun c33 => ?_) (fun c33 => ?_)
            · have h := And.left h c33
              rw [if_pos c33] at hq
              rw [aDR] at hq
              unfold aDC at h ⊢
              refine aFm h ?_
              intro h
              have q9 := hq _ rfl
              dsimp only at q9
              exact q9 h
            · have h := And.right h c33
              rw [if_neg c33] at hq
              refine aXH h ?_
              intro h
              refine aXI h ?_
              intro h
              rw [aDR] at hq
              unfold aDC at h ⊢
              refine aFm h ?_
              intro h
              have q9 := hq _ rfl
              dsimp only at q9
              exact q9 h
        · have h := And.right h c31
          rw [if_neg c31] at hq
          rw [aLa] at hq
          unfold aLL at h ⊢
          refine And.intro (fun c34 => ?_) (fun c34 => ?_)
          · have h := And.left h c34
            rw [if_pos c34] at hq
            rw [aDR] at hq
            unfold aDC at h ⊢
            refine aFm h ?_
            intro h
            have q9 := hq _ rfl
            dsimp only at q9
            exact q9 h
          · have h := And.right h c34
            rw [if_neg c34] at hq
            refine And.intro (fun c35 => ?_) (fun c35 => ?_)
            · have h := And.left h c35
              rw [if_pos c35] at hq
              rw [aDR] at hq
              unfold aDC at h ⊢
              refine aFm h ?_
              intro h
              have q9 := hq _ rfl
              dsimp only at q9
              exact q9 h
            · have h := And.right h c35
              rw [if_neg c35] at hq
              refine aXH h ?_
              intro h
              refine aXI h ?_
              intro h
              rw [aDR] at hq
              unfold aDC at h ⊢
              refine aFm h ?_
              intro h
              have q9 := hq _ rfl
              dsimp only at q9
              exact q9 h
theorem du_X9_orchard {P Q : Int32 -> Int32 -> Int32 -> Int32 -> Int32 -> Int32 -> Int32 -> Int32 -> (Nat -> Int32) -> (Nat -> Int32) -> (Nat -> Int32) -> (Nat -> Int32) -> (Nat -> Int32) -> (Nat -> Int32) -> Int32 -> (Nat -> Int32) -> Prop} {qL qJ rX : Int32} {qM : Nat -> Int32} {dN bD bJ aI : Int32} {uU gF pL qF mX oE : Nat -> Int32} {pR : Int32} {uF : Nat -> Int32} (h : wp_X9_orchard P qL qJ rX qM dN bD bJ aI uU gF pL qF mX oE pR uF) (hq : P (aFs qL qJ rX qM dN bD bJ aI uU gF pL qF mX oE pR uF).1 (aFs qL qJ rX qM dN bD bJ aI uU gF pL qF mX oE pR uF).2.1 (aFs qL qJ rX qM dN bD bJ aI uU gF pL qF mX oE pR uF).2.2.1 (aFs qL qJ rX qM dN bD bJ aI uU gF pL qF mX oE pR uF).2.2.2.1 (aFs qL qJ rX qM dN bD bJ aI uU gF pL qF mX oE pR uF).2.2.2.2.1 (aFs qL qJ rX qM dN bD bJ aI uU gF pL qF mX oE pR uF).2.2.2.2.2.1 (aFs qL qJ rX qM dN bD bJ aI uU gF pL qF mX oE pR uF).2.2.2.2.2.2.1 (aFs qL qJ rX qM dN bD bJ aI uU gF pL qF mX oE pR uF).2.2.2.2.2.2.2.1 (aFs qL qJ rX qM dN bD bJ aI uU gF pL qF mX oE pR uF).2.2.2.2.2.2.2.2.1 (aFs qL qJ rX qM dN bD bJ aI uU gF pL qF mX oE pR uF).2.2.2.2.2.2.2.2.2.1 (aFs qL qJ rX qM dN bD bJ aI uU gF pL qF mX oE pR uF).2.2.2.2.2.2.2.2.2.2.1 (aFs qL qJ rX qM dN bD bJ aI uU gF pL qF mX oE pR uF).2.2.2.2.2.2.2.2.2.2.2.1 (aFs qL qJ rX qM dN bD bJ aI uU gF pL qF mX oE pR uF).2.2.2.2.2.2.2.2.2.2.2.2.1 (aFs qL qJ rX qM dN bD bJ aI uU gF pL qF mX oE pR uF).2.2.2.2.2.2.2.2.2.2.2.2.2.1 (aFs qL qJ rX qM dN bD bJ aI uU gF pL qF mX oE pR uF).2.2.2.2.2.2.2.2.2.2.2.2.2.2.1 (aFs qL qJ rX qM dN bD bJ aI uU gF pL qF mX oE pR uF).2.2.2.2.2.2.2.2.2.2.2.2.2.2.2 -> Q (aFs qL qJ rX qM dN bD bJ aI uU gF pL qF mX oE pR uF).1 (aFs qL qJ rX qM dN bD bJ aI uU gF pL qF mX oE pR uF).2.1 (aFs qL qJ rX qM dN bD bJ aI uU gF pL qF mX oE pR uF).2.2.1 (aFs qL qJ rX qM dN bD bJ aI uU gF pL qF mX oE pR uF).2.2.2.1 (aFs qL qJ rX qM dN bD bJ aI uU gF pL qF mX oE pR uF).2.2.2.2.1 (aFs qL qJ rX qM dN bD bJ aI uU gF pL qF mX oE pR uF).2.2.2.2.2.1 (aFs qL qJ rX qM dN bD bJ aI uU gF pL qF mX oE pR uF).2.2.2.2.2.2.1 (aFs qL qJ rX qM dN bD bJ aI uU gF pL qF mX oE pR uF).2.2.2.2.2.2.2.1 (aFs qL qJ rX qM dN bD bJ aI uU gF pL qF mX oE pR uF).2.2.2.2.2.2.2.2.1 (aFs qL qJ rX qM dN bD bJ aI uU gF pL qF mX oE pR uF).2.2.2.2.2.2.2.2.2.1 (aFs qL qJ rX qM dN bD bJ aI uU gF pL qF mX oE pR uF).2.2.2.2.2.2.2.2.2.2.1 (aFs qL qJ rX qM dN bD bJ aI uU gF pL qF mX oE pR uF).2.2.2.2.2.2.2.2.2.2.2.1 (aFs qL qJ rX qM dN bD bJ aI uU gF pL qF mX oE pR uF).2.2.2.2.2.2.2.2.2.2.2.2.1 (aFs qL qJ rX qM dN bD bJ aI uU gF pL qF mX oE pR uF).2.2.2.2.2.2.2.2.2.2.2.2.2.1 (aFs qL qJ rX qM dN bD bJ aI uU gF pL qF mX oE pR uF).2.2.2.2.2.2.2.2.2.2.2.2.2.2.1 (aFs qL qJ rX qM dN bD bJ aI uU gF pL qF mX oE pR uF).2.2.2.2.2.2.2.2.2.2.2.2.2.2.2) : wp_X9_orchard Q qL qJ rX qM dN bD bJ aI uU gF pL qF mX oE pR uF := dt_X9_orchard h (fun o eo => by rw [eo]; exact hq)
theorem dw_X9_orchard {Q : Int32 -> Int32 -> Int32 -> Int32 -> Int32 -> Int32 -> Int32 -> Int32 -> (Nat -> Int32) -> (Nat -> Int32) -> (Nat -> Int32) -> (Nat -> Int32) -> (Nat -> Int32) -> (Nat -> Int32) -> Int32 -> (Nat -> Int32) -> Prop} {qL qJ rX : Int32} {qM : Nat -> Int32} {dN bD bJ aI : Int32} {uU gF pL qF mX oE : Nat -> Int32} {pR : Int32} {uF : Nat -> Int32} (h : wp_X9_orchard (fun o0 o1 o2 o3 o4 o5 o6 o7 o8 o9 o10 o11 o12 o13 o14 o15 => (o0, o1, o2, o3, o4, o5, o6, o7, o8, o9, o10, o11, o12, o13, o14, o15) = aFs qL qJ rX qM dN bD bJ aI uU gF pL qF mX oE pR uF -> Q o0 o1 o2 o3 o4 o5 o6 o7 o8 o9 o10 o11 o12 o13 o14 o15) qL qJ rX qM dN bD bJ aI uU gF pL qF mX oE pR uF) : wp_X9_orchard Q qL qJ rX qM dN bD bJ aI uU gF pL qF mX oE pR uF := dt_X9_orchard h (fun o eo hp => hp eo)
noncomputable def aRs (jD : Nat) (mLn oF rP : Int32) (qO qQ : Nat -> Int32) : Int32 := if mLn <= rP then (-1) else (if oF <= rP then (-1) else (if jD = 1 then ((qO rP.toNatClampNeg) &&& 255) else ((qQ rP.toNatClampNeg) &&& 255)))
set_option maxHeartbeats 200000 in
set_option maxRecDepth 10000 in
theorem dt_X10_here {P Q : Int32 -> Prop} {jD : Nat} {mLn oF rP : Int32} {qO qQ : Nat -> Int32} (h : aPe P jD mLn oF rP qO qQ) (hq : ∀ o : Int32, o = aRs jD mLn oF rP qO qQ -> P o -> Q o) : aPe Q jD mLn oF rP qO qQ := by
  rw [aRs] at hq
  refine And.intro (fun c1 => ?_) (fun c1 => ?_)
  · have h := And.left h c1
    rw [if_pos c1] at hq
    have q9 := hq _ rfl
    exact q9 h
  · have h := And.right h c1
    rw [if_neg c1] at hq
    refine And.intro (fun c2 => ?_) (fun c2 => ?_)
    · have h := And.left h c2
      rw [if_pos c2] at hq
      have q9 := hq _ rfl
      exact q9 h
    · have h := And.right h c2
      rw [if_neg c2] at hq
      rcases h with ⟨hr9, hv9, h⟩ | ⟨hr9, hv9, h⟩
      · refine Or.inl ⟨hr9, hv9, ?_⟩
        rw [if_pos hr9] at hq
        refine ae ?_
        have h := h _ rfl
        refine ae ?_
        have h := h _ rfl
        have q9 := hq _ rfl
        exact q9 h
      · refine Or.inr ⟨hr9, hv9, ?_⟩
        rw [if_neg (by rw [hr9]; decide)] at hq
        refine ae ?_
        have h := h _ rfl
        refine ae ?_
        have h := h _ rfl
        have q9 := hq _ rfl
        exact q9 h
theorem du_X10_here {P Q : Int32 -> Prop} {jD : Nat} {mLn oF rP : Int32} {qO qQ : Nat -> Int32} (h : aPe P jD mLn oF rP qO qQ) (hq : P (aRs jD mLn oF rP qO qQ) -> Q (aRs jD mLn oF rP qO qQ)) : aPe Q jD mLn oF rP qO qQ := dt_X10_here h (fun o eo => by rw [eo]; exact hq)
theorem dw_X10_here {Q : Int32 -> Prop} {jD : Nat} {mLn oF rP : Int32} {qO qQ : Nat -> Int32} (h : aPe (fun o0 => o0 = aRs jD mLn oF rP qO qQ -> Q o0) jD mLn oF rP qO qQ) : aPe Q jD mLn oF rP qO qQ := dt_X10_here h (fun o eo hp => hp eo)
noncomputable def F_X10_fine (dQ : Int32) : Int32 := if dQ = (-1) then 1 else 0
set_option maxHeartbeats 200000 in
set_option maxRecDepth 10000 in
theorem dt_X10_fine {P Q : Int32 -> Prop} {dQ : Int32} (h : aRX P dQ) (hq : ∀ o : Int32, o = F_X10_fine dQ -> P o -> Q o) : aRX Q dQ := by
  rw [F_X10_fine] at hq
  refine And.intro (fun c1 => ?_) (fun c1 => ?_)
  · have h := And.left h c1
    rw [if_neg c1] at hq
    have q9 := hq _ rfl
    exact q9 h
  · have h := And.right h c1
    rw [if_pos c1] at hq
    have q9 := hq _ rfl
    exact q9 h
theorem du_X10_fine {P Q : Int32 -> Prop} {dQ : Int32} (h : aRX P dQ) (hq : P (F_X10_fine dQ) -> Q (F_X10_fine dQ)) : aRX Q dQ := dt_X10_fine h (fun o eo => by rw [eo]; exact hq)
theorem dw_X10_fine {Q : Int32 -> Prop} {dQ : Int32} (h : aRX (fun o0 => o0 = F_X10_fine dQ -> Q o0) dQ) : aRX Q dQ := dt_X10_fine h (fun o eo hp => hp eo)
noncomputable def F_X10_fault (p0 dQ : Int32) : Int32 := if (F_X10_fine dQ) = 0 then dQ else p0
set_option maxHeartbeats 200000 in
set_option maxRecDepth 10000 in
theorem dt_X10_fault {P Q : Int32 -> Prop} {p0 dQ : Int32} (h : aSQ P p0 dQ) (hq : ∀ o : Int32, o = F_X10_fault p0 dQ -> P o -> Q o) : aSQ Q p0 dQ := by
  rw [F_X10_fault] at hq
  refine du_X10_fine h ?_
  intro h
  refine And.intro (fun c1 => ?_) (fun c1 => ?_)
  · have h := And.left h c1
    rw [if_pos c1] at hq
    have q9 := hq _ rfl
    exact q9 h
  · have h := And.right h c1
    rw [if_neg c1] at hq
    have q9 := hq _ rfl
    exact q9 h
theorem du_X10_fault {P Q : Int32 -> Prop} {p0 dQ : Int32} (h : aSQ P p0 dQ) (hq : P (F_X10_fault p0 dQ) -> Q (F_X10_fault p0 dQ)) : aSQ Q p0 dQ := dt_X10_fault h (fun o eo => by rw [eo]; exact hq)
theorem dw_X10_fault {Q : Int32 -> Prop} {p0 dQ : Int32} (h : aSQ (fun o0 => o0 = F_X10_fault p0 dQ -> Q o0) p0 dQ) : aSQ Q p0 dQ := dt_X10_fault h (fun o eo hp => hp eo)
noncomputable def aUe (p0 p1 p2 : Int32) : Int32 := if p0 < p1 then 0 else (if p2 < p0 then 0 else 1)
set_option maxHeartbeats 200000 in
set_option maxRecDepth 10000 in
theorem dt_X10_in {P Q : Int32 -> Prop} {p0 p1 p2 : Int32} (h : aJY P p0 p1 p2) (hq : ∀ o : Int32, o = aUe p0 p1 p2 -> P o -> Q o) : aJY Q p0 p1 p2 := by
  rw [aUe] at hq
  refine And.intro (fun c1 => ?_) (fun c1 => ?_)
  · have h := And.left h c1
    rw [if_pos c1] at hq
    have q9 := hq _ rfl
    exact q9 h
  · have h := And.right h c1
    rw [if_neg c1] at hq
    refine And.intro (fun c2 => ?_) (fun c2 => ?_)
    · have h := And.left h c2
      rw [if_pos c2] at hq
      have q9 := hq _ rfl
      exact q9 h
    · have h := And.right h c2
      rw [if_neg c2] at hq
      have q9 := hq _ rfl
      exact q9 h
theorem du_X10_in {P Q : Int32 -> Prop} {p0 p1 p2 : Int32} (h : aJY P p0 p1 p2) (hq : P (aUe p0 p1 p2) -> Q (aUe p0 p1 p2)) : aJY Q p0 p1 p2 := dt_X10_in h (fun o eo => by rw [eo]; exact hq)
theorem dw_X10_in {Q : Int32 -> Prop} {p0 p1 p2 : Int32} (h : aJY (fun o0 => o0 = aUe p0 p1 p2 -> Q o0) p0 p1 p2) : aJY Q p0 p1 p2 := dt_X10_in h (fun o eo hp => hp eo)
theorem in_hi {v a b : Int32} (h : ¬ aUe v a b = 0) : Int32.toInt v <= Int32.toInt b := by
  rw [aUe] at h
  by_cases h1 : v < a
  · rw [if_pos h1] at h
    exact absurd rfl h
  · rw [if_neg h1] at h
    by_cases h2 : b < v
    · rw [if_pos h2] at h
      exact absurd rfl h
    · have q := mt (aAd b v).mpr h2
      omega
theorem in30 {v a : Int32} (h : ¬ aUe v a 30 = 0) : Int32.toInt v < 2147483647 := by
  have l : Int32.toInt (30 : Int32) = 30 := by decide
  have q := in_hi h
  omega
noncomputable def j_X10_number_66 {R : Type} (po : Int32 -> Int32 -> Int32 -> R) (jD : Nat) (mLn oF : Int32) (qO qQ : Nat -> Int32) (x2 x3 rP dQ : Int32) : R := if rP = x2 then (po x3 rP (F_X10_fault rP dQ)) else (po x3 rP dQ)
noncomputable def bCU {R : Type} (po : Int32 -> Int32 -> Int32 -> R) (jD : Nat) (mLn oF : Int32) (qO qQ : Nat -> Int32) (nx : Int32 -> Int32 -> Int32 -> Int32 -> Int32 -> R) (x1 x2 x3 rP dQ : Int32) : R := if (x2 + x1) <= rP then (j_X10_number_66 po jD mLn oF qO qQ x2 x3 rP dQ) else (if (aUe (aRs jD mLn oF rP qO qQ) 48 57) = 0 then (j_X10_number_66 po jD mLn oF qO qQ x2 x3 rP dQ) else (nx x1 x2 (((10 * x3) + (aRs jD mLn oF rP qO qQ)) - 48) (rP + 1) dQ))
set_option maxHeartbeats 200000 in
set_option maxRecDepth 10000 in
theorem dl_X10_number_16 {P Q : Int32 -> Int32 -> Int32 -> Prop} {jD : Nat} {mLn oF : Int32} {qO qQ : Nat -> Int32} {R : Type} {po : Int32 -> Int32 -> Int32 -> R} {d : Int32 -> Int32 -> Int32 -> Int32 -> Int32 -> R} : ∀ (n m : Nat) (x1 x2 x3 rP dQ : Int32), True -> (((Int32.toInt (x2 + x1) - Int32.toInt rP).toNat : Nat) : Int) < (m : Int) -> wb_X10_number_16 P jD mLn oF qO qQ n x1 x2 x3 rP dQ -> (∀ (b0 b1 b2 : Int32), po b0 b1 b2 = flp (bCU po jD mLn oF qO qQ) d m x1 x2 x3 rP dQ -> P b0 b1 b2 -> Q b0 b1 b2) -> wb_X10_number_16 Q jD mLn oF qO qQ n x1 x2 x3 rP dQ := by
  have l1 : Int32.toInt (1 : Int32) = 1 := by decide
  intro n
  induction n with
  | zero => intro m x1 x2 x3 rP dQ hv hm h hq; exact False.elim h
  | succ n ih =>
    intro m x1 x2 x3 rP dQ hv hm h hq
    cases m with
    | zero => exfalso; omega
    | succ m =>
      rw [flp_s, bCU] at hq
      have h : ws_X10_number_16 P (wb_X10_number_16 P jD mLn oF qO qQ n) jD mLn oF qO qQ x1 x2 x3 rP dQ := h
      show ws_X10_number_16 Q (wb_X10_number_16 Q jD mLn oF qO qQ n) jD mLn oF qO qQ x1 x2 x3 rP dQ
      unfold ws_X10_number_16 at h ⊢
      refine And.intro (fun c1 => ?_) (fun c1 => ?_)
      · have h := And.left h c1
        rw [if_pos c1] at hq
        have dc1 := (aAO _ _).mp c1
        rw [j_X10_number_66] at hq
        unfold ws_X10_number_66 at h ⊢
        refine And.intro (fun c2 => ?_) (fun c2 => ?_)
        · have h := And.left h c2
          rw [if_neg c2] at hq
          have dc2 := mt (zJ _ _).mpr c2
          exact hq _ _ _ rfl h
        · have h := And.right h c2
          rw [if_pos c2] at hq
          have dc2 := (zJ _ _).mp c2
          refine du_X10_fault h ?_
          intro h
          exact hq _ _ _ rfl h
      · have h := And.right h c1
        rw [if_neg c1] at hq
        have dc1 := mt (aAO _ _).mpr c1
        refine du_X10_here h ?_
        intro h
        refine du_X10_in h ?_
        intro h
        refine And.intro (fun c3 => ?_) (fun c3 => ?_)
        · have h := And.left h c3
          rw [if_pos c3] at hq
          have dc3 := (zJ _ _).mp c3
          rw [j_X10_number_66] at hq
          unfold ws_X10_number_66 at h ⊢
          refine And.intro (fun c4 => ?_) (fun c4 => ?_)
          · have h := And.left h c4
            rw [if_neg c4] at hq
            have dc4 := mt (zJ _ _).mpr c4
            exact hq _ _ _ rfl h
          · have h := And.right h c4
            rw [if_pos c4] at hq
            have dc4 := (zJ _ _).mp c4
            refine du_X10_fault h ?_
            intro h
            exact hq _ _ _ rfl h
        · have h := And.right h c3
          rw [if_neg c3] at hq
          have dc3 := mt (zJ _ _).mpr c3
          refine ae ?_
          have h := h _ rfl
          refine du_X10_here h ?_
          intro h
          refine ae ?_
          have h := h _ rfl
          refine ae ?_
          have h := h _ rfl
          refine ae ?_
          have h := h _ rfl
          have r9 := aAT (x2 + x1)
          have r8 := aAT rP
          have f9 := aAD rP 1 (by omega)
          exact ih m _ _ _ _ _ trivial (by omega) h hq
noncomputable def aBD (p0 : Int32) (jD : Nat) (mLn oF rP dQ : Int32) (qO qQ : Nat -> Int32) : Int32 × Int32 × Int32 := if (F_X10_fine dQ) = 0 then (0, rP, dQ) else (flp (bCU (fun o0 o1 o2 => (o0, o1, o2)) jD mLn oF qO qQ) (fun _ _ _ _ _ => (0, 0, 0)) 4 p0 rP 0 rP dQ)
set_option maxHeartbeats 200000 in
set_option maxRecDepth 10000 in
theorem dt_X10_number {P Q : Int32 -> Int32 -> Int32 -> Prop} {p0 : Int32} {jD : Nat} {mLn oF rP dQ : Int32} {qO qQ : Nat -> Int32} (hy0 : 0 <= Int32.toInt p0 /\ Int32.toInt p0 <= 3) (h : aOj P p0 jD mLn oF rP dQ qO qQ) (hq : ∀ o : Int32 × Int32 × Int32, o = aBD p0 jD mLn oF rP dQ qO qQ -> P o.1 o.2.1 o.2.2 -> Q o.1 o.2.1 o.2.2) : aOj Q p0 jD mLn oF rP dQ qO qQ := by
  rw [aBD] at hq
  refine du_X10_fine h ?_
  intro h
  refine And.intro (fun c1 => ?_) (fun c1 => ?_)
  · have h := And.left h c1
    rw [if_neg c1] at hq
    obtain ⟨n2, h⟩ := h
    exact ⟨n2, dl_X10_number_16 n2 4 _ _ _ _ _ trivial (ad_lt hy0) h (fun b0 b1 b2 e9 h9 => hq (b0, b1, b2) e9 h9)⟩
  · have h := And.right h c1
    rw [if_pos c1] at hq
    have q9 := hq _ rfl
    dsimp only at q9
    exact q9 h
theorem aEu {P Q : Int32 -> Int32 -> Int32 -> Prop} {p0 : Int32} {jD : Nat} {mLn oF rP dQ : Int32} {qO qQ : Nat -> Int32} (hy0 : 0 <= Int32.toInt p0 /\ Int32.toInt p0 <= 3) (h : aOj P p0 jD mLn oF rP dQ qO qQ) (hq : P (aBD p0 jD mLn oF rP dQ qO qQ).1 (aBD p0 jD mLn oF rP dQ qO qQ).2.1 (aBD p0 jD mLn oF rP dQ qO qQ).2.2 -> Q (aBD p0 jD mLn oF rP dQ qO qQ).1 (aBD p0 jD mLn oF rP dQ qO qQ).2.1 (aBD p0 jD mLn oF rP dQ qO qQ).2.2) : aOj Q p0 jD mLn oF rP dQ qO qQ := dt_X10_number hy0 h (fun o eo => by rw [eo]; exact hq)
theorem dw_X10_number {Q : Int32 -> Int32 -> Int32 -> Prop} {p0 : Int32} {jD : Nat} {mLn oF rP dQ : Int32} {qO qQ : Nat -> Int32} (hy0 : 0 <= Int32.toInt p0 /\ Int32.toInt p0 <= 3) (h : aOj (fun o0 o1 o2 => (o0, o1, o2) = aBD p0 jD mLn oF rP dQ qO qQ -> Q o0 o1 o2) p0 jD mLn oF rP dQ qO qQ) : aOj Q p0 jD mLn oF rP dQ qO qQ := dt_X10_number hy0 h (fun o eo hp => hp eo)
noncomputable def aH1 (p0 : Int32) (jD : Nat) (mLn oF rP dQ : Int32) (qO qQ : Nat -> Int32) : Int32 × Int32 := if (F_X10_fine dQ) = 0 then (0, rP) else (if (aRs jD mLn oF rP qO qQ) = p0 then (1, (rP + 1)) else (0, rP))
set_option maxHeartbeats 200000 in
set_option maxRecDepth 10000 in
theorem dt_X10_passes {P Q : Int32 -> Int32 -> Prop} {p0 : Int32} {jD : Nat} {mLn oF rP dQ : Int32} {qO qQ : Nat -> Int32} (h : aPM P p0 jD mLn oF rP dQ qO qQ) (hq : ∀ o : Int32 × Int32, o = aH1 p0 jD mLn oF rP dQ qO qQ -> P o.1 o.2 -> Q o.1 o.2) : aPM Q p0 jD mLn oF rP dQ qO qQ := by
  rw [aH1] at hq
  refine du_X10_fine h ?_
  intro h
  refine And.intro (fun c1 => ?_) (fun c1 => ?_)
  · have h := And.left h c1
    rw [if_pos c1] at hq
    have q9 := hq _ rfl
    dsimp only at q9
    exact q9 h
  · have h := And.right h c1
    rw [if_neg c1] at hq
    refine du_X10_here h ?_
    intro h
    refine And.intro (fun c2 => ?_) (fun c2 => ?_)
    · have h := And.left h c2
      rw [if_pos c2] at hq
      refine ae ?_
      have h := h _ rfl
      have q9 := hq _ rfl
      dsimp only at q9
      exact q9 h
    · have h := And.right h c2
      rw [if_neg c2] at hq
      have q9 := hq _ rfl
      dsimp only at q9
      exact q9 h
theorem du_X10_passes {P Q : Int32 -> Int32 -> Prop} {p0 : Int32} {jD : Nat} {mLn oF rP dQ : Int32} {qO qQ : Nat -> Int32} (h : aPM P p0 jD mLn oF rP dQ qO qQ) (hq : P (aH1 p0 jD mLn oF rP dQ qO qQ).1 (aH1 p0 jD mLn oF rP dQ qO qQ).2 -> Q (aH1 p0 jD mLn oF rP dQ qO qQ).1 (aH1 p0 jD mLn oF rP dQ qO qQ).2) : aPM Q p0 jD mLn oF rP dQ qO qQ := dt_X10_passes h (fun o eo => by rw [eo]; exact hq)
theorem dw_X10_passes {Q : Int32 -> Int32 -> Prop} {p0 : Int32} {jD : Nat} {mLn oF rP dQ : Int32} {qO qQ : Nat -> Int32} (h : aPM (fun o0 o1 => (o0, o1) = aH1 p0 jD mLn oF rP dQ qO qQ -> Q o0 o1) p0 jD mLn oF rP dQ qO qQ) : aPM Q p0 jD mLn oF rP dQ qO qQ := dt_X10_passes h (fun o eo hp => hp eo)
noncomputable def aD5 (p0 : Int32) (jD : Nat) (mLn oF rP dQ : Int32) (qO qQ : Nat -> Int32) : Int32 × Int32 := if (aH1 p0 jD mLn oF rP dQ qO qQ).1 = 0 then ((aH1 p0 jD mLn oF rP dQ qO qQ).2, (F_X10_fault (aH1 p0 jD mLn oF rP dQ qO qQ).2 dQ)) else ((aH1 p0 jD mLn oF rP dQ qO qQ).2, dQ)
set_option maxHeartbeats 200000 in
set_option maxRecDepth 10000 in
theorem dt_X10_need {P Q : Int32 -> Int32 -> Prop} {p0 : Int32} {jD : Nat} {mLn oF rP dQ : Int32} {qO qQ : Nat -> Int32} (h : wp_X10_need P p0 jD mLn oF rP dQ qO qQ) (hq : ∀ o : Int32 × Int32, o = aD5 p0 jD mLn oF rP dQ qO qQ -> P o.1 o.2 -> Q o.1 o.2) : wp_X10_need Q p0 jD mLn oF rP dQ qO qQ := by
  rw [aD5] at hq
  refine du_X10_passes h ?_
  intro h
  refine And.intro (fun c1 => ?_) (fun c1 => ?_)
  · have h := And.left h c1
    rw [if_neg c1] at hq
    have q9 := hq _ rfl
    dsimp only at q9
    exact q9 h
  · have h := And.right h c1
    rw [if_pos c1] at hq
    refine du_X10_fault h ?_
    intro h
    have q9 := hq _ rfl
    dsimp only at q9
    exact q9 h
theorem du_X10_need {P Q : Int32 -> Int32 -> Prop} {p0 : Int32} {jD : Nat} {mLn oF rP dQ : Int32} {qO qQ : Nat -> Int32} (h : wp_X10_need P p0 jD mLn oF rP dQ qO qQ) (hq : P (aD5 p0 jD mLn oF rP dQ qO qQ).1 (aD5 p0 jD mLn oF rP dQ qO qQ).2 -> Q (aD5 p0 jD mLn oF rP dQ qO qQ).1 (aD5 p0 jD mLn oF rP dQ qO qQ).2) : wp_X10_need Q p0 jD mLn oF rP dQ qO qQ := dt_X10_need h (fun o eo => by rw [eo]; exact hq)
theorem dw_X10_need {Q : Int32 -> Int32 -> Prop} {p0 : Int32} {jD : Nat} {mLn oF rP dQ : Int32} {qO qQ : Nat -> Int32} (h : wp_X10_need (fun o0 o1 => (o0, o1) = aD5 p0 jD mLn oF rP dQ qO qQ -> Q o0 o1) p0 jD mLn oF rP dQ qO qQ) : wp_X10_need Q p0 jD mLn oF rP dQ qO qQ := dt_X10_need h (fun o eo hp => hp eo)
noncomputable def aYZ {R : Type} (po : Int32 -> Int32 -> Int32 -> Int32 -> (Nat -> Int32) -> (Nat -> Int32) -> R) (bT aG : Int32) (jD : Nat) (mLn oF : Int32) (qO qQ : Nat -> Int32) (rP dQ aJ aB : Int32) (qT qA : Nat -> Int32) : R := po rP (F_X10_fault rP dQ) aJ aB qT qA
noncomputable def bBh {R : Type} (po : Int32 -> Int32 -> Int32 -> Int32 -> (Nat -> Int32) -> (Nat -> Int32) -> R) (bT aG : Int32) (jD : Nat) (mLn oF : Int32) (qO qQ : Nat -> Int32) (rP dQ aJ aB : Int32) (qT qA : Nat -> Int32) : R := if (aRs jD mLn oF rP qO qQ) = 115 then (if 8 <= (aG + aB) then (aYZ po bT aG jD mLn oF qO qQ rP dQ aJ aB qT qA) else (po ((aBD 2 jD mLn oF (aD5 44 jD mLn oF (aBD 2 jD mLn oF (rP + 1) dQ qO qQ).2.1 (aBD 2 jD mLn oF (rP + 1) dQ qO qQ).2.2 qO qQ).1 (aD5 44 jD mLn oF (aBD 2 jD mLn oF (rP + 1) dQ qO qQ).2.1 (aBD 2 jD mLn oF (rP + 1) dQ qO qQ).2.2 qO qQ).2 qO qQ).2.1) ((aBD 2 jD mLn oF (aD5 44 jD mLn oF (aBD 2 jD mLn oF (rP + 1) dQ qO qQ).2.1 (aBD 2 jD mLn oF (rP + 1) dQ qO qQ).2.2 qO qQ).1 (aD5 44 jD mLn oF (aBD 2 jD mLn oF (rP + 1) dQ qO qQ).2.1 (aBD 2 jD mLn oF (rP + 1) dQ qO qQ).2.2 qO qQ).2 qO qQ).2.2) aJ (aB + 1) qT (upd (upd qA (2 * aB).toNatClampNeg (aBD 2 jD mLn oF (rP + 1) dQ qO qQ).1) ((2 * aB) + 1).toNatClampNeg (aBD 2 jD mLn oF (aD5 44 jD mLn oF (aBD 2 jD mLn oF (rP + 1) dQ qO qQ).2.1 (aBD 2 jD mLn oF (rP + 1) dQ qO qQ).2.2 qO qQ).1 (aD5 44 jD mLn oF (aBD 2 jD mLn oF (rP + 1) dQ qO qQ).2.1 (aBD 2 jD mLn oF (rP + 1) dQ qO qQ).2.2 qO qQ).2 qO qQ).1))) else (aYZ po bT aG jD mLn oF qO qQ rP dQ aJ aB qT qA)
noncomputable def aLp {R : Type} (po : Int32 -> Int32 -> Int32 -> Int32 -> (Nat -> Int32) -> (Nat -> Int32) -> R) (bT aG : Int32) (jD : Nat) (mLn oF : Int32) (qO qQ : Nat -> Int32) (k1 k2 rP dQ aJ aB : Int32) (qT qA : Nat -> Int32) : R := po rP dQ (aJ + 1) aB (upd qT k1.toNatClampNeg k2) qA
noncomputable def aRi {R : Type} (po : Int32 -> Int32 -> Int32 -> Int32 -> (Nat -> Int32) -> (Nat -> Int32) -> R) (bT aG : Int32) (jD : Nat) (mLn oF : Int32) (qO qQ : Nat -> Int32) (x1 k1 k2 rP dQ aJ aB : Int32) (qT qA : Nat -> Int32) : R := if (aH1 64 jD mLn oF rP dQ qO qQ).1 = 0 then (aLp po bT aG jD mLn oF qO qQ (x1 + 3) 0 ((aH1 64 jD mLn oF rP dQ qO qQ).2) dQ aJ aB (upd qT k1.toNatClampNeg k2) qA) else (aLp po bT aG jD mLn oF qO qQ (x1 + 3) ((aBD 1 jD mLn oF (aH1 64 jD mLn oF rP dQ qO qQ).2 dQ qO qQ).1) ((aBD 1 jD mLn oF (aH1 64 jD mLn oF rP dQ qO qQ).2 dQ qO qQ).2.1) ((aBD 1 jD mLn oF (aH1 64 jD mLn oF rP dQ qO qQ).2 dQ qO qQ).2.2) aJ aB (upd qT k1.toNatClampNeg k2) qA)
noncomputable def aGL (bT aG : Int32) (jD : Nat) (mLn oF rP dQ aJ aB : Int32) (qO qT qA qQ : Nat -> Int32) : Int32 × Int32 × Int32 × Int32 × (Nat -> Int32) × (Nat -> Int32) := if (aRs jD mLn oF rP qO qQ) = 102 then (if 16 <= (bT + aJ) then (bBh (fun o0 o1 o2 o3 o4 o5 => (o0, o1, o2, o3, o4, o5)) bT aG jD mLn oF qO qQ rP dQ aJ aB qT qA) else (if (aH1 42 jD mLn oF (aBD 2 jD mLn oF (aD5 44 jD mLn oF (aBD 2 jD mLn oF (rP + 1) dQ qO qQ).2.1 (aBD 2 jD mLn oF (rP + 1) dQ qO qQ).2.2 qO qQ).1 (aD5 44 jD mLn oF (aBD 2 jD mLn oF (rP + 1) dQ qO qQ).2.1 (aBD 2 jD mLn oF (rP + 1) dQ qO qQ).2.2 qO qQ).2 qO qQ).2.1 (aBD 2 jD mLn oF (aD5 44 jD mLn oF (aBD 2 jD mLn oF (rP + 1) dQ qO qQ).2.1 (aBD 2 jD mLn oF (rP + 1) dQ qO qQ).2.2 qO qQ).1 (aD5 44 jD mLn oF (aBD 2 jD mLn oF (rP + 1) dQ qO qQ).2.1 (aBD 2 jD mLn oF (rP + 1) dQ qO qQ).2.2 qO qQ).2 qO qQ).2.2 qO qQ).1 = 0 then (aRi (fun o0 o1 o2 o3 o4 o5 => (o0, o1, o2, o3, o4, o5)) bT aG jD mLn oF qO qQ (4 * aJ) ((4 * aJ) + 2) 1 ((aH1 42 jD mLn oF (aBD 2 jD mLn oF (aD5 44 jD mLn oF (aBD 2 jD mLn oF (rP + 1) dQ qO qQ).2.1 (aBD 2 jD mLn oF (rP + 1) dQ qO qQ).2.2 qO qQ).1 (aD5 44 jD mLn oF (aBD 2 jD mLn oF (rP + 1) dQ qO qQ).2.1 (aBD 2 jD mLn oF (rP + 1) dQ qO qQ).2.2 qO qQ).2 qO qQ).2.1 (aBD 2 jD mLn oF (aD5 44 jD mLn oF (aBD 2 jD mLn oF (rP + 1) dQ qO qQ).2.1 (aBD 2 jD mLn oF (rP + 1) dQ qO qQ).2.2 qO qQ).1 (aD5 44 jD mLn oF (aBD 2 jD mLn oF (rP + 1) dQ qO qQ).2.1 (aBD 2 jD mLn oF (rP + 1) dQ qO qQ).2.2 qO qQ).2 qO qQ).2.2 qO qQ).2) ((aBD 2 jD mLn oF (aD5 44 jD mLn oF (aBD 2 jD mLn oF (rP + 1) dQ qO qQ).2.1 (aBD 2 jD mLn oF (rP + 1) dQ qO qQ).2.2 qO qQ).1 (aD5 44 jD mLn oF (aBD 2 jD mLn oF (rP + 1) dQ qO qQ).2.1 (aBD 2 jD mLn oF (rP + 1) dQ qO qQ).2.2 qO qQ).2 qO qQ).2.2) aJ aB (upd (upd qT (4 * aJ).toNatClampNeg (aBD 2 jD mLn oF (rP + 1) dQ qO qQ).1) ((4 * aJ) + 1).toNatClampNeg (aBD 2 jD mLn oF (aD5 44 jD mLn oF (aBD 2 jD mLn oF (rP + 1) dQ qO qQ).2.1 (aBD 2 jD mLn oF (rP + 1) dQ qO qQ).2.2 qO qQ).1 (aD5 44 jD mLn oF (aBD 2 jD mLn oF (rP + 1) dQ qO qQ).2.1 (aBD 2 jD mLn oF (rP + 1) dQ qO qQ).2.2 qO qQ).2 qO qQ).1) qA) else (aRi (fun o0 o1 o2 o3 o4 o5 => (o0, o1, o2, o3, o4, o5)) bT aG jD mLn oF qO qQ (4 * aJ) ((4 * aJ) + 2) ((aBD 1 jD mLn oF (aH1 42 jD mLn oF (aBD 2 jD mLn oF (aD5 44 jD mLn oF (aBD 2 jD mLn oF (rP + 1) dQ qO qQ).2.1 (aBD 2 jD mLn oF (rP + 1) dQ qO qQ).2.2 qO qQ).1 (aD5 44 jD mLn oF (aBD 2 jD mLn oF (rP + 1) dQ qO qQ).2.1 (aBD 2 jD mLn oF (rP + 1) dQ qO qQ).2.2 qO qQ).2 qO qQ).2.1 (aBD 2 jD mLn oF (aD5 44 jD mLn oF (aBD 2 jD mLn oF (rP + 1) dQ qO qQ).2.1 (aBD 2 jD mLn oF (rP + 1) dQ qO qQ).2.2 qO qQ).1 (aD5 44 jD mLn oF (aBD 2 jD mLn oF (rP + 1) dQ qO qQ).2.1 (aBD 2 jD mLn oF (rP + 1) dQ qO qQ).2.2 qO qQ).2 qO qQ).2.2 qO qQ).2 (aBD 2 jD mLn oF (aD5 44 jD mLn oF (aBD 2 jD mLn oF (rP + 1) dQ qO qQ).2.1 (aBD 2 jD mLn oF (rP + 1) dQ qO qQ).2.2 qO qQ).1 (aD5 44 jD mLn oF (aBD 2 jD mLn oF (rP + 1) dQ qO qQ).2.1 (aBD 2 jD mLn oF (rP + 1) dQ qO qQ).2.2 qO qQ).2 qO qQ).2.2 qO qQ).1) ((aBD 1 jD mLn oF (aH1 42 jD mLn oF (aBD 2 jD mLn oF (aD5 44 jD mLn oF (aBD 2 jD mLn oF (rP + 1) dQ qO qQ).2.1 (aBD 2 jD mLn oF (rP + 1) dQ qO qQ).2.2 qO qQ).1 (aD5 44 jD mLn oF (aBD 2 jD mLn oF (rP + 1) dQ qO qQ).2.1 (aBD 2 jD mLn oF (rP + 1) dQ qO qQ).2.2 qO qQ).2 qO qQ).2.1 (aBD 2 jD mLn oF (aD5 44 jD mLn oF (aBD 2 jD mLn oF (rP + 1) dQ qO qQ).2.1 (aBD 2 jD mLn oF (rP + 1) dQ qO qQ).2.2 qO qQ).1 (aD5 44 jD mLn oF (aBD 2 jD mLn oF (rP + 1) dQ qO qQ).2.1 (aBD 2 jD mLn oF (rP + 1) dQ qO qQ).2.2 qO qQ).2 qO qQ).2.2 qO qQ).2 (aBD 2 jD mLn oF (aD5 44 jD mLn oF (aBD 2 jD mLn oF (rP + 1) dQ qO qQ).2.1 (aBD 2 jD mLn oF (rP + 1) dQ qO qQ).2.2 qO qQ).1 (aD5 44 jD mLn oF (aBD 2 jD mLn oF (rP + 1) dQ qO qQ).2.1 (aBD 2 jD mLn oF (rP + 1) dQ qO qQ).2.2 qO qQ).2 qO qQ).2.2 qO qQ).2.1) ((aBD 1 jD mLn oF (aH1 42 jD mLn oF (aBD 2 jD mLn oF (aD5 44 jD mLn oF (aBD 2 jD mLn oF (rP + 1) dQ qO qQ).2.1 (aBD 2 jD mLn oF (rP + 1) dQ qO qQ).2.2 qO qQ).1 (aD5 44 jD mLn oF (aBD 2 jD mLn oF (rP + 1) dQ qO qQ).2.1 (aBD 2 jD mLn oF (rP + 1) dQ qO qQ).2.2 qO qQ).2 qO qQ).2.1 (aBD 2 jD mLn oF (aD5 44 jD mLn oF (aBD 2 jD mLn oF (rP + 1) dQ qO qQ).2.1 (aBD 2 jD mLn oF (rP + 1) dQ qO qQ).2.2 qO qQ).1 (aD5 44 jD mLn oF (aBD 2 jD mLn oF (rP + 1) dQ qO qQ).2.1 (aBD 2 jD mLn oF (rP + 1) dQ qO qQ).2.2 qO qQ).2 qO qQ).2.2 qO qQ).2 (aBD 2 jD mLn oF (aD5 44 jD mLn oF (aBD 2 jD mLn oF (rP + 1) dQ qO qQ).2.1 (aBD 2 jD mLn oF (rP + 1) dQ qO qQ).2.2 qO qQ).1 (aD5 44 jD mLn oF (aBD 2 jD mLn oF (rP + 1) dQ qO qQ).2.1 (aBD 2 jD mLn oF (rP + 1) dQ qO qQ).2.2 qO qQ).2 qO qQ).2.2 qO qQ).2.2) aJ aB (upd (upd qT (4 * aJ).toNatClampNeg (aBD 2 jD mLn oF (rP + 1) dQ qO qQ).1) ((4 * aJ) + 1).toNatClampNeg (aBD 2 jD mLn oF (aD5 44 jD mLn oF (aBD 2 jD mLn oF (rP + 1) dQ qO qQ).2.1 (aBD 2 jD mLn oF (rP + 1) dQ qO qQ).2.2 qO qQ).1 (aD5 44 jD mLn oF (aBD 2 jD mLn oF (rP + 1) dQ qO qQ).2.1 (aBD 2 jD mLn oF (rP + 1) dQ qO qQ).2.2 qO qQ).2 qO qQ).1) qA))) else (bBh (fun o0 o1 o2 o3 o4 o5 => (o0, o1, o2, o3, o4, o5)) bT aG jD mLn oF qO qQ rP dQ aJ aB qT qA)
set_option maxHeartbeats 200000 in
set_option maxRecDepth 10000 in
theorem dt_X10_readLine {P Q : Int32 -> Int32 -> Int32 -> Int32 -> (Nat -> Int32) -> (Nat -> Int32) -> Prop} {bT aG : Int32} {jD : Nat} {mLn oF rP dQ aJ aB : Int32} {qO qT qA qQ : Nat -> Int32} (h : bCJ P bT aG jD mLn oF rP dQ aJ aB qO qT qA qQ) (hq : ∀ o : Int32 × Int32 × Int32 × Int32 × (Nat -> Int32) × (Nat -> Int32), o = aGL bT aG jD mLn oF rP dQ aJ aB qO qT qA qQ -> P o.1 o.2.1 o.2.2.1 o.2.2.2.1 o.2.2.2.2.1 o.2.2.2.2.2 -> Q o.1 o.2.1 o.2.2.1 o.2.2.2.1 o.2.2.2.2.1 o.2.2.2.2.2) : bCJ Q bT aG jD mLn oF rP dQ aJ aB qO qT qA qQ := by
  rw [aGL] at hq
  refine du_X10_here h ?_
  intro h
  refine And.intro (fun c1 => ?_) (fun c1 => ?_)
  · have h := And.left h c1
    rw [if_neg c1] at hq
    rw [bBh] at hq
    unfold ws_X10_readLine_135 at h ⊢
    refine du_X10_here h ?_
    intro h
    refine And.intro (fun c2 => ?_) (fun c2 => ?_)
    · have h := And.left h c2
      rw [if_neg c2] at hq
      rw [aYZ] at hq
      unfold aXD at h ⊢
      refine du_X10_fault h ?_
      intro h
      have q9 := hq _ rfl
      dsimp only at q9
      exact q9 h
    · have h := And.right h c2
      rw [if_pos c2] at hq
      refine ae ?_
      have h := h _ rfl
      refine And.intro (fun c3 => ?_) (fun c3 => ?_)
      · have h := And.left h c3
        rw [if_pos c3] at hq
        rw [aYZ] at hq
        unfold aXD at h ⊢
        refine du_X10_fault h ?_
        intro h
        have q9 := hq _ rfl
        dsimp only at q9
        exact q9 h
      · have h := And.right h c3
        rw [if_neg c3] at hq
        refine ae ?_
        have h := h _ rfl
        refine ae ?_
        have h := h _ rfl
        refine aEu (by decide) h ?_
        intro h
        refine And.intro (And.left h) ?_
        have h := And.right h
        refine du_X10_need h ?_
        intro h
        refine ae ?_
        have h := h _ rfl
        refine aEu (by decide) h ?_
        intro h
        refine And.intro (And.left h) ?_
        have h := And.right h
        refine ae ?_
        have h := h _ rfl
        have q9 := hq _ rfl
        dsimp only at q9
        exact q9 h
  · have h := And.right h c1
    rw [if_pos c1] at hq
    refine ae ?_
    have h := h _ rfl
    refine And.intro (fun c4 => ?_) (fun c4 => ?_)
    · have h := And.left h c4
      rw [if_pos c4] at hq
      rw [bBh] at hq
      unfold ws_X10_readLine_135 at h ⊢
      refine du_X10_here h ?_
      intro h
      refine And.intro (fun c5 => ?_) (fun c5 => ?_)
      · have h := And.left h c5
        rw [if_neg c5] at hq
        rw [aYZ] at hq
        unfold aXD at h ⊢
        refine du_X10_fault h ?_
        intro h
        have q9 := hq _ rfl
        dsimp only at q9
        exact q9 h
      · have h := And.right h c5
        rw [if_pos c5] at hq
        refine ae ?_
        have h := h _ rfl
        refine And.intro (fun c6 => ?_) (fun c6 => ?_)
        · have h := And.left h c6
          rw [if_pos c6] at hq
          rw [aYZ] at hq
          unfold aXD at h ⊢
          refine du_X10_fault h ?_
          intro h
          have q9 := hq _ rfl
          dsimp only at q9
          exact q9 h
        · have h := And.right h c6
          rw [if_neg c6] at hq
          refine ae ?_
          have h := h _ rfl
          refine ae ?_
          have h := h _ rfl
          refine aEu (by decide) h ?_
          intro h
          refine And.intro (And.left h) ?_
          have h := And.right h
          refine du_X10_need h ?_
          intro h
          refine ae ?_
          have h := h _ rfl
          refine aEu (by decide) h ?_
          intro h
          refine And.intro (And.left h) ?_
          have h := And.right h
          refine ae ?_
          have h := h _ rfl
          have q9 := hq _ rfl
          dsimp only at q9
          exact q9 h
    · have h := And.right h c4
      rw [if_neg c4] at hq
      refine ae ?_
      have h := h _ rfl
      refine ae ?_
      have h := h _ rfl
      refine aEu (by decide) h ?_
      intro h
      refine And.intro (And.left h) ?_
      have h := And.right h
      refine du_X10_need h ?_
      intro h
      refine ae ?_
      have h := h _ rfl
      refine aEu (by decide) h ?_
      intro h
      refine And.intro (And.left h) ?_
      have h := And.right h
      refine ae ?_
      have h := h _ rfl
      refine du_X10_passes h ?_
      intro h
      refine And.intro (fun c7 => ?_) (fun c7 => ?_)
      · have h := And.left h c7
        rw [if_pos c7] at hq
        rw [aRi] at hq
        unfold ws_X10_readLine_95 at h ⊢
        refine And.intro (And.left h) ?_
        have h := And.right h
        refine ae ?_
        have h := h _ rfl
        refine du_X10_passes h ?_
        intro h
        refine And.intro (fun c8 => ?_) (fun c8 => ?_)
        · have h := And.left h c8
          rw [if_pos c8] at hq
          rw [aLp] at hq
          unfold aXC at h ⊢
          refine And.intro (And.left h) ?_
          have h := And.right h
          refine ae ?_
          have h := h _ rfl
          have q9 := hq _ rfl
          dsimp only at q9
          exact q9 h
        · have h := And.right h c8
          rw [if_neg c8] at hq
          refine aEu (by decide) h ?_
          intro h
          rw [aLp] at hq
          unfold aXC at h ⊢
          refine And.intro (And.left h) ?_
          have h := And.right h
          refine ae ?_
          have h := h _ rfl
          have q9 := hq _ rfl
          dsimp only at q9
          exact q9 h
      · have h := And.right h c7
        rw [if_neg c7] at hq
        refine aEu (by decide) h ?_
        intro h
        rw [aRi] at hq
        unfold ws_X10_readLine_95 at h ⊢
        refine And.intro (And.left h) ?_
        have h := And.right h
        refine ae ?_
        have h := h _ rfl
        refine du_X10_passes h ?_
        intro h
        refine And.intro (fun c9 => ?_) (fun c9 => ?_)
        · have h := And.left h c9
          rw [if_pos c9] at hq
          rw [aLp] at hq
          unfold aXC at h ⊢
          refine And.intro (And.left h) ?_
          have h := And.right h
          refine ae ?_
          have h := h _ rfl
          have q9 := hq _ rfl
          dsimp only at q9
          exact q9 h
        · have h := And.right h c9
          rw [if_neg c9] at hq
          refine aEu (by decide) h ?_
          intro h
          rw [aLp] at hq
          unfold aXC at h ⊢
          refine And.intro (And.left h) ?_
          have h := And.right h
          refine ae ?_
          have h := h _ rfl
          have q9 := hq _ rfl
          dsimp only at q9
          exact q9 h
theorem du_X10_readLine {P Q : Int32 -> Int32 -> Int32 -> Int32 -> (Nat -> Int32) -> (Nat -> Int32) -> Prop} {bT aG : Int32} {jD : Nat} {mLn oF rP dQ aJ aB : Int32} {qO qT qA qQ : Nat -> Int32} (h : bCJ P bT aG jD mLn oF rP dQ aJ aB qO qT qA qQ) (hq : P (aGL bT aG jD mLn oF rP dQ aJ aB qO qT qA qQ).1 (aGL bT aG jD mLn oF rP dQ aJ aB qO qT qA qQ).2.1 (aGL bT aG jD mLn oF rP dQ aJ aB qO qT qA qQ).2.2.1 (aGL bT aG jD mLn oF rP dQ aJ aB qO qT qA qQ).2.2.2.1 (aGL bT aG jD mLn oF rP dQ aJ aB qO qT qA qQ).2.2.2.2.1 (aGL bT aG jD mLn oF rP dQ aJ aB qO qT qA qQ).2.2.2.2.2 -> Q (aGL bT aG jD mLn oF rP dQ aJ aB qO qT qA qQ).1 (aGL bT aG jD mLn oF rP dQ aJ aB qO qT qA qQ).2.1 (aGL bT aG jD mLn oF rP dQ aJ aB qO qT qA qQ).2.2.1 (aGL bT aG jD mLn oF rP dQ aJ aB qO qT qA qQ).2.2.2.1 (aGL bT aG jD mLn oF rP dQ aJ aB qO qT qA qQ).2.2.2.2.1 (aGL bT aG jD mLn oF rP dQ aJ aB qO qT qA qQ).2.2.2.2.2) : bCJ Q bT aG jD mLn oF rP dQ aJ aB qO qT qA qQ := dt_X10_readLine h (fun o eo => by rw [eo]; exact hq)
theorem dw_X10_readLine {Q : Int32 -> Int32 -> Int32 -> Int32 -> (Nat -> Int32) -> (Nat -> Int32) -> Prop} {bT aG : Int32} {jD : Nat} {mLn oF rP dQ aJ aB : Int32} {qO qT qA qQ : Nat -> Int32} (h : bCJ (fun o0 o1 o2 o3 o4 o5 => (o0, o1, o2, o3, o4, o5) = aGL bT aG jD mLn oF rP dQ aJ aB qO qT qA qQ -> Q o0 o1 o2 o3 o4 o5) bT aG jD mLn oF rP dQ aJ aB qO qT qA qQ) : bCJ Q bT aG jD mLn oF rP dQ aJ aB qO qT qA qQ := dt_X10_readLine h (fun o eo hp => hp eo)
noncomputable def F_X10_begin (p1 p2 : Int32) (jD : Nat) (mLn oF rP dQ : Int32) : Nat × Int32 × Int32 × Int32 × Int32 := (1, p1, p2, 0, (-1))
set_option maxHeartbeats 200000 in
set_option maxRecDepth 10000 in
theorem dt_X10_begin {P Q : Nat -> Int32 -> Int32 -> Int32 -> Int32 -> Prop} {p1 p2 : Int32} {jD : Nat} {mLn oF rP dQ : Int32} (h : wp_X10_begin P p1 p2 jD mLn oF rP dQ) (hq : ∀ o : Nat × Int32 × Int32 × Int32 × Int32, o = F_X10_begin p1 p2 jD mLn oF rP dQ -> P o.1 o.2.1 o.2.2.1 o.2.2.2.1 o.2.2.2.2 -> Q o.1 o.2.1 o.2.2.1 o.2.2.2.1 o.2.2.2.2) : wp_X10_begin Q p1 p2 jD mLn oF rP dQ := by
  rw [F_X10_begin] at hq
  have q9 := hq _ rfl
  dsimp only at q9
  exact q9 h
theorem du_X10_begin {P Q : Nat -> Int32 -> Int32 -> Int32 -> Int32 -> Prop} {p1 p2 : Int32} {jD : Nat} {mLn oF rP dQ : Int32} (h : wp_X10_begin P p1 p2 jD mLn oF rP dQ) (hq : P (F_X10_begin p1 p2 jD mLn oF rP dQ).1 (F_X10_begin p1 p2 jD mLn oF rP dQ).2.1 (F_X10_begin p1 p2 jD mLn oF rP dQ).2.2.1 (F_X10_begin p1 p2 jD mLn oF rP dQ).2.2.2.1 (F_X10_begin p1 p2 jD mLn oF rP dQ).2.2.2.2 -> Q (F_X10_begin p1 p2 jD mLn oF rP dQ).1 (F_X10_begin p1 p2 jD mLn oF rP dQ).2.1 (F_X10_begin p1 p2 jD mLn oF rP dQ).2.2.1 (F_X10_begin p1 p2 jD mLn oF rP dQ).2.2.2.1 (F_X10_begin p1 p2 jD mLn oF rP dQ).2.2.2.2) : wp_X10_begin Q p1 p2 jD mLn oF rP dQ := dt_X10_begin h (fun o eo => by rw [eo]; exact hq)
theorem dw_X10_begin {Q : Nat -> Int32 -> Int32 -> Int32 -> Int32 -> Prop} {p1 p2 : Int32} {jD : Nat} {mLn oF rP dQ : Int32} (h : wp_X10_begin (fun o0 o1 o2 o3 o4 => (o0, o1, o2, o3, o4) = F_X10_begin p1 p2 jD mLn oF rP dQ -> Q o0 o1 o2 o3 o4) p1 p2 jD mLn oF rP dQ) : wp_X10_begin Q p1 p2 jD mLn oF rP dQ := dt_X10_begin h (fun o eo hp => hp eo)
noncomputable def fs_X8_add_14 {R : Type} (po : Int32 -> Int32 -> (Nat -> Int32) -> R) (nx : Int32 -> Int32 -> Int32 -> (Nat -> Int32) -> R) (x1 x2 qL : Int32) (qM : Nat -> Int32) : R := if x2 < 0 then (po qL qL qM) else (nx x1 (x2 + (-8)) (qL + 1) (upd qM qL.toNatClampNeg (vp_nar .char (((((x1.toUInt32 >>> (x2.toUInt32 &&& Int32.toUInt32 31)).toInt32) &&& 255).toUInt32 % 65536).toInt32))))
set_option maxHeartbeats 200000 in
set_option maxRecDepth 10000 in
theorem dl_X8_add_14 {P Q : Int32 -> Int32 -> (Nat -> Int32) -> Prop} {R : Type} {po : Int32 -> Int32 -> (Nat -> Int32) -> R} {d : Int32 -> Int32 -> Int32 -> (Nat -> Int32) -> R} : ∀ (n m : Nat) (x1 x2 qL : Int32) (qM : Nat -> Int32), -8 <= Int32.toInt x2 /\ Int32.toInt x2 <= 24 -> Int32.toInt x2 + 8 < (m : Int) -> wb_X8_add_14 P n x1 x2 qL qM -> (∀ (b0 b1 : Int32) (b2 : Nat -> Int32), po b0 b1 b2 = flp (fs_X8_add_14 po) d m x1 x2 qL qM -> P b0 b1 b2 -> Q b0 b1 b2) -> wb_X8_add_14 Q n x1 x2 qL qM := by
  have l0 : Int32.toInt (0 : Int32) = 0 := by decide
  intro n
  induction n with
  | zero => intro m x1 x2 qL qM hv hm h hq; exact False.elim h
  | succ n ih =>
    intro m x1 x2 qL qM hv hm h hq
    cases m with
    | zero => exfalso; omega
    | succ m =>
      rw [flp_s, fs_X8_add_14] at hq
      have h : ws_X8_add_14 P (wb_X8_add_14 P n) x1 x2 qL qM := h
      show ws_X8_add_14 Q (wb_X8_add_14 Q n) x1 x2 qL qM
      unfold ws_X8_add_14 at h ⊢
      refine And.intro (fun c1 => ?_) (fun c1 => ?_)
      · have h := And.left h c1
        rw [if_pos c1] at hq
        have dc1 := (aAd _ _).mp c1
        exact hq _ _ _ rfl h
      · have h := And.right h c1
        rw [if_neg c1] at hq
        have dc1 := mt (aAd _ _).mpr c1
        refine ae ?_
        have h := h _ rfl
        refine ae ?_
        have h := h _ rfl
        refine And.intro (And.left h) ?_
        have h := And.right h
        refine ae ?_
        have h := h _ rfl
        refine ae ?_
        have h := h _ rfl
        have l8 : Int32.toInt (-8 : Int32) = -8 := by decide
        have f9 := aAD x2 (-8) (by omega)
        exact ih m _ _ _ _ (by omega) (by omega) h hq
noncomputable def F_X8_add (p0 qL : Int32) (qM : Nat -> Int32) : Int32 × Int32 × (Nat -> Int32) := if qL <= 76 then (flp (fs_X8_add_14 (fun o0 o1 o2 => (o0, o1, o2))) (fun _ _ _ _ => (0, 0, (fun _ => 0))) 33 p0 24 qL qM) else ((-1), qL, qM)
set_option maxHeartbeats 200000 in
set_option maxRecDepth 10000 in
theorem dt_X8_add {P Q : Int32 -> Int32 -> (Nat -> Int32) -> Prop} {p0 qL : Int32} {qM : Nat -> Int32} (h : wp_X8_add P p0 qL qM) (hq : ∀ o : Int32 × Int32 × (Nat -> Int32), o = F_X8_add p0 qL qM -> P o.1 o.2.1 o.2.2 -> Q o.1 o.2.1 o.2.2) : wp_X8_add Q p0 qL qM := by
  rw [F_X8_add] at hq
  refine And.intro (fun c1 => ?_) (fun c1 => ?_)
  · have h := And.left h c1
    rw [if_pos c1] at hq
    obtain ⟨n2, h⟩ := h
    exact ⟨n2, dl_X8_add_14 n2 33 _ _ _ _ (by decide) (by decide) h (fun b0 b1 b2 e9 h9 => hq (b0, b1, b2) e9 h9)⟩
  · have h := And.right h c1
    rw [if_neg c1] at hq
    have q9 := hq _ rfl
    dsimp only at q9
    exact q9 h
theorem du_X8_add {P Q : Int32 -> Int32 -> (Nat -> Int32) -> Prop} {p0 qL : Int32} {qM : Nat -> Int32} (h : wp_X8_add P p0 qL qM) (hq : P (F_X8_add p0 qL qM).1 (F_X8_add p0 qL qM).2.1 (F_X8_add p0 qL qM).2.2 -> Q (F_X8_add p0 qL qM).1 (F_X8_add p0 qL qM).2.1 (F_X8_add p0 qL qM).2.2) : wp_X8_add Q p0 qL qM := dt_X8_add h (fun o eo => by rw [eo]; exact hq)
noncomputable def F_X9_sign (p0 qL : Int32) (qM : Nat -> Int32) : Int32 × Int32 × (Nat -> Int32) := ((F_X8_add p0 qL qM).1, (F_X8_add p0 qL qM).2.1, (F_X8_add p0 qL qM).2.2)
set_option maxHeartbeats 200000 in
set_option maxRecDepth 10000 in
theorem dt_X9_sign {P Q : Int32 -> Int32 -> (Nat -> Int32) -> Prop} {p0 qL : Int32} {qM : Nat -> Int32} (h : wp_X9_sign P p0 qL qM) (hq : ∀ o : Int32 × Int32 × (Nat -> Int32), o = F_X9_sign p0 qL qM -> P o.1 o.2.1 o.2.2 -> Q o.1 o.2.1 o.2.2) : wp_X9_sign Q p0 qL qM := by
  rw [F_X9_sign] at hq
  refine du_X8_add h ?_
  intro h
  have q9 := hq _ rfl
  dsimp only at q9
  exact q9 h
theorem du_X9_sign {P Q : Int32 -> Int32 -> (Nat -> Int32) -> Prop} {p0 qL : Int32} {qM : Nat -> Int32} (h : wp_X9_sign P p0 qL qM) (hq : P (F_X9_sign p0 qL qM).1 (F_X9_sign p0 qL qM).2.1 (F_X9_sign p0 qL qM).2.2 -> Q (F_X9_sign p0 qL qM).1 (F_X9_sign p0 qL qM).2.1 (F_X9_sign p0 qL qM).2.2) : wp_X9_sign Q p0 qL qM := dt_X9_sign h (fun o eo => by rw [eo]; exact hq)
theorem dw_X9_sign {Q : Int32 -> Int32 -> (Nat -> Int32) -> Prop} {p0 qL : Int32} {qM : Nat -> Int32} (h : wp_X9_sign (fun o0 o1 o2 => (o0, o1, o2) = F_X9_sign p0 qL qM -> Q o0 o1 o2) p0 qL qM) : wp_X9_sign Q p0 qL qM := dt_X9_sign h (fun o eo hp => hp eo)
noncomputable def fs_X10_sign_20 {R : Type} (po : Int32 -> Int32 -> Int32 -> (Nat -> Int32) -> R) (nx : Int32 -> Int32 -> Int32 -> Int32 -> (Nat -> Int32) -> R) (x1 x2 jC bY : Int32) (qO : Nat -> Int32) : R := if x2 < 0 then (po jC jC bY qO) else (nx x1 (x2 + (-1)) (jC + 1) bY (upd qO jC.toNatClampNeg (vp_nar .byte ((x1 >>> ((8 * x2) &&& 31)).toInt8.toInt32))))
set_option maxHeartbeats 200000 in
set_option maxRecDepth 10000 in
theorem dl_X10_sign_20 {P Q : Int32 -> Int32 -> Int32 -> (Nat -> Int32) -> Prop} {R : Type} {po : Int32 -> Int32 -> Int32 -> (Nat -> Int32) -> R} {d : Int32 -> Int32 -> Int32 -> Int32 -> (Nat -> Int32) -> R} : ∀ (n m : Nat) (x1 x2 jC bY : Int32) (qO : Nat -> Int32), -1 <= Int32.toInt x2 /\ Int32.toInt x2 <= 3 -> Int32.toInt x2 + 1 < (m : Int) -> wb_X10_sign_20 P n x1 x2 jC bY qO -> (∀ (b0 b1 b2 : Int32) (b3 : Nat -> Int32), po b0 b1 b2 b3 = flp (fs_X10_sign_20 po) d m x1 x2 jC bY qO -> P b0 b1 b2 b3 -> Q b0 b1 b2 b3) -> wb_X10_sign_20 Q n x1 x2 jC bY qO := by
  have l0 : Int32.toInt (0 : Int32) = 0 := by decide
  intro n
  induction n with
  | zero => intro m x1 x2 jC bY qO hv hm h hq; exact False.elim h
  | succ n ih =>
    intro m x1 x2 jC bY qO hv hm h hq
    cases m with
    | zero => exfalso; omega
    | succ m =>
      rw [flp_s, fs_X10_sign_20] at hq
      have h : ws_X10_sign_20 P (wb_X10_sign_20 P n) x1 x2 jC bY qO := h
      show ws_X10_sign_20 Q (wb_X10_sign_20 Q n) x1 x2 jC bY qO
      unfold ws_X10_sign_20 at h ⊢
      refine And.intro (fun c1 => ?_) (fun c1 => ?_)
      · have h := And.left h c1
        rw [if_pos c1] at hq
        have dc1 := (aAd _ _).mp c1
        exact hq _ _ _ _ rfl h
      · have h := And.right h c1
        rw [if_neg c1] at hq
        have dc1 := mt (aAd _ _).mpr c1
        refine ae ?_
        have h := h _ rfl
        refine ae ?_
        have h := h _ rfl
        refine And.intro (And.left h) ?_
        have h := And.right h
        refine ae ?_
        have h := h _ rfl
        have l8 : Int32.toInt (-1 : Int32) = -1 := by decide
        have f9 := aAD x2 (-1) (by omega)
        exact ih m _ _ _ _ _ (by omega) (by omega) h hq
noncomputable def F_X10_sign (p0 jC bY : Int32) (qO : Nat -> Int32) : Int32 × Int32 × Int32 × (Nat -> Int32) := if (jC + 4) <= 80 then (flp (fs_X10_sign_20 (fun o0 o1 o2 o3 => (o0, o1, o2, o3))) (fun _ _ _ _ _ => (0, 0, 0, (fun _ => 0))) 5 p0 3 jC 0 qO) else ((-1), jC, 0, qO)
set_option maxHeartbeats 200000 in
set_option maxRecDepth 10000 in
theorem dt_X10_sign {P Q : Int32 -> Int32 -> Int32 -> (Nat -> Int32) -> Prop} {p0 jC bY : Int32} {qO : Nat -> Int32} (h : wp_X10_sign P p0 jC bY qO) (hq : ∀ o : Int32 × Int32 × Int32 × (Nat -> Int32), o = F_X10_sign p0 jC bY qO -> P o.1 o.2.1 o.2.2.1 o.2.2.2 -> Q o.1 o.2.1 o.2.2.1 o.2.2.2) : wp_X10_sign Q p0 jC bY qO := by
  rw [F_X10_sign] at hq
  refine ae ?_
  have h := h _ rfl
  refine And.intro (fun c1 => ?_) (fun c1 => ?_)
  · have h := And.left h c1
    rw [if_pos c1] at hq
    obtain ⟨n2, h⟩ := h
    exact ⟨n2, dl_X10_sign_20 n2 5 _ _ _ _ _ (by decide) (by decide) h (fun b0 b1 b2 b3 e9 h9 => hq (b0, b1, b2, b3) e9 h9)⟩
  · have h := And.right h c1
    rw [if_neg c1] at hq
    have q9 := hq _ rfl
    dsimp only at q9
    exact q9 h
theorem du_X10_sign {P Q : Int32 -> Int32 -> Int32 -> (Nat -> Int32) -> Prop} {p0 jC bY : Int32} {qO : Nat -> Int32} (h : wp_X10_sign P p0 jC bY qO) (hq : P (F_X10_sign p0 jC bY qO).1 (F_X10_sign p0 jC bY qO).2.1 (F_X10_sign p0 jC bY qO).2.2.1 (F_X10_sign p0 jC bY qO).2.2.2 -> Q (F_X10_sign p0 jC bY qO).1 (F_X10_sign p0 jC bY qO).2.1 (F_X10_sign p0 jC bY qO).2.2.1 (F_X10_sign p0 jC bY qO).2.2.2) : wp_X10_sign Q p0 jC bY qO := dt_X10_sign h (fun o eo => by rw [eo]; exact hq)
theorem dw_X10_sign {Q : Int32 -> Int32 -> Int32 -> (Nat -> Int32) -> Prop} {p0 jC bY : Int32} {qO : Nat -> Int32} (h : wp_X10_sign (fun o0 o1 o2 o3 => (o0, o1, o2, o3) = F_X10_sign p0 jC bY qO -> Q o0 o1 o2 o3) p0 jC bY qO) : wp_X10_sign Q p0 jC bY qO := dt_X10_sign h (fun o eo hp => hp eo)
noncomputable def F_X9_set (p0 p1 : Int32) (dY : Nat -> Int32) : Int32 × (Nat -> Int32) := if p0 < 0 then ((-1), dY) else (if 4 < p0 then ((-1), dY) else (if p1 < (stL p0.toNatClampNeg) then ((-1), dY) else (if p1 <= (stM p0.toNatClampNeg) then ((dY p0.toNatClampNeg), (upd dY p0.toNatClampNeg p1)) else ((-1), dY))))
set_option maxHeartbeats 200000 in
set_option maxRecDepth 10000 in
theorem dt_X9_set {P Q : Int32 -> (Nat -> Int32) -> Prop} {p0 p1 : Int32} {dY : Nat -> Int32} (h : wp_X9_set P p0 p1 dY) (hq : ∀ o : Int32 × (Nat -> Int32), o = F_X9_set p0 p1 dY -> P o.1 o.2 -> Q o.1 o.2) : wp_X9_set Q p0 p1 dY := by
  rw [F_X9_set] at hq
  refine And.intro (fun c1 => ?_) (fun c1 => ?_)
  · have h := And.left h c1
    rw [if_pos c1] at hq
    have q9 := hq _ rfl
    dsimp only at q9
    exact q9 h
  · have h := And.right h c1
    rw [if_neg c1] at hq
    refine And.intro (fun c2 => ?_) (fun c2 => ?_)
    · have h := And.left h c2
      rw [if_pos c2] at hq
      have q9 := hq _ rfl
      dsimp only at q9
      exact q9 h
    · have h := And.right h c2
      rw [if_neg c2] at hq
      refine And.intro (And.left h) ?_
      have h := And.right h
      refine And.intro (fun c3 => ?_) (fun c3 => ?_)
      · have h := And.left h c3
        rw [if_pos c3] at hq
        have q9 := hq _ rfl
        dsimp only at q9
        exact q9 h
      · have h := And.right h c3
        rw [if_neg c3] at hq
        refine And.intro (And.left h) ?_
        have h := And.right h
        refine And.intro (fun c4 => ?_) (fun c4 => ?_)
        · have h := And.left h c4
          rw [if_pos c4] at hq
          refine And.intro (And.left h) ?_
          have h := And.right h
          refine ae ?_
          have h := h _ rfl
          refine And.intro (And.left h) ?_
          have h := And.right h
          have q9 := hq _ rfl
          dsimp only at q9
          exact q9 h
        · have h := And.right h c4
          rw [if_neg c4] at hq
          have q9 := hq _ rfl
          dsimp only at q9
          exact q9 h
theorem du_X9_set {P Q : Int32 -> (Nat -> Int32) -> Prop} {p0 p1 : Int32} {dY : Nat -> Int32} (h : wp_X9_set P p0 p1 dY) (hq : P (F_X9_set p0 p1 dY).1 (F_X9_set p0 p1 dY).2 -> Q (F_X9_set p0 p1 dY).1 (F_X9_set p0 p1 dY).2) : wp_X9_set Q p0 p1 dY := dt_X9_set h (fun o eo => by rw [eo]; exact hq)
theorem dw_X9_set {Q : Int32 -> (Nat -> Int32) -> Prop} {p0 p1 : Int32} {dY : Nat -> Int32} (h : wp_X9_set (fun o0 o1 => (o0, o1) = F_X9_set p0 p1 dY -> Q o0 o1) p0 p1 dY) : wp_X9_set Q p0 p1 dY := dt_X9_set h (fun o eo hp => hp eo)
noncomputable def j_X10_set_47 {R : Type} (po : Int32 -> Int32 -> (Nat -> Int32) -> R) (x1 x2 k0 k1 k2 bY : Int32) (pJ : Nat -> Int32) : R := if (aUe k0 k1 k2) = 0 then (po (-1) bY pJ) else (po (pJ x1.toNatClampNeg) bY (upd pJ x1.toNatClampNeg x2))
noncomputable def j_X10_set_25 {R : Type} (po : Int32 -> Int32 -> (Nat -> Int32) -> R) (x1 x2 k0 k1 bY : Int32) (pJ : Nat -> Int32) : R := if x1 = 4 then (j_X10_set_47 po x1 x2 k0 k1 16 bY pJ) else (if x1 = 3 then (j_X10_set_47 po x1 x2 k0 k1 9 bY pJ) else (j_X10_set_47 po x1 x2 k0 k1 30 bY pJ))
noncomputable def F_X10_set (p0 p1 bY : Int32) (pJ : Nat -> Int32) : Int32 × Int32 × (Nat -> Int32) := if (aUe p0 0 4) = 0 then ((-1), 0, pJ) else (if p0 = 4 then (j_X10_set_25 (fun o0 o1 o2 => (o0, o1, o2)) p0 p1 p1 1 0 pJ) else (j_X10_set_25 (fun o0 o1 o2 => (o0, o1, o2)) p0 p1 p1 0 0 pJ))
set_option maxHeartbeats 200000 in
set_option maxRecDepth 10000 in
theorem dt_X10_set {P Q : Int32 -> Int32 -> (Nat -> Int32) -> Prop} {p0 p1 bY : Int32} {pJ : Nat -> Int32} (h : wp_X10_set P p0 p1 bY pJ) (hq : ∀ o : Int32 × Int32 × (Nat -> Int32), o = F_X10_set p0 p1 bY pJ -> P o.1 o.2.1 o.2.2 -> Q o.1 o.2.1 o.2.2) : wp_X10_set Q p0 p1 bY pJ := by
  rw [F_X10_set] at hq
  refine du_X10_in h ?_
  intro h
  refine And.intro (fun c1 => ?_) (fun c1 => ?_)
  · have h := And.left h c1
    rw [if_pos c1] at hq
    have q9 := hq _ rfl
    dsimp only at q9
    exact q9 h
  · have h := And.right h c1
    rw [if_neg c1] at hq
    refine And.intro (fun c2 => ?_) (fun c2 => ?_)
    · have h := And.left h c2
      rw [if_neg c2] at hq
      rw [j_X10_set_25] at hq
      unfold ws_X10_set_25 at h ⊢
      refine And.intro (fun c3 => ?_) (fun c3 => ?_)
      · have h := And.left h c3
        rw [if_neg c3] at hq
        refine And.intro (fun c4 => ?_) (fun c4 => ?_)
        · have h := And.left h c4
          rw [if_neg c4] at hq
          rw [j_X10_set_47] at hq
          unfold bCM at h ⊢
          refine du_X10_in h ?_
          intro h
          refine And.intro (fun c5 => ?_) (fun c5 => ?_)
          · have h := And.left h c5
            rw [if_neg c5] at hq
            refine And.intro (And.left h) ?_
            have h := And.right h
            refine ae ?_
            have h := h _ rfl
            refine And.intro (And.left h) ?_
            have h := And.right h
            have q9 := hq _ rfl
            dsimp only at q9
            exact q9 h
          · have h := And.right h c5
            rw [if_pos c5] at hq
            have q9 := hq _ rfl
            dsimp only at q9
            exact q9 h
        · have h := And.right h c4
          rw [if_pos c4] at hq
          rw [j_X10_set_47] at hq
          unfold bCM at h ⊢
          refine du_X10_in h ?_
          intro h
          refine And.intro (fun c6 => ?_) (fun c6 => ?_)
          · have h := And.left h c6
            rw [if_neg c6] at hq
            refine And.intro (And.left h) ?_
            have h := And.right h
            refine ae ?_
            have h := h _ rfl
            refine And.intro (And.left h) ?_
            have h := And.right h
            have q9 := hq _ rfl
            dsimp only at q9
            exact q9 h
          · have h := And.right h c6
            rw [if_pos c6] at hq
            have q9 := hq _ rfl
            dsimp only at q9
            exact q9 h
      · have h := And.right h c3
        rw [if_pos c3] at hq
        rw [j_X10_set_47] at hq
        unfold bCM at h ⊢
        refine du_X10_in h ?_
        intro h
        refine And.intro (fun c7 => ?_) (fun c7 => ?_)
        · have h := And.left h c7
          rw [if_neg c7] at hq
          refine And.intro (And.left h) ?_
          have h := And.right h
          refine ae ?_
          have h := h _ rfl
          refine And.intro (And.left h) ?_
          have h := And.right h
          have q9 := hq _ rfl
          dsimp only at q9
          exact q9 h
        · have h := And.right h c7
          rw [if_pos c7] at hq
          have q9 := hq _ rfl
          dsimp only at q9
          exact q9 h
    · have h := And.right h c2
      rw [if_pos c2] at hq
      rw [j_X10_set_25] at hq
      unfold ws_X10_set_25 at h ⊢
      refine And.intro (fun c8 => ?_) (fun c8 => ?_)
      · have h := And.left h c8
        rw [if_neg c8] at hq
        refine And.intro (fun c9 => ?_) (fun c9 => ?_)
        · have h := And.left h c9
          rw [if_neg c9] at hq
          rw [j_X10_set_47] at hq
          unfold bCM at h ⊢
          refine du_X10_in h ?_
          intro h
          refine And.intro (fun c10 => ?_) (fun c10 => ?_)
          · have h := And.left h c10
            rw [if_neg c10] at hq
            refine And.intro (And.left h) ?_
            have h := And.right h
            refine ae ?_
            have h := h _ rfl
            refine And.intro (And.left h) ?_
            have h := And.right h
            have q9 := hq _ rfl
            dsimp only at q9
            exact q9 h
          · have h := And.right h c10
            rw [if_pos c10] at hq
            have q9 := hq _ rfl
            dsimp only at q9
            exact q9 h
        · have h := And.right h c9
          rw [if_pos c9] at hq
          rw [j_X10_set_47] at hq
          unfold bCM at h ⊢
          refine du_X10_in h ?_
          intro h
          refine And.intro (fun c11 => ?_) (fun c11 => ?_)
          · have h := And.left h c11
            rw [if_neg c11] at hq
            refine And.intro (And.left h) ?_
            have h := And.right h
            refine ae ?_
            have h := h _ rfl
            refine And.intro (And.left h) ?_
            have h := And.right h
            have q9 := hq _ rfl
            dsimp only at q9
            exact q9 h
          · have h := And.right h c11
            rw [if_pos c11] at hq
            have q9 := hq _ rfl
            dsimp only at q9
            exact q9 h
      · have h := And.right h c8
        rw [if_pos c8] at hq
        rw [j_X10_set_47] at hq
        unfold bCM at h ⊢
        refine du_X10_in h ?_
        intro h
        refine And.intro (fun c12 => ?_) (fun c12 => ?_)
        · have h := And.left h c12
          rw [if_neg c12] at hq
          refine And.intro (And.left h) ?_
          have h := And.right h
          refine ae ?_
          have h := h _ rfl
          refine And.intro (And.left h) ?_
          have h := And.right h
          have q9 := hq _ rfl
          dsimp only at q9
          exact q9 h
        · have h := And.right h c12
          rw [if_pos c12] at hq
          have q9 := hq _ rfl
          dsimp only at q9
          exact q9 h
theorem du_X10_set {P Q : Int32 -> Int32 -> (Nat -> Int32) -> Prop} {p0 p1 bY : Int32} {pJ : Nat -> Int32} (h : wp_X10_set P p0 p1 bY pJ) (hq : P (F_X10_set p0 p1 bY pJ).1 (F_X10_set p0 p1 bY pJ).2.1 (F_X10_set p0 p1 bY pJ).2.2 -> Q (F_X10_set p0 p1 bY pJ).1 (F_X10_set p0 p1 bY pJ).2.1 (F_X10_set p0 p1 bY pJ).2.2) : wp_X10_set Q p0 p1 bY pJ := dt_X10_set h (fun o eo => by rw [eo]; exact hq)
theorem dw_X10_set {Q : Int32 -> Int32 -> (Nat -> Int32) -> Prop} {p0 p1 bY : Int32} {pJ : Nat -> Int32} (h : wp_X10_set (fun o0 o1 o2 => (o0, o1, o2) = F_X10_set p0 p1 bY pJ -> Q o0 o1 o2) p0 p1 bY pJ) : wp_X10_set Q p0 p1 bY pJ := dt_X10_set h (fun o eo hp => hp eo)
noncomputable def aRz {R : Type} (k9 : Int32 -> Int32 -> Int32 -> Int32 -> Int32 -> Int32 -> (Nat -> Int32) -> R) (dN x1 x2 x4 x5 x6 x7 k1 k2 : Int32) (pL : Nat -> Int32) : R := k9 x1 x2 x4 (x5 + ((upd pL k1.toNatClampNeg k2) x7.toNatClampNeg)) (x6 + x4) (x7 + 1) (upd pL k1.toNatClampNeg k2)
noncomputable def aRy {R : Type} (k9 : Int32 -> Int32 -> Int32 -> Int32 -> Int32 -> Int32 -> (Nat -> Int32) -> R) (dN x1 x2 x4 x5 x6 x7 k0 : Int32) (pL : Nat -> Int32) : R := if x2 <= x7 then (aRz k9 dN x1 x2 x4 x5 x6 x7 x7 0 pL) else (aRz k9 dN x1 x2 x4 x5 x6 x7 x7 (if 0 < (if k0 < 9 then k0 else 9) then (if k0 < 9 then k0 else 9) else 0) pL)
noncomputable def aJo (dN x1 x2 x4 c : Int32) (s : Int32 × Int32 × (Nat -> Int32)) : Int32 × Int32 × (Nat -> Int32) := if x1 = 0 then (aRy (fun q0 q1 q2 q3 q4 q5 q6 => (q3, q4, q6)) dN x1 x2 x4 s.1 s.2.1 c s.2.1.toInt8.toInt32 s.2.2) else (if x1 = 1 then (aRy (fun q0 q1 q2 q3 q4 q5 q6 => (q3, q4, q6)) dN x1 x2 x4 s.1 s.2.1 c s.2.1.toInt16.toInt32 s.2.2) else (aRy (fun q0 q1 q2 q3 q4 q5 q6 => (q3, q4, q6)) dN x1 x2 x4 s.1 s.2.1 c s.2.1 s.2.2))
noncomputable def ex_X3_fillWorths_9 {R : Type} (po : Int32 -> (Nat -> Int32) -> R) (dN x1 x2 x4 c : Int32) (s : Int32 × Int32 × (Nat -> Int32)) : R := po s.1 s.2.2
set_option maxHeartbeats 200000 in
set_option maxRecDepth 10000 in
theorem dl_X3_fillWorths_9 {P Q : Int32 -> (Nat -> Int32) -> Prop} {dN x1 x2 x4 : Int32} {a : Int32 × Int32 × (Nat -> Int32)} {i : Nat} (hi0 : i < 2147483648) (hE : ∀ (c : Int32) (s : Int32 × Int32 × (Nat -> Int32)), c = nI (i + (Int32.toInt dN - ((i : Nat) : Int)).toNat) -> s = itr (aJo dN x1 x2 x4) a i (Int32.toInt dN - ((i : Nat) : Int)).toNat -> (P s.1 s.2.2) -> (Q s.1 s.2.2)) : ∀ (n k : Nat) (c : Int32), c = nI (i + k) -> k <= (Int32.toInt dN - ((i : Nat) : Int)).toNat -> wb_X3_fillWorths_9 P dN n x1 x2 x4 (itr (aJo dN x1 x2 x4) a i k).1 (itr (aJo dN x1 x2 x4) a i k).2.1 c (itr (aJo dN x1 x2 x4) a i k).2.2 -> wb_X3_fillWorths_9 Q dN n x1 x2 x4 (itr (aJo dN x1 x2 x4) a i k).1 (itr (aJo dN x1 x2 x4) a i k).2.1 c (itr (aJo dN x1 x2 x4) a i k).2.2 := by
  intro n
  induction n with
  | zero => intro k c hc hk h; exact False.elim h
  | succ n ih =>
    intro k c hc hk h
    have hr := aAT dN
    have hi : Int32.toInt c = ((i + k : Nat) : Int) := by rw [hc]; exact nI_toInt (by omega)
    refine And.intro (fun t0 => ?_) (fun t0 => ?_)
    · have h := And.left h t0
      have t1 := (aAO _ _).mp t0
      have hk2 : k = (Int32.toInt dN - ((i : Nat) : Int)).toNat := by omega
      subst hk2
      exact hE _ _ hc rfl h
    · have h := And.right h t0
      have t1 := mt (aAO _ _).mpr t0
      have hs : ∀ o : Int32 × Int32 × (Nat -> Int32), o = itr (aJo dN x1 x2 x4) a i (k + 1) -> wb_X3_fillWorths_9 P dN n x1 x2 x4 o.1 o.2.1 (c + 1) o.2.2 -> wb_X3_fillWorths_9 Q dN n x1 x2 x4 o.1 o.2.1 (c + 1) o.2.2 := by
        intro o eo h9
        have q := ih (k + 1) (c + 1) (by rw [hc]; exact nI_1 _) (by omega)
        rw [<- eo] at q
        exact q h9
      rw [itr_s, <- hc, aJo] at hs
      refine And.intro (fun c1 => ?_) (fun c1 => ?_)
      · have h := And.left h c1
        rw [if_neg c1] at hs
        refine And.intro (fun c2 => ?_) (fun c2 => ?_)
        · have h := And.left h c2
          rw [if_neg c2] at hs
          rw [aRy] at hs
          unfold aXE at h ⊢
          refine And.intro (fun c3 => ?_) (fun c3 => ?_)
          · have h := And.left h c3
            rw [if_pos c3] at hs
            rw [aRz] at hs
            unfold aRF at h ⊢
            refine And.intro (And.left h) ?_
            have h := And.right h
            refine And.intro (And.left h) ?_
            have h := And.right h
            refine ae ?_
            have h := h _ rfl
            refine ae ?_
            have h := h _ rfl
            refine ae ?_
            have h := h _ rfl
            have q9 := hs _ rfl
            dsimp only at q9
            exact q9 h
          · have h := And.right h c3
            rw [if_neg c3] at hs
            refine ae ?_
            have h := h _ rfl
            refine ae ?_
            have h := h _ rfl
            rw [aRz] at hs
            unfold aRF at h ⊢
            refine And.intro (And.left h) ?_
            have h := And.right h
            refine And.intro (And.left h) ?_
            have h := And.right h
            refine ae ?_
            have h := h _ rfl
            refine ae ?_
            have h := h _ rfl
            refine ae ?_
            have h := h _ rfl
            have q9 := hs _ rfl
            dsimp only at q9
            exact q9 h
        · have h := And.right h c2
          rw [if_pos c2] at hs
          refine ae ?_
          have h := h _ rfl
          rw [aRy] at hs
          unfold aXE at h ⊢
          refine And.intro (fun c4 => ?_) (fun c4 => ?_)
          · have h := And.left h c4
            rw [if_pos c4] at hs
            rw [aRz] at hs
            unfold aRF at h ⊢
            refine And.intro (And.left h) ?_
            have h := And.right h
            refine And.intro (And.left h) ?_
            have h := And.right h
            refine ae ?_
            have h := h _ rfl
            refine ae ?_
            have h := h _ rfl
            refine ae ?_
            have h := h _ rfl
            have q9 := hs _ rfl
            dsimp only at q9
            exact q9 h
          · have h := And.right h c4
            rw [if_neg c4] at hs
            refine ae ?_
            have h := h _ rfl
            refine ae ?_
            have h := h _ rfl
            rw [aRz] at hs
            unfold aRF at h ⊢
            refine And.intro (And.left h) ?_
            have h := And.right h
            refine And.intro (And.left h) ?_
            have h := And.right h
            refine ae ?_
            have h := h _ rfl
            refine ae ?_
            have h := h _ rfl
            refine ae ?_
            have h := h _ rfl
            have q9 := hs _ rfl
            dsimp only at q9
            exact q9 h
      · have h := And.right h c1
        rw [if_pos c1] at hs
        refine ae ?_
        have h := h _ rfl
        rw [aRy] at hs
        unfold aXE at h ⊢
        refine And.intro (fun c5 => ?_) (fun c5 => ?_)
        · have h := And.left h c5
          rw [if_pos c5] at hs
          rw [aRz] at hs
          unfold aRF at h ⊢
          refine And.intro (And.left h) ?_
          have h := And.right h
          refine And.intro (And.left h) ?_
          have h := And.right h
          refine ae ?_
          have h := h _ rfl
          refine ae ?_
          have h := h _ rfl
          refine ae ?_
          have h := h _ rfl
          have q9 := hs _ rfl
          dsimp only at q9
          exact q9 h
        · have h := And.right h c5
          rw [if_neg c5] at hs
          refine ae ?_
          have h := h _ rfl
          refine ae ?_
          have h := h _ rfl
          rw [aRz] at hs
          unfold aRF at h ⊢
          refine And.intro (And.left h) ?_
          have h := And.right h
          refine And.intro (And.left h) ?_
          have h := And.right h
          refine ae ?_
          have h := h _ rfl
          refine ae ?_
          have h := h _ rfl
          refine ae ?_
          have h := h _ rfl
          have q9 := hs _ rfl
          dsimp only at q9
          exact q9 h
noncomputable def aYl (p0 p1 p2 p3 dN : Int32) (pL : Nat -> Int32) : Int32 × (Nat -> Int32) := ex_X3_fillWorths_9 (fun o0 o1 => (o0, o1)) dN p0 p1 p3 (nI (0 + (Int32.toInt dN - ((0 : Nat) : Int)).toNat)) (itr (aJo dN p0 p1 p3) (0, p2, pL) 0 (Int32.toInt dN - ((0 : Nat) : Int)).toNat)
set_option maxHeartbeats 200000 in
set_option maxRecDepth 10000 in
theorem dt_X3_fillWorths {P Q : Int32 -> (Nat -> Int32) -> Prop} {p0 p1 p2 p3 dN : Int32} {pL : Nat -> Int32} (h : bCX P p0 p1 p2 p3 dN pL) (hq : ∀ o : Int32 × (Nat -> Int32), o = aYl p0 p1 p2 p3 dN pL -> P o.1 o.2 -> Q o.1 o.2) : bCX Q p0 p1 p2 p3 dN pL := by
  rw [aYl] at hq
  obtain ⟨n1, h⟩ := h
  refine ⟨n1, dl_X3_fillWorths_9 (a := (0, p2, pL)) (i := 0) (by decide) ?_ n1 0 0 (by decide) (Nat.zero_le _) h⟩
  intro cc2 s3 ec4 es5 h
  rw [<- ec4, <- es5, ex_X3_fillWorths_9] at hq
  have q9 := hq _ rfl
  dsimp only at q9
  exact q9 h
theorem du_X3_fillWorths {P Q : Int32 -> (Nat -> Int32) -> Prop} {p0 p1 p2 p3 dN : Int32} {pL : Nat -> Int32} (h : bCX P p0 p1 p2 p3 dN pL) (hq : P (aYl p0 p1 p2 p3 dN pL).1 (aYl p0 p1 p2 p3 dN pL).2 -> Q (aYl p0 p1 p2 p3 dN pL).1 (aYl p0 p1 p2 p3 dN pL).2) : bCX Q p0 p1 p2 p3 dN pL := dt_X3_fillWorths h (fun o eo => by rw [eo]; exact hq)
noncomputable def F_X9_sheet (p0 p1 p2 p3 dN : Int32) (pL : Nat -> Int32) : Int32 × (Nat -> Int32) := if p0 < 0 then ((-1), pL) else (if 3 < p0 then ((-1), pL) else (if p1 <= 16 then (if p0 = 3 then ((-3), (aYl 2 0 0 0 dN pL).2) else (if 0 <= p1 then ((aYl p0 p1 p2 p3 dN pL).1, (aYl p0 p1 p2 p3 dN pL).2) else ((-2), pL))) else ((-1), pL)))
set_option maxHeartbeats 200000 in
set_option maxRecDepth 10000 in
theorem dt_X9_sheet {P Q : Int32 -> (Nat -> Int32) -> Prop} {p0 p1 p2 p3 dN : Int32} {pL : Nat -> Int32} (h : wp_X9_sheet P p0 p1 p2 p3 dN pL) (hq : ∀ o : Int32 × (Nat -> Int32), o = F_X9_sheet p0 p1 p2 p3 dN pL -> P o.1 o.2 -> Q o.1 o.2) : wp_X9_sheet Q p0 p1 p2 p3 dN pL := by
  rw [F_X9_sheet] at hq
  refine And.intro (fun c1 => ?_) (fun c1 => ?_)
  · have h := And.left h c1
    rw [if_pos c1] at hq
    have q9 := hq _ rfl
    dsimp only at q9
    exact q9 h
  · have h := And.right h c1
    rw [if_neg c1] at hq
    refine And.intro (fun c2 => ?_) (fun c2 => ?_)
    · have h := And.left h c2
      rw [if_pos c2] at hq
      have q9 := hq _ rfl
      dsimp only at q9
      exact q9 h
    · have h := And.right h c2
      rw [if_neg c2] at hq
      refine And.intro (fun c3 => ?_) (fun c3 => ?_)
      · have h := And.left h c3
        rw [if_pos c3] at hq
        refine And.intro (fun c4 => ?_) (fun c4 => ?_)
        · have h := And.left h c4
          rw [if_neg c4] at hq
          refine And.intro (fun c5 => ?_) (fun c5 => ?_)
          · have h := And.left h c5
            rw [if_pos c5] at hq
            refine du_X3_fillWorths h ?_
            intro h
            have q9 := hq _ rfl
            dsimp only at q9
            exact q9 h
          · have h := And.right h c5
            rw [if_neg c5] at hq
            have q9 := hq _ rfl
            dsimp only at q9
            exact q9 h
        · have h := And.right h c4
          rw [if_pos c4] at hq
          refine du_X3_fillWorths h ?_
          intro h
          have q9 := hq _ rfl
          dsimp only at q9
          exact q9 h
      · have h := And.right h c3
        rw [if_neg c3] at hq
        have q9 := hq _ rfl
        dsimp only at q9
        exact q9 h
theorem du_X9_sheet {P Q : Int32 -> (Nat -> Int32) -> Prop} {p0 p1 p2 p3 dN : Int32} {pL : Nat -> Int32} (h : wp_X9_sheet P p0 p1 p2 p3 dN pL) (hq : P (F_X9_sheet p0 p1 p2 p3 dN pL).1 (F_X9_sheet p0 p1 p2 p3 dN pL).2 -> Q (F_X9_sheet p0 p1 p2 p3 dN pL).1 (F_X9_sheet p0 p1 p2 p3 dN pL).2) : wp_X9_sheet Q p0 p1 p2 p3 dN pL := dt_X9_sheet h (fun o eo => by rw [eo]; exact hq)
theorem dw_X9_sheet {Q : Int32 -> (Nat -> Int32) -> Prop} {p0 p1 p2 p3 dN : Int32} {pL : Nat -> Int32} (h : wp_X9_sheet (fun o0 o1 => (o0, o1) = F_X9_sheet p0 p1 p2 p3 dN pL -> Q o0 o1) p0 p1 p2 p3 dN pL) : wp_X9_sheet Q p0 p1 p2 p3 dN pL := dt_X9_sheet h (fun o eo hp => hp eo)
noncomputable def aRj {R : Type} (k43 : Int32 -> Int32 -> Int32 -> Int32 -> Int32 -> Int32 -> Int32 -> (Nat -> Int32) -> R) (bT x1 x2 x4 x5 x6 x7 k1 k2 bY : Int32) (pW : Nat -> Int32) : R := k43 x1 x2 x4 (x5 + ((upd pW k1.toNatClampNeg k2) x7.toNatClampNeg)) (x6 + x4) (x7 + 1) bY (upd pW k1.toNatClampNeg k2)
noncomputable def j_X10_sheet_94 {R : Type} (k43 : Int32 -> Int32 -> Int32 -> Int32 -> Int32 -> Int32 -> Int32 -> (Nat -> Int32) -> R) (bT x1 x2 x4 x5 x6 x7 k1 bY : Int32) (pW : Nat -> Int32) : R := aRj k43 bT x1 x2 x4 x5 x6 x7 k1 0 bY pW
noncomputable def bBi {R : Type} (k43 : Int32 -> Int32 -> Int32 -> Int32 -> Int32 -> Int32 -> Int32 -> (Nat -> Int32) -> R) (bT x1 x2 x4 x5 x6 x7 k0 bY : Int32) (pW : Nat -> Int32) : R := if x1 = 3 then (j_X10_sheet_94 k43 bT x1 x2 x4 x5 x6 x7 x7 bY pW) else (if x7 < x2 then (aRj k43 bT x1 x2 x4 x5 x6 x7 x7 (if 0 < (if k0 < 9 then k0 else 9) then (if k0 < 9 then k0 else 9) else 0) bY pW) else (j_X10_sheet_94 k43 bT x1 x2 x4 x5 x6 x7 x7 bY pW))
noncomputable def aNZ (bT x1 x2 x4 bY c : Int32) (s : Int32 × Int32 × (Nat -> Int32)) : Int32 × Int32 × (Nat -> Int32) := if x1 = 0 then (bBi (fun q0 q1 q2 q3 q4 q5 q6 q7 => (q3, q4, q7)) bT x1 x2 x4 s.1 s.2.1 c s.2.1.toInt8.toInt32 bY s.2.2) else (if x1 = 1 then (bBi (fun q0 q1 q2 q3 q4 q5 q6 q7 => (q3, q4, q7)) bT x1 x2 x4 s.1 s.2.1 c s.2.1.toInt16.toInt32 bY s.2.2) else (bBi (fun q0 q1 q2 q3 q4 q5 q6 q7 => (q3, q4, q7)) bT x1 x2 x4 s.1 s.2.1 c s.2.1 bY s.2.2))
noncomputable def ex_X10_sheet_43 {R : Type} (po : Int32 -> Int32 -> (Nat -> Int32) -> R) (bT x1 x2 x4 bY c : Int32) (s : Int32 × Int32 × (Nat -> Int32)) : R := if x1 = 3 then (po (-3) bY s.2.2) else (po s.1 bY s.2.2)
set_option maxHeartbeats 200000 in
set_option maxRecDepth 10000 in
theorem dl_X10_sheet_43 {P Q : Int32 -> Int32 -> (Nat -> Int32) -> Prop} {bT x1 x2 x4 bY : Int32} {a : Int32 × Int32 × (Nat -> Int32)} {i : Nat} (hi0 : i < 2147483648) (hE : ∀ (c : Int32) (s : Int32 × Int32 × (Nat -> Int32)), c = nI (i + (Int32.toInt bT - ((i : Nat) : Int)).toNat) -> s = itr (aNZ bT x1 x2 x4 bY) a i (Int32.toInt bT - ((i : Nat) : Int)).toNat -> ((¬ x1 = 3 -> P s.1 bY s.2.2) /\ (x1 = 3 -> P (-3) bY s.2.2)) -> ((¬ x1 = 3 -> Q s.1 bY s.2.2) /\ (x1 = 3 -> Q (-3) bY s.2.2))) : ∀ (n k : Nat) (c : Int32), c = nI (i + k) -> k <= (Int32.toInt bT - ((i : Nat) : Int)).toNat -> wb_X10_sheet_43 P bT n x1 x2 x4 (itr (aNZ bT x1 x2 x4 bY) a i k).1 (itr (aNZ bT x1 x2 x4 bY) a i k).2.1 c bY (itr (aNZ bT x1 x2 x4 bY) a i k).2.2 -> wb_X10_sheet_43 Q bT n x1 x2 x4 (itr (aNZ bT x1 x2 x4 bY) a i k).1 (itr (aNZ bT x1 x2 x4 bY) a i k).2.1 c bY (itr (aNZ bT x1 x2 x4 bY) a i k).2.2 := by
  intro n
  induction n with
  | zero => intro k c hc hk h; exact False.elim h
  | succ n ih =>
    intro k c hc hk h
    have hr := aAT bT
    have hi : Int32.toInt c = ((i + k : Nat) : Int) := by rw [hc]; exact nI_toInt (by omega)
    refine And.intro (fun t0 => ?_) (fun t0 => ?_)
    · have h := And.left h t0
      have t1 := (aAO _ _).mp t0
      have hk2 : k = (Int32.toInt bT - ((i : Nat) : Int)).toNat := by omega
      subst hk2
      exact hE _ _ hc rfl h
    · have h := And.right h t0
      have t1 := mt (aAO _ _).mpr t0
      have hs : ∀ o : Int32 × Int32 × (Nat -> Int32), o = itr (aNZ bT x1 x2 x4 bY) a i (k + 1) -> wb_X10_sheet_43 P bT n x1 x2 x4 o.1 o.2.1 (c + 1) bY o.2.2 -> wb_X10_sheet_43 Q bT n x1 x2 x4 o.1 o.2.1 (c + 1) bY o.2.2 := by
        intro o eo h9
        have q := ih (k + 1) (c + 1) (by rw [hc]; exact nI_1 _) (by omega)
        rw [<- eo] at q
        exact q h9
      rw [itr_s, <- hc, aNZ] at hs
      refine And.intro (fun c1 => ?_) (fun c1 => ?_)
      · have h := And.left h c1
        rw [if_neg c1] at hs
        refine And.intro (fun c2 => ?_) (fun c2 => ?_)
        · have h := And.left h c2
          rw [if_neg c2] at hs
          rw [bBi] at hs
          unfold ws_X10_sheet_75 at h ⊢
          refine And.intro (fun c3 => ?_) (fun c3 => ?_)
          · have h := And.left h c3
            rw [if_pos c3] at hs
            rw [j_X10_sheet_94] at hs
            unfold aZA at h ⊢
            rw [aRj] at hs
            unfold aPF at h ⊢
            refine And.intro (And.left h) ?_
            have h := And.right h
            refine And.intro (And.left h) ?_
            have h := And.right h
            refine ae ?_
            have h := h _ rfl
            refine ae ?_
            have h := h _ rfl
            refine ae ?_
            have h := h _ rfl
            have q9 := hs _ rfl
            dsimp only at q9
            exact q9 h
          · have h := And.right h c3
            rw [if_neg c3] at hs
            refine And.intro (fun c4 => ?_) (fun c4 => ?_)
            · have h := And.left h c4
              rw [if_pos c4] at hs
              refine ae ?_
              have h := h _ rfl
              refine ae ?_
              have h := h _ rfl
              rw [aRj] at hs
              unfold aPF at h ⊢
              refine And.intro (And.left h) ?_
              have h := And.right h
              refine And.intro (And.left h) ?_
              have h := And.right h
              refine ae ?_
              have h := h _ rfl
              refine ae ?_
              have h := h _ rfl
              refine ae ?_
              have h := h _ rfl
              have q9 := hs _ rfl
              dsimp only at q9
              exact q9 h
            · have h := And.right h c4
              rw [if_neg c4] at hs
              rw [j_X10_sheet_94] at hs
              unfold aZA at h ⊢
              rw [aRj] at hs
              unfold aPF at h ⊢
              refine And.intro (And.left h) ?_
              have h := And.right h
              refine And.intro (And.left h) ?_
              have h := And.right h
              refine ae ?_
              have h := h _ rfl
              refine ae ?_
              have h := h _ rfl
              refine ae ?_
              have h := h _ rfl
              have q9 := hs _ rfl
              dsimp only at q9
              exact q9 h
        · have h := And.right h c2
          rw [if_pos c2] at hs
          refine ae ?_
          have h := h _ rfl
          rw [bBi] at hs
          unfold ws_X10_sheet_75 at h ⊢
          refine And.intro (fun c5 => ?_) (fun c5 => ?_)
          · have h := And.left h c5
            rw [if_pos c5] at hs
            rw [j_X10_sheet_94] at hs
            unfold aZA at h ⊢
            rw [aRj] at hs
            unfold aPF at h ⊢
            refine And.intro (And.left h) ?_
            have h := And.right h
            refine And.intro (And.left h) ?_
            have h := And.right h
            refine ae ?_
            have h := h _ rfl
            refine ae ?_
            have h := h _ rfl
            refine ae ?_
            have h := h _ rfl
            have q9 := hs _ rfl
            dsimp only at q9
            exact q9 h
          · have h := And.right h c5
            rw [if_neg c5] at hs
            refine And.intro (fun c6 => ?_) (fun c6 => ?_)
            · have h := And.left h c6
              rw [if_pos c6] at hs
              refine ae ?_
              have h := h _ rfl
              refine ae ?_
              have h := h _ rfl
              rw [aRj] at hs
              unfold aPF at h ⊢
              refine And.intro (And.left h) ?_
              have h := And.right h
              refine And.intro (And.left h) ?_
              have h := And.right h
              refine ae ?_
              have h := h _ rfl
              refine ae ?_
              have h := h _ rfl
              refine ae ?_
              have h := h _ rfl
              have q9 := hs _ rfl
              dsimp only at q9
              exact q9 h
            · have h := And.right h c6
              rw [if_neg c6] at hs
              rw [j_X10_sheet_94] at hs
              unfold aZA at h ⊢
              rw [aRj] at hs
              unfold aPF at h ⊢
              refine And.intro (And.left h) ?_
              have h := And.right h
              refine And.intro (And.left h) ?_
              have h := And.right h
              refine ae ?_
              have h := h _ rfl
              refine ae ?_
              have h := h _ rfl
              refine ae ?_
              have h := h _ rfl
              have q9 := hs _ rfl
              dsimp only at q9
              exact q9 h
      · have h := And.right h c1
        rw [if_pos c1] at hs
        refine ae ?_
        have h := h _ rfl
        rw [bBi] at hs
        unfold ws_X10_sheet_75 at h ⊢
        refine And.intro (fun c7 => ?_) (fun c7 => ?_)
        · have h := And.left h c7
          rw [if_pos c7] at hs
          rw [j_X10_sheet_94] at hs
          unfold aZA at h ⊢
          rw [aRj] at hs
          unfold aPF at h ⊢
          refine And.intro (And.left h) ?_
          have h := And.right h
          refine And.intro (And.left h) ?_
          have h := And.right h
          refine ae ?_
          have h := h _ rfl
          refine ae ?_
          have h := h _ rfl
          refine ae ?_
          have h := h _ rfl
          have q9 := hs _ rfl
          dsimp only at q9
          exact q9 h
        · have h := And.right h c7
          rw [if_neg c7] at hs
          refine And.intro (fun c8 => ?_) (fun c8 => ?_)
          · have h := And.left h c8
            rw [if_pos c8] at hs
            refine ae ?_
            have h := h _ rfl
            refine ae ?_
            have h := h _ rfl
            rw [aRj] at hs
            unfold aPF at h ⊢
            refine And.intro (And.left h) ?_
            have h := And.right h
            refine And.intro (And.left h) ?_
            have h := And.right h
            refine ae ?_
            have h := h _ rfl
            refine ae ?_
            have h := h _ rfl
            refine ae ?_
            have h := h _ rfl
            have q9 := hs _ rfl
            dsimp only at q9
            exact q9 h
          · have h := And.right h c8
            rw [if_neg c8] at hs
            rw [j_X10_sheet_94] at hs
            unfold aZA at h ⊢
            rw [aRj] at hs
            unfold aPF at h ⊢
            refine And.intro (And.left h) ?_
            have h := And.right h
            refine And.intro (And.left h) ?_
            have h := And.right h
            refine ae ?_
            have h := h _ rfl
            refine ae ?_
            have h := h _ rfl
            refine ae ?_
            have h := h _ rfl
            have q9 := hs _ rfl
            dsimp only at q9
            exact q9 h
noncomputable def j_X10_sheet_34 {R : Type} (po : Int32 -> Int32 -> (Nat -> Int32) -> R) (bT x1 x2 x3 x4 bY : Int32) (pW : Nat -> Int32) : R := ex_X10_sheet_43 po bT x1 x2 x4 bY (nI (0 + (Int32.toInt bT - ((0 : Nat) : Int)).toNat)) (itr (aNZ bT x1 x2 x4 bY) (0, x3, pW) 0 (Int32.toInt bT - ((0 : Nat) : Int)).toNat)
noncomputable def F_X10_sheet (p0 p1 p2 p3 bT bY : Int32) (pW : Nat -> Int32) : Int32 × Int32 × (Nat -> Int32) := if (aUe p0 0 3) = 0 then ((-1), 0, pW) else (if p1 <= 16 then (if 3 <= p0 then (j_X10_sheet_34 (fun o0 o1 o2 => (o0, o1, o2)) bT p0 p1 p2 p3 0 pW) else (if 0 <= p1 then (j_X10_sheet_34 (fun o0 o1 o2 => (o0, o1, o2)) bT p0 p1 p2 p3 0 pW) else ((-2), 0, pW))) else ((-1), 0, pW))
set_option maxHeartbeats 200000 in
set_option maxRecDepth 10000 in
theorem dt_X10_sheet {P Q : Int32 -> Int32 -> (Nat -> Int32) -> Prop} {p0 p1 p2 p3 bT bY : Int32} {pW : Nat -> Int32} (h : wp_X10_sheet P p0 p1 p2 p3 bT bY pW) (hq : ∀ o : Int32 × Int32 × (Nat -> Int32), o = F_X10_sheet p0 p1 p2 p3 bT bY pW -> P o.1 o.2.1 o.2.2 -> Q o.1 o.2.1 o.2.2) : wp_X10_sheet Q p0 p1 p2 p3 bT bY pW := by
  rw [F_X10_sheet] at hq
  refine du_X10_in h ?_
  intro h
  refine And.intro (fun c1 => ?_) (fun c1 => ?_)
  · have h := And.left h c1
    rw [if_pos c1] at hq
    have q9 := hq _ rfl
    dsimp only at q9
    exact q9 h
  · have h := And.right h c1
    rw [if_neg c1] at hq
    refine And.intro (fun c2 => ?_) (fun c2 => ?_)
    · have h := And.left h c2
      rw [if_pos c2] at hq
      refine And.intro (fun c3 => ?_) (fun c3 => ?_)
      · have h := And.left h c3
        rw [if_pos c3] at hq
        rw [j_X10_sheet_34] at hq
        unfold ws_X10_sheet_34 at h ⊢
        obtain ⟨n4, h⟩ := h
        refine ⟨n4, dl_X10_sheet_43 (a := (0, p2, pW)) (i := 0) (by decide) ?_ n4 0 0 (by decide) (Nat.zero_le _) h⟩
        intro cc5 s6 ec7 es8 h
        rw [<- ec7, <- es8, ex_X10_sheet_43] at hq
        refine And.intro (fun c9 => ?_) (fun c9 => ?_)
        · have h := And.left h c9
          rw [if_neg c9] at hq
          have q9 := hq _ rfl
          dsimp only at q9
          exact q9 h
        · have h := And.right h c9
          rw [if_pos c9] at hq
          have q9 := hq _ rfl
          dsimp only at q9
          exact q9 h
      · have h := And.right h c3
        rw [if_neg c3] at hq
        refine And.intro (fun c10 => ?_) (fun c10 => ?_)
        · have h := And.left h c10
          rw [if_pos c10] at hq
          rw [j_X10_sheet_34] at hq
          unfold ws_X10_sheet_34 at h ⊢
          obtain ⟨n11, h⟩ := h
          refine ⟨n11, dl_X10_sheet_43 (a := (0, p2, pW)) (i := 0) (by decide) ?_ n11 0 0 (by decide) (Nat.zero_le _) h⟩
          intro cc12 s13 ec14 es15 h
          rw [<- ec14, <- es15, ex_X10_sheet_43] at hq
          refine And.intro (fun c16 => ?_) (fun c16 => ?_)
          · have h := And.left h c16
            rw [if_neg c16] at hq
            have q9 := hq _ rfl
            dsimp only at q9
            exact q9 h
          · have h := And.right h c16
            rw [if_pos c16] at hq
            have q9 := hq _ rfl
            dsimp only at q9
            exact q9 h
        · have h := And.right h c10
          rw [if_neg c10] at hq
          have q9 := hq _ rfl
          dsimp only at q9
          exact q9 h
    · have h := And.right h c2
      rw [if_neg c2] at hq
      have q9 := hq _ rfl
      dsimp only at q9
      exact q9 h
theorem du_X10_sheet {P Q : Int32 -> Int32 -> (Nat -> Int32) -> Prop} {p0 p1 p2 p3 bT bY : Int32} {pW : Nat -> Int32} (h : wp_X10_sheet P p0 p1 p2 p3 bT bY pW) (hq : P (F_X10_sheet p0 p1 p2 p3 bT bY pW).1 (F_X10_sheet p0 p1 p2 p3 bT bY pW).2.1 (F_X10_sheet p0 p1 p2 p3 bT bY pW).2.2 -> Q (F_X10_sheet p0 p1 p2 p3 bT bY pW).1 (F_X10_sheet p0 p1 p2 p3 bT bY pW).2.1 (F_X10_sheet p0 p1 p2 p3 bT bY pW).2.2) : wp_X10_sheet Q p0 p1 p2 p3 bT bY pW := dt_X10_sheet h (fun o eo => by rw [eo]; exact hq)
theorem dw_X10_sheet {Q : Int32 -> Int32 -> (Nat -> Int32) -> Prop} {p0 p1 p2 p3 bT bY : Int32} {pW : Nat -> Int32} (h : wp_X10_sheet (fun o0 o1 o2 => (o0, o1, o2) = F_X10_sheet p0 p1 p2 p3 bT bY pW -> Q o0 o1 o2) p0 p1 p2 p3 bT bY pW) : wp_X10_sheet Q p0 p1 p2 p3 bT bY pW := dt_X10_sheet h (fun o eo hp => hp eo)
noncomputable def j_X3_standingsAt_37 {R : Type} (k5 : Int32 -> Int32 -> Int32 -> Int32 -> R) (bD : Int32) (mX : Nat -> Int32) (x1 x2 x3 x4 : Int32) : R := k5 x1 x2 x3 (x4 + 1)
noncomputable def bd_X3_standingsAt_5 (bD : Int32) (mX : Nat -> Int32) (x1 x2 c s : Int32) : Int32 := if x2 < (if 0 <= ((mX c.toNatClampNeg) - x1) then ((mX c.toNatClampNeg) - x1) else 0 - ((mX c.toNatClampNeg) - x1)) then (j_X3_standingsAt_37 (fun q0 q1 q2 q3 => q2) bD mX x1 x2 s c) else (j_X3_standingsAt_37 (fun q0 q1 q2 q3 => q2) bD mX x1 x2 (s ||| (1 <<< (c &&& 31))) c)
noncomputable def ex_X3_standingsAt_5 {R : Type} (po : Int32 -> R) (bD : Int32) (mX : Nat -> Int32) (x1 x2 c s : Int32) : R := po s
set_option maxHeartbeats 200000 in
set_option maxRecDepth 10000 in
theorem dl_X3_standingsAt_5 {P Q : Int32 -> Prop} {bD : Int32} {mX : Nat -> Int32} {x1 x2 a : Int32} {i : Nat} (hi0 : i < 2147483648) (hE : ∀ (c : Int32) (s : Int32), c = nI (i + (Int32.toInt bD - ((i : Nat) : Int)).toNat) -> s = itr (bd_X3_standingsAt_5 bD mX x1 x2) a i (Int32.toInt bD - ((i : Nat) : Int)).toNat -> (P s) -> (Q s)) : ∀ (n k : Nat) (c : Int32), c = nI (i + k) -> k <= (Int32.toInt bD - ((i : Nat) : Int)).toNat -> wb_X3_standingsAt_5 P bD mX n x1 x2 (itr (bd_X3_standingsAt_5 bD mX x1 x2) a i k) c -> wb_X3_standingsAt_5 Q bD mX n x1 x2 (itr (bd_X3_standingsAt_5 bD mX x1 x2) a i k) c := by
  intro n
  induction n with
  | zero => intro k c hc hk h; exact False.elim h
  | succ n ih =>
    intro k c hc hk h
    have hr := aAT bD
    have hi : Int32.toInt c = ((i + k : Nat) : Int) := by rw [hc]; exact nI_toInt (by omega)
    refine And.intro (fun t0 => ?_) (fun t0 => ?_)
    · have h := And.left h t0
      have t1 := (aAO _ _).mp t0
      have hk2 : k = (Int32.toInt bD - ((i : Nat) : Int)).toNat := by omega
      subst hk2
      exact hE _ _ hc rfl h
    · have h := And.right h t0
      have t1 := mt (aAO _ _).mpr t0
      have hs : ∀ o : Int32, o = itr (bd_X3_standingsAt_5 bD mX x1 x2) a i (k + 1) -> wb_X3_standingsAt_5 P bD mX n x1 x2 o (c + 1) -> wb_X3_standingsAt_5 Q bD mX n x1 x2 o (c + 1) := by
        intro o eo h9
        have q := ih (k + 1) (c + 1) (by rw [hc]; exact nI_1 _) (by omega)
        rw [<- eo] at q
        exact q h9
      rw [itr_s, <- hc, bd_X3_standingsAt_5] at hs
      refine And.intro (And.left h) ?_
      have h := And.right h
      refine ae ?_
      have h := h _ rfl
      refine ae ?_
      have h := h _ rfl
      refine ae ?_
      have h := h _ rfl
      refine And.intro (fun c1 => ?_) (fun c1 => ?_)
      · have h := And.left h c1
        rw [if_pos c1] at hs
        rw [j_X3_standingsAt_37] at hs
        unfold bBx at h ⊢
        refine ae ?_
        have h := h _ rfl
        have q9 := hs _ rfl
        exact q9 h
      · have h := And.right h c1
        rw [if_neg c1] at hs
        refine ae ?_
        have h := h _ rfl
        rw [j_X3_standingsAt_37] at hs
        unfold bBx at h ⊢
        refine ae ?_
        have h := h _ rfl
        have q9 := hs _ rfl
        exact q9 h
noncomputable def F_X3_standingsAt (p0 p1 bD : Int32) (mX : Nat -> Int32) : Int32 := ex_X3_standingsAt_5 (fun o0 => o0) bD mX p0 p1 (nI (0 + (Int32.toInt bD - ((0 : Nat) : Int)).toNat)) (itr (bd_X3_standingsAt_5 bD mX p0 p1) 0 0 (Int32.toInt bD - ((0 : Nat) : Int)).toNat)
set_option maxHeartbeats 200000 in
set_option maxRecDepth 10000 in
theorem dt_X3_standingsAt {P Q : Int32 -> Prop} {p0 p1 bD : Int32} {mX : Nat -> Int32} (h : bBR P p0 p1 bD mX) (hq : ∀ o : Int32, o = F_X3_standingsAt p0 p1 bD mX -> P o -> Q o) : bBR Q p0 p1 bD mX := by
  rw [F_X3_standingsAt] at hq
  obtain ⟨n1, h⟩ := h
  refine ⟨n1, dl_X3_standingsAt_5 (a := 0) (i := 0) (by decide) ?_ n1 0 0 (by decide) (Nat.zero_le _) h⟩
  intro cc2 s3 ec4 es5 h
  rw [<- ec4, <- es5, ex_X3_standingsAt_5] at hq
  have q9 := hq _ rfl
  exact q9 h
theorem du_X3_standingsAt {P Q : Int32 -> Prop} {p0 p1 bD : Int32} {mX : Nat -> Int32} (h : bBR P p0 p1 bD mX) (hq : P (F_X3_standingsAt p0 p1 bD mX) -> Q (F_X3_standingsAt p0 p1 bD mX)) : bBR Q p0 p1 bD mX := dt_X3_standingsAt h (fun o eo => by rw [eo]; exact hq)
noncomputable def F_X9_marks (p0 p1 bD : Int32) (mX : Nat -> Int32) : Int32 := if p0 < 0 then (-1) else (if 99 < p0 then (-1) else (if p1 < 0 then (-1) else (if p1 <= 99 then (F_X3_standingsAt p0 p1 bD mX) else (-1))))
set_option maxHeartbeats 200000 in
set_option maxRecDepth 10000 in
theorem dt_X9_marks {P Q : Int32 -> Prop} {p0 p1 bD : Int32} {mX : Nat -> Int32} (h : wp_X9_marks P p0 p1 bD mX) (hq : ∀ o : Int32, o = F_X9_marks p0 p1 bD mX -> P o -> Q o) : wp_X9_marks Q p0 p1 bD mX := by
  rw [F_X9_marks] at hq
  refine And.intro (fun c1 => ?_) (fun c1 => ?_)
  · have h := And.left h c1
    rw [if_pos c1] at hq
    have q9 := hq _ rfl
    exact q9 h
  · have h := And.right h c1
    rw [if_neg c1] at hq
    refine And.intro (fun c2 => ?_) (fun c2 => ?_)
    · have h := And.left h c2
      rw [if_pos c2] at hq
      have q9 := hq _ rfl
      exact q9 h
    · have h := And.right h c2
      rw [if_neg c2] at hq
      refine And.intro (fun c3 => ?_) (fun c3 => ?_)
      · have h := And.left h c3
        rw [if_pos c3] at hq
        have q9 := hq _ rfl
        exact q9 h
      · have h := And.right h c3
        rw [if_neg c3] at hq
        refine And.intro (fun c4 => ?_) (fun c4 => ?_)
        · have h := And.left h c4
          rw [if_pos c4] at hq
          refine du_X3_standingsAt h ?_
          intro h
          have q9 := hq _ rfl
          exact q9 h
        · have h := And.right h c4
          rw [if_neg c4] at hq
          have q9 := hq _ rfl
          exact q9 h
theorem du_X9_marks {P Q : Int32 -> Prop} {p0 p1 bD : Int32} {mX : Nat -> Int32} (h : wp_X9_marks P p0 p1 bD mX) (hq : P (F_X9_marks p0 p1 bD mX) -> Q (F_X9_marks p0 p1 bD mX)) : wp_X9_marks Q p0 p1 bD mX := dt_X9_marks h (fun o eo => by rw [eo]; exact hq)
theorem dw_X9_marks {Q : Int32 -> Prop} {p0 p1 bD : Int32} {mX : Nat -> Int32} (h : wp_X9_marks (fun o0 => o0 = F_X9_marks p0 p1 bD mX -> Q o0) p0 p1 bD mX) : wp_X9_marks Q p0 p1 bD mX := dt_X9_marks h (fun o eo hp => hp eo)
noncomputable def j_X10_marks_66 {R : Type} (k32 : Int32 -> Int32 -> Int32 -> Int32 -> Int32 -> R) (aG : Int32) (nG : Nat -> Int32) (x1 x2 x4 k0 k1 bY : Int32) : R := k32 x1 x2 (k0 ||| k1) (x4 + 1) bY
noncomputable def bd_X10_marks_32 (aG : Int32) (nG : Nat -> Int32) (x1 x2 bY c s : Int32) : Int32 := if x2 < (if 0 <= ((nG c.toNatClampNeg) - x1) then ((nG c.toNatClampNeg) - x1) else 0 - ((nG c.toNatClampNeg) - x1)) then (j_X10_marks_66 (fun q0 q1 q2 q3 q4 => q2) aG nG x1 x2 c s 0 bY) else (j_X10_marks_66 (fun q0 q1 q2 q3 q4 => q2) aG nG x1 x2 c s (1 <<< (c &&& 31)) bY)
noncomputable def ex_X10_marks_32 {R : Type} (po : Int32 -> Int32 -> R) (aG : Int32) (nG : Nat -> Int32) (x1 x2 bY c s : Int32) : R := po s bY
set_option maxHeartbeats 200000 in
set_option maxRecDepth 10000 in
theorem dl_X10_marks_32 {P Q : Int32 -> Int32 -> Prop} {aG : Int32} {nG : Nat -> Int32} {x1 x2 bY a : Int32} {i : Nat} (hi0 : i < 2147483648) (hE : ∀ (c : Int32) (s : Int32), c = nI (i + (Int32.toInt aG - ((i : Nat) : Int)).toNat) -> s = itr (bd_X10_marks_32 aG nG x1 x2 bY) a i (Int32.toInt aG - ((i : Nat) : Int)).toNat -> (P s bY) -> (Q s bY)) : ∀ (n k : Nat) (c : Int32), c = nI (i + k) -> k <= (Int32.toInt aG - ((i : Nat) : Int)).toNat -> wb_X10_marks_32 P aG nG n x1 x2 (itr (bd_X10_marks_32 aG nG x1 x2 bY) a i k) c bY -> wb_X10_marks_32 Q aG nG n x1 x2 (itr (bd_X10_marks_32 aG nG x1 x2 bY) a i k) c bY := by
  intro n
  induction n with
  | zero => intro k c hc hk h; exact False.elim h
  | succ n ih =>
    intro k c hc hk h
    have hr := aAT aG
    have hi : Int32.toInt c = ((i + k : Nat) : Int) := by rw [hc]; exact nI_toInt (by omega)
    refine And.intro (fun t0 => ?_) (fun t0 => ?_)
    · have h := And.left h t0
      have t1 := (aAO _ _).mp t0
      have hk2 : k = (Int32.toInt aG - ((i : Nat) : Int)).toNat := by omega
      subst hk2
      exact hE _ _ hc rfl h
    · have h := And.right h t0
      have t1 := mt (aAO _ _).mpr t0
      have hs : ∀ o : Int32, o = itr (bd_X10_marks_32 aG nG x1 x2 bY) a i (k + 1) -> wb_X10_marks_32 P aG nG n x1 x2 o (c + 1) bY -> wb_X10_marks_32 Q aG nG n x1 x2 o (c + 1) bY := by
        intro o eo h9
        have q := ih (k + 1) (c + 1) (by rw [hc]; exact nI_1 _) (by omega)
        rw [<- eo] at q
        exact q h9
      rw [itr_s, <- hc, bd_X10_marks_32] at hs
      refine And.intro (And.left h) ?_
      have h := And.right h
      refine ae ?_
      have h := h _ rfl
      refine ae ?_
      have h := h _ rfl
      refine ae ?_
      have h := h _ rfl
      refine And.intro (fun c1 => ?_) (fun c1 => ?_)
      · have h := And.left h c1
        rw [if_pos c1] at hs
        rw [j_X10_marks_66] at hs
        unfold ws_X10_marks_66 at h ⊢
        refine ae ?_
        have h := h _ rfl
        refine ae ?_
        have h := h _ rfl
        have q9 := hs _ rfl
        exact q9 h
      · have h := And.right h c1
        rw [if_neg c1] at hs
        refine ae ?_
        have h := h _ rfl
        rw [j_X10_marks_66] at hs
        unfold ws_X10_marks_66 at h ⊢
        refine ae ?_
        have h := h _ rfl
        refine ae ?_
        have h := h _ rfl
        have q9 := hs _ rfl
        exact q9 h
noncomputable def F_X10_marks (p0 p1 aG bY : Int32) (nG : Nat -> Int32) : Int32 × Int32 := if (aUe p0 0 99) = 0 then ((-1), 0) else (if (aUe p1 0 99) = 0 then ((-1), 0) else (ex_X10_marks_32 (fun o0 o1 => (o0, o1)) aG nG p0 p1 0 (nI (0 + (Int32.toInt aG - ((0 : Nat) : Int)).toNat)) (itr (bd_X10_marks_32 aG nG p0 p1 0) 0 0 (Int32.toInt aG - ((0 : Nat) : Int)).toNat)))
set_option maxHeartbeats 200000 in
set_option maxRecDepth 10000 in
theorem dt_X10_marks {P Q : Int32 -> Int32 -> Prop} {p0 p1 aG bY : Int32} {nG : Nat -> Int32} (h : wp_X10_marks P p0 p1 aG bY nG) (hq : ∀ o : Int32 × Int32, o = F_X10_marks p0 p1 aG bY nG -> P o.1 o.2 -> Q o.1 o.2) : wp_X10_marks Q p0 p1 aG bY nG := by
  rw [F_X10_marks] at hq
  refine du_X10_in h ?_
  intro h
  refine And.intro (fun c1 => ?_) (fun c1 => ?_)
  · have h := And.left h c1
    rw [if_pos c1] at hq
    have q9 := hq _ rfl
    dsimp only at q9
    exact q9 h
  · have h := And.right h c1
    rw [if_neg c1] at hq
    refine du_X10_in h ?_
    intro h
    refine And.intro (fun c2 => ?_) (fun c2 => ?_)
    · have h := And.left h c2
      rw [if_neg c2] at hq
      obtain ⟨n3, h⟩ := h
      refine ⟨n3, dl_X10_marks_32 (a := 0) (i := 0) (by decide) ?_ n3 0 0 (by decide) (Nat.zero_le _) h⟩
      intro cc4 s5 ec6 es7 h
      rw [<- ec6, <- es7, ex_X10_marks_32] at hq
      have q9 := hq _ rfl
      dsimp only at q9
      exact q9 h
    · have h := And.right h c2
      rw [if_pos c2] at hq
      have q9 := hq _ rfl
      dsimp only at q9
      exact q9 h
theorem du_X10_marks {P Q : Int32 -> Int32 -> Prop} {p0 p1 aG bY : Int32} {nG : Nat -> Int32} (h : wp_X10_marks P p0 p1 aG bY nG) (hq : P (F_X10_marks p0 p1 aG bY nG).1 (F_X10_marks p0 p1 aG bY nG).2 -> Q (F_X10_marks p0 p1 aG bY nG).1 (F_X10_marks p0 p1 aG bY nG).2) : wp_X10_marks Q p0 p1 aG bY nG := dt_X10_marks h (fun o eo => by rw [eo]; exact hq)
theorem dw_X10_marks {Q : Int32 -> Int32 -> Prop} {p0 p1 aG bY : Int32} {nG : Nat -> Int32} (h : wp_X10_marks (fun o0 o1 => (o0, o1) = F_X10_marks p0 p1 aG bY nG -> Q o0 o1) p0 p1 aG bY nG) : wp_X10_marks Q p0 p1 aG bY nG := dt_X10_marks h (fun o eo hp => hp eo)
noncomputable def aVU (p0 bD : Int32) : Int32 := if p0 < 0 then 0 else (if bD <= p0 then 0 else 1)
set_option maxHeartbeats 200000 in
set_option maxRecDepth 10000 in
theorem dt_X3_hasStanding {P Q : Int32 -> Prop} {p0 bD : Int32} (h : aK6 P p0 bD) (hq : ∀ o : Int32, o = aVU p0 bD -> P o -> Q o) : aK6 Q p0 bD := by
  rw [aVU] at hq
  refine And.intro (fun c1 => ?_) (fun c1 => ?_)
  · have h := And.left h c1
    rw [if_pos c1] at hq
    have q9 := hq _ rfl
    exact q9 h
  · have h := And.right h c1
    rw [if_neg c1] at hq
    refine And.intro (fun c2 => ?_) (fun c2 => ?_)
    · have h := And.left h c2
      rw [if_pos c2] at hq
      have q9 := hq _ rfl
      exact q9 h
    · have h := And.right h c2
      rw [if_neg c2] at hq
      have q9 := hq _ rfl
      exact q9 h
theorem du_X3_hasStanding {P Q : Int32 -> Prop} {p0 bD : Int32} (h : aK6 P p0 bD) (hq : P (aVU p0 bD) -> Q (aVU p0 bD)) : aK6 Q p0 bD := dt_X3_hasStanding h (fun o eo => by rw [eo]; exact hq)
noncomputable def F_X3_downSeconds (p0 : Int32) (oE : Nat -> Int32) : Int32 := (3 + (((oE p0.toNatClampNeg) + 9) / 10))
set_option maxHeartbeats 200000 in
set_option maxRecDepth 10000 in
theorem dt_X3_downSeconds {P Q : Int32 -> Prop} {p0 : Int32} {oE : Nat -> Int32} (h : aYG P p0 oE) (hq : ∀ o : Int32, o = F_X3_downSeconds p0 oE -> P o -> Q o) : aYG Q p0 oE := by
  rw [F_X3_downSeconds] at hq
  refine And.intro (And.left h) ?_
  have h := And.right h
  refine ae ?_
  have h := h _ rfl
  refine ae ?_
  have h := h _ rfl
  have q9 := hq _ rfl
  exact q9 h
theorem du_X3_downSeconds {P Q : Int32 -> Prop} {p0 : Int32} {oE : Nat -> Int32} (h : aYG P p0 oE) (hq : P (F_X3_downSeconds p0 oE) -> Q (F_X3_downSeconds p0 oE)) : aYG Q p0 oE := dt_X3_downSeconds h (fun o eo => by rw [eo]; exact hq)
noncomputable def F_X9_standing (p0 p1 bD : Int32) (mX oE : Nat -> Int32) : Option Int32 := if (aVU p0 bD) = 0 then none else (if p1 = 0 then (some (mX p0.toNatClampNeg)) else (if p1 = 1 then (some (oE p0.toNatClampNeg)) else (if p1 = 2 then (some (F_X3_downSeconds p0 oE)) else none)))
set_option maxHeartbeats 200000 in
set_option maxRecDepth 10000 in
theorem dt_X9_standing {P Q : Int32 -> Prop} {Px Qx : Prop} {p0 p1 bD : Int32} {mX oE : Nat -> Int32} (h : wp_X9_standing P Px p0 p1 bD mX oE) (hq : ∀ o : Option Int32, o = F_X9_standing p0 p1 bD mX oE -> Option.elim o Px P -> Option.elim o Qx Q) : wp_X9_standing Q Qx p0 p1 bD mX oE := by
  rw [F_X9_standing] at hq
  refine du_X3_hasStanding h ?_
  intro h
  refine And.intro (fun c1 => ?_) (fun c1 => ?_)
  · have h := And.left h c1
    rw [if_neg c1] at hq
    refine (And.intro (fun c2 => ?_) (And.intro (fun c3 => ?_) (And.intro (fun c4 => ?_) (fun c2 c3 c4 => ?_))))
    · have h := And.left h c2
      rw [if_pos c2] at hq
      refine And.intro (And.left h) ?_
      have h := And.right h
      have q9 := hq _ rfl
      exact q9 h
    · have h := And.left (And.right h) c3
      rw [if_neg (fun e9 => absurd (e9.symm.trans c3) (by decide)), if_pos c3] at hq
      refine And.intro (And.left h) ?_
      have h := And.right h
      have q9 := hq _ rfl
      exact q9 h
    · have h := And.left (And.right (And.right h)) c4
      rw [if_neg (fun e9 => absurd (e9.symm.trans c4) (by decide)), if_neg (fun e9 => absurd (e9.symm.trans c4) (by decide)), if_pos c4] at hq
      refine du_X3_downSeconds h ?_
      intro h
      have q9 := hq _ rfl
      exact q9 h
    · have h := And.right (And.right (And.right h)) c2 c3 c4
      rw [if_neg c2, if_neg c3, if_neg c4] at hq
      have q9 := hq _ rfl
      exact q9 h
  · have h := And.right h c1
    rw [if_pos c1] at hq
    have q9 := hq _ rfl
    exact q9 h
noncomputable def aUD (p0 aG : Int32) : Int32 := (aUe p0 0 (aG - 1))
set_option maxHeartbeats 200000 in
set_option maxRecDepth 10000 in
theorem dt_X10_isStanding {P Q : Int32 -> Prop} {p0 aG : Int32} (h : aJI P p0 aG) (hq : ∀ o : Int32, o = aUD p0 aG -> P o -> Q o) : aJI Q p0 aG := by
  rw [aUD] at hq
  refine ae ?_
  have h := h _ rfl
  refine du_X10_in h ?_
  intro h
  refine And.intro (And.left h) ?_
  have h := And.right h
  have q9 := hq _ rfl
  exact q9 h
theorem du_X10_isStanding {P Q : Int32 -> Prop} {p0 aG : Int32} (h : aJI P p0 aG) (hq : P (aUD p0 aG) -> Q (aUD p0 aG)) : aJI Q p0 aG := dt_X10_isStanding h (fun o eo => by rw [eo]; exact hq)
theorem dw_X10_isStanding {Q : Int32 -> Prop} {p0 aG : Int32} (h : aJI (fun o0 => o0 = aUD p0 aG -> Q o0) p0 aG) : aJI Q p0 aG := dt_X10_isStanding h (fun o eo hp => hp eo)
noncomputable def F_X10_downOf (p0 : Int32) (oO : Nat -> Int32) : Int32 := (3 + (((oO p0.toNatClampNeg) + 9) / 10))
set_option maxHeartbeats 200000 in
set_option maxRecDepth 10000 in
theorem dt_X10_downOf {P Q : Int32 -> Prop} {p0 : Int32} {oO : Nat -> Int32} (h : aZf P p0 oO) (hq : ∀ o : Int32, o = F_X10_downOf p0 oO -> P o -> Q o) : aZf Q p0 oO := by
  rw [F_X10_downOf] at hq
  refine And.intro (And.left h) ?_
  have h := And.right h
  refine ae ?_
  have h := h _ rfl
  refine ae ?_
  have h := h _ rfl
  have q9 := hq _ rfl
  exact q9 h
theorem du_X10_downOf {P Q : Int32 -> Prop} {p0 : Int32} {oO : Nat -> Int32} (h : aZf P p0 oO) (hq : P (F_X10_downOf p0 oO) -> Q (F_X10_downOf p0 oO)) : aZf Q p0 oO := dt_X10_downOf h (fun o eo => by rw [eo]; exact hq)
theorem dw_X10_downOf {Q : Int32 -> Prop} {p0 : Int32} {oO : Nat -> Int32} (h : aZf (fun o0 => o0 = F_X10_downOf p0 oO -> Q o0) p0 oO) : aZf Q p0 oO := dt_X10_downOf h (fun o eo hp => hp eo)
noncomputable def F_X10_lost (bY : Int32) : Int32 × Int32 := (0, 1)
set_option maxHeartbeats 200000 in
set_option maxRecDepth 10000 in
theorem dt_X10_lost {P Q : Int32 -> Int32 -> Prop} {bY : Int32} (h : wp_X10_lost P bY) (hq : ∀ o : Int32 × Int32, o = F_X10_lost bY -> P o.1 o.2 -> Q o.1 o.2) : wp_X10_lost Q bY := by
  rw [F_X10_lost] at hq
  have q9 := hq _ rfl
  dsimp only at q9
  exact q9 h
theorem du_X10_lost {P Q : Int32 -> Int32 -> Prop} {bY : Int32} (h : wp_X10_lost P bY) (hq : P (F_X10_lost bY).1 (F_X10_lost bY).2 -> Q (F_X10_lost bY).1 (F_X10_lost bY).2) : wp_X10_lost Q bY := dt_X10_lost h (fun o eo => by rw [eo]; exact hq)
theorem dw_X10_lost {Q : Int32 -> Int32 -> Prop} {bY : Int32} (h : wp_X10_lost (fun o0 o1 => (o0, o1) = F_X10_lost bY -> Q o0 o1) bY) : wp_X10_lost Q bY := dt_X10_lost h (fun o eo hp => hp eo)
noncomputable def j_X10_standing_22 {R : Type} (po : Int32 -> Int32 -> R) (aG : Int32) (nG oO : Nat -> Int32) (bY : Int32) : R := po ((F_X10_lost bY).1) ((F_X10_lost bY).2)
noncomputable def F_X10_standing (p0 p1 aG bY : Int32) (nG oO : Nat -> Int32) : Int32 × Int32 := if (aUD p0 aG) = 0 then (j_X10_standing_22 (fun o0 o1 => (o0, o1)) aG nG oO 0) else (if (aUe p1 0 2) = 0 then (j_X10_standing_22 (fun o0 o1 => (o0, o1)) aG nG oO 0) else (if p1 = 0 then ((nG p0.toNatClampNeg), 0) else (if p1 = 1 then ((oO p0.toNatClampNeg), 0) else ((F_X10_downOf p0 oO), 0))))
set_option maxHeartbeats 200000 in
set_option maxRecDepth 10000 in
theorem dt_X10_standing {P Q : Int32 -> Int32 -> Prop} {p0 p1 aG bY : Int32} {nG oO : Nat -> Int32} (h : bCK P p0 p1 aG bY nG oO) (hq : ∀ o : Int32 × Int32, o = F_X10_standing p0 p1 aG bY nG oO -> P o.1 o.2 -> Q o.1 o.2) : bCK Q p0 p1 aG bY nG oO := by
  rw [F_X10_standing] at hq
  refine du_X10_isStanding h ?_
  intro h
  refine And.intro (fun c1 => ?_) (fun c1 => ?_)
  · have h := And.left h c1
    rw [if_pos c1] at hq
    rw [j_X10_standing_22] at hq
    unfold ws_X10_standing_22 at h ⊢
    refine du_X10_lost h ?_
    intro h
    have q9 := hq _ rfl
    dsimp only at q9
    exact q9 h
  · have h := And.right h c1
    rw [if_neg c1] at hq
    refine du_X10_in h ?_
    intro h
    refine And.intro (fun c2 => ?_) (fun c2 => ?_)
    · have h := And.left h c2
      rw [if_neg c2] at hq
      refine And.intro (fun c3 => ?_) (fun c3 => ?_)
      · have h := And.left h c3
        rw [if_neg c3] at hq
        refine And.intro (fun c4 => ?_) (fun c4 => ?_)
        · have h := And.left h c4
          rw [if_neg c4] at hq
          refine du_X10_downOf h ?_
          intro h
          have q9 := hq _ rfl
          dsimp only at q9
          exact q9 h
        · have h := And.right h c4
          rw [if_pos c4] at hq
          refine And.intro (And.left h) ?_
          have h := And.right h
          refine ae ?_
          have h := h _ rfl
          have q9 := hq _ rfl
          dsimp only at q9
          exact q9 h
      · have h := And.right h c3
        rw [if_pos c3] at hq
        refine And.intro (And.left h) ?_
        have h := And.right h
        refine ae ?_
        have h := h _ rfl
        have q9 := hq _ rfl
        dsimp only at q9
        exact q9 h
    · have h := And.right h c2
      rw [if_pos c2] at hq
      rw [j_X10_standing_22] at hq
      unfold ws_X10_standing_22 at h ⊢
      refine du_X10_lost h ?_
      intro h
      have q9 := hq _ rfl
      dsimp only at q9
      exact q9 h
theorem du_X10_standing {P Q : Int32 -> Int32 -> Prop} {p0 p1 aG bY : Int32} {nG oO : Nat -> Int32} (h : bCK P p0 p1 aG bY nG oO) (hq : P (F_X10_standing p0 p1 aG bY nG oO).1 (F_X10_standing p0 p1 aG bY nG oO).2 -> Q (F_X10_standing p0 p1 aG bY nG oO).1 (F_X10_standing p0 p1 aG bY nG oO).2) : bCK Q p0 p1 aG bY nG oO := dt_X10_standing h (fun o eo => by rw [eo]; exact hq)
theorem dw_X10_standing {Q : Int32 -> Int32 -> Prop} {p0 p1 aG bY : Int32} {nG oO : Nat -> Int32} (h : bCK (fun o0 o1 => (o0, o1) = F_X10_standing p0 p1 aG bY nG oO -> Q o0 o1) p0 p1 aG bY nG oO) : bCK Q p0 p1 aG bY nG oO := dt_X10_standing h (fun o eo hp => hp eo)
noncomputable def F_X3_hasFruit (p0 dN : Int32) : Int32 := if p0 < 0 then 0 else (if dN <= p0 then 0 else 1)
set_option maxHeartbeats 200000 in
set_option maxRecDepth 10000 in
theorem dt_X3_hasFruit {P Q : Int32 -> Prop} {p0 dN : Int32} (h : aY8 P p0 dN) (hq : ∀ o : Int32, o = F_X3_hasFruit p0 dN -> P o -> Q o) : aY8 Q p0 dN := by
  rw [F_X3_hasFruit] at hq
  refine And.intro (fun c1 => ?_) (fun c1 => ?_)
  · have h := And.left h c1
    rw [if_pos c1] at hq
    have q9 := hq _ rfl
    exact q9 h
  · have h := And.right h c1
    rw [if_neg c1] at hq
    refine And.intro (fun c2 => ?_) (fun c2 => ?_)
    · have h := And.left h c2
      rw [if_pos c2] at hq
      have q9 := hq _ rfl
      exact q9 h
    · have h := And.right h c2
      rw [if_neg c2] at hq
      have q9 := hq _ rfl
      exact q9 h
theorem du_X3_hasFruit {P Q : Int32 -> Prop} {p0 dN : Int32} (h : aY8 P p0 dN) (hq : P (F_X3_hasFruit p0 dN) -> Q (F_X3_hasFruit p0 dN)) : aY8 Q p0 dN := dt_X3_hasFruit h (fun o eo => by rw [eo]; exact hq)
noncomputable def F_X3_aside (p0 p1 : Int32) (uU mX : Nat -> Int32) : Int32 := if (uU p0.toNatClampNeg) <= (mX p1.toNatClampNeg) then ((mX p1.toNatClampNeg) - (uU p0.toNatClampNeg)) else ((uU p0.toNatClampNeg) - (mX p1.toNatClampNeg))
set_option maxHeartbeats 200000 in
set_option maxRecDepth 10000 in
theorem dt_X3_aside {P Q : Int32 -> Prop} {p0 p1 : Int32} {uU mX : Nat -> Int32} (h : wp_X3_aside P p0 p1 uU mX) (hq : ∀ o : Int32, o = F_X3_aside p0 p1 uU mX -> P o -> Q o) : wp_X3_aside Q p0 p1 uU mX := by
  rw [F_X3_aside] at hq
  refine And.intro (And.left h) ?_
  have h := And.right h
  refine ae ?_
  have h := h _ rfl
  refine And.intro (And.left h) ?_
  have h := And.right h
  refine And.intro (fun c1 => ?_) (fun c1 => ?_)
  · have h := And.left h c1
    rw [if_pos c1] at hq
    refine And.intro (And.left h) ?_
    have h := And.right h
    refine ae ?_
    have h := h _ rfl
    refine And.intro (And.left h) ?_
    have h := And.right h
    have q9 := hq _ rfl
    exact q9 h
  · have h := And.right h c1
    rw [if_neg c1] at hq
    refine And.intro (And.left h) ?_
    have h := And.right h
    refine ae ?_
    have h := h _ rfl
    refine And.intro (And.left h) ?_
    have h := And.right h
    refine ae ?_
    have h := h _ rfl
    have q9 := hq _ rfl
    exact q9 h
theorem du_X3_aside {P Q : Int32 -> Prop} {p0 p1 : Int32} {uU mX : Nat -> Int32} (h : wp_X3_aside P p0 p1 uU mX) (hq : P (F_X3_aside p0 p1 uU mX) -> Q (F_X3_aside p0 p1 uU mX)) : wp_X3_aside Q p0 p1 uU mX := dt_X3_aside h (fun o eo => by rw [eo]; exact hq)
noncomputable def F_X3_above (p0 p1 : Int32) (gF oE : Nat -> Int32) : Int32 := if (gF p0.toNatClampNeg) <= (oE p1.toNatClampNeg) then 0 else ((gF p0.toNatClampNeg) - (oE p1.toNatClampNeg))
set_option maxHeartbeats 200000 in
set_option maxRecDepth 10000 in
theorem dt_X3_above {P Q : Int32 -> Prop} {p0 p1 : Int32} {gF oE : Nat -> Int32} (h : wp_X3_above P p0 p1 gF oE) (hq : ∀ o : Int32, o = F_X3_above p0 p1 gF oE -> P o -> Q o) : wp_X3_above Q p0 p1 gF oE := by
  rw [F_X3_above] at hq
  refine And.intro (And.left h) ?_
  have h := And.right h
  refine ae ?_
  have h := h _ rfl
  refine And.intro (And.left h) ?_
  have h := And.right h
  refine And.intro (fun c1 => ?_) (fun c1 => ?_)
  · have h := And.left h c1
    rw [if_pos c1] at hq
    have q9 := hq _ rfl
    exact q9 h
  · have h := And.right h c1
    rw [if_neg c1] at hq
    refine And.intro (And.left h) ?_
    have h := And.right h
    refine ae ?_
    have h := h _ rfl
    refine And.intro (And.left h) ?_
    have h := And.right h
    refine ae ?_
    have h := h _ rfl
    have q9 := hq _ rfl
    exact q9 h
theorem du_X3_above {P Q : Int32 -> Prop} {p0 p1 : Int32} {gF oE : Nat -> Int32} (h : wp_X3_above P p0 p1 gF oE) (hq : P (F_X3_above p0 p1 gF oE) -> Q (F_X3_above p0 p1 gF oE)) : wp_X3_above Q p0 p1 gF oE := dt_X3_above h (fun o eo => by rw [eo]; exact hq)
noncomputable def F_X3_isWithin (p0 p1 p2 : Int32) (uU gF mX oE : Nat -> Int32) : Int32 := if (p2 * p2) < (((F_X3_aside p0 p1 uU mX) * (F_X3_aside p0 p1 uU mX)) + ((F_X3_above p0 p1 gF oE) * (F_X3_above p0 p1 gF oE))) then 0 else 1
set_option maxHeartbeats 200000 in
set_option maxRecDepth 10000 in
theorem dt_X3_isWithin {P Q : Int32 -> Prop} {p0 p1 p2 : Int32} {uU gF mX oE : Nat -> Int32} (h : bBv P p0 p1 p2 uU gF mX oE) (hq : ∀ o : Int32, o = F_X3_isWithin p0 p1 p2 uU gF mX oE -> P o -> Q o) : bBv Q p0 p1 p2 uU gF mX oE := by
  rw [F_X3_isWithin] at hq
  refine du_X3_aside h ?_
  intro h
  refine du_X3_above h ?_
  intro h
  refine ae ?_
  have h := h _ rfl
  refine ae ?_
  have h := h _ rfl
  refine And.intro (fun c1 => ?_) (fun c1 => ?_)
  · have h := And.left h c1
    rw [if_pos c1] at hq
    have q9 := hq _ rfl
    exact q9 h
  · have h := And.right h c1
    rw [if_neg c1] at hq
    have q9 := hq _ rfl
    exact q9 h
theorem du_X3_isWithin {P Q : Int32 -> Prop} {p0 p1 p2 : Int32} {uU gF mX oE : Nat -> Int32} (h : bBv P p0 p1 p2 uU gF mX oE) (hq : P (F_X3_isWithin p0 p1 p2 uU gF mX oE) -> Q (F_X3_isWithin p0 p1 p2 uU gF mX oE)) : bBv Q p0 p1 p2 uU gF mX oE := dt_X3_isWithin h (fun o eo => by rw [eo]; exact hq)
noncomputable def fs_X3_leanNeeded_2 {R : Type} (po : Int32 -> R) (uU gF mX oE dY : Nat -> Int32) (nx : Int32 -> Int32 -> Int32 -> R) (x1 x2 x3 : Int32) : R := if 30 < x3 then (po (-2)) else (if (F_X3_isWithin x1 x2 ((dY (0 : Int32).toNatClampNeg) + x3) uU gF mX oE) = 0 then (nx x1 x2 (x3 + 1)) else (po x3))
set_option maxHeartbeats 200000 in
set_option maxRecDepth 10000 in
theorem dl_X3_leanNeeded_2 {P Q : Int32 -> Prop} {uU gF mX oE dY : Nat -> Int32} {R : Type} {po : Int32 -> R} {d : Int32 -> Int32 -> Int32 -> R} : ∀ (n m : Nat) (x1 x2 x3 : Int32), 0 <= Int32.toInt x3 /\ Int32.toInt x3 <= 31 -> 31 - Int32.toInt x3 < (m : Int) -> wb_X3_leanNeeded_2 P uU gF mX oE dY n x1 x2 x3 -> (∀ (b0 : Int32), po b0 = flp (fs_X3_leanNeeded_2 po uU gF mX oE dY) d m x1 x2 x3 -> P b0 -> Q b0) -> wb_X3_leanNeeded_2 Q uU gF mX oE dY n x1 x2 x3 := by
  have l1 : Int32.toInt (1 : Int32) = 1 := by decide
  have l30 : Int32.toInt (30 : Int32) = 30 := by decide
  intro n
  induction n with
  | zero => intro m x1 x2 x3 hv hm h hq; exact False.elim h
  | succ n ih =>
    intro m x1 x2 x3 hv hm h hq
    cases m with
    | zero => exfalso; omega
    | succ m =>
      rw [flp_s, fs_X3_leanNeeded_2] at hq
      have h : ws_X3_leanNeeded_2 P (wb_X3_leanNeeded_2 P uU gF mX oE dY n) uU gF mX oE dY x1 x2 x3 := h
      show ws_X3_leanNeeded_2 Q (wb_X3_leanNeeded_2 Q uU gF mX oE dY n) uU gF mX oE dY x1 x2 x3
      unfold ws_X3_leanNeeded_2 at h ⊢
      refine And.intro (fun c1 => ?_) (fun c1 => ?_)
      · have h := And.left h c1
        rw [if_pos c1] at hq
        have dc1 := (aAd _ _).mp c1
        exact hq _ rfl h
      · have h := And.right h c1
        rw [if_neg c1] at hq
        have dc1 := mt (aAd _ _).mpr c1
        refine ae ?_
        have h := h _ rfl
        refine ae ?_
        have h := h _ rfl
        refine du_X3_isWithin h ?_
        intro h
        refine And.intro (fun c2 => ?_) (fun c2 => ?_)
        · have h := And.left h c2
          rw [if_pos c2] at hq
          have dc2 := (zJ _ _).mp c2
          refine ae ?_
          have h := h _ rfl
          have f9 := aAD x3 1 (by omega)
          exact ih m _ _ _ (by omega) (by omega) h hq
        · have h := And.right h c2
          rw [if_neg c2] at hq
          have dc2 := mt (zJ _ _).mpr c2
          exact hq _ rfl h
noncomputable def bB5 (p0 p1 : Int32) (uU gF mX oE dY : Nat -> Int32) : Int32 := flp (fs_X3_leanNeeded_2 (fun o0 => o0) uU gF mX oE dY) (fun _ _ _ => 0) 32 p0 p1 0
set_option maxHeartbeats 200000 in
set_option maxRecDepth 10000 in
theorem dt_X3_leanNeeded {P Q : Int32 -> Prop} {p0 p1 : Int32} {uU gF mX oE dY : Nat -> Int32} (h : bCY P p0 p1 uU gF mX oE dY) (hq : ∀ o : Int32, o = bB5 p0 p1 uU gF mX oE dY -> P o -> Q o) : bCY Q p0 p1 uU gF mX oE dY := by
  rw [bB5] at hq
  obtain ⟨n1, h⟩ := h
  exact ⟨n1, dl_X3_leanNeeded_2 n1 32 _ _ _ (by decide) (by decide) h (fun b0 e9 h9 => hq b0 e9 h9)⟩
theorem du_X3_leanNeeded {P Q : Int32 -> Prop} {p0 p1 : Int32} {uU gF mX oE dY : Nat -> Int32} (h : bCY P p0 p1 uU gF mX oE dY) (hq : P (bB5 p0 p1 uU gF mX oE dY) -> Q (bB5 p0 p1 uU gF mX oE dY)) : bCY Q p0 p1 uU gF mX oE dY := dt_X3_leanNeeded h (fun o eo => by rw [eo]; exact hq)
noncomputable def F_X9_leaned (p0 p1 dN bD : Int32) (uU gF mX oE dY : Nat -> Int32) : Int32 := if (F_X3_hasFruit p0 dN) = 0 then (-1) else (if (aVU p1 bD) = 0 then (-1) else (bB5 p0 p1 uU gF mX oE dY))
set_option maxHeartbeats 200000 in
set_option maxRecDepth 10000 in
theorem dt_X9_leaned {P Q : Int32 -> Prop} {p0 p1 dN bD : Int32} {uU gF mX oE dY : Nat -> Int32} (h : wp_X9_leaned P p0 p1 dN bD uU gF mX oE dY) (hq : ∀ o : Int32, o = F_X9_leaned p0 p1 dN bD uU gF mX oE dY -> P o -> Q o) : wp_X9_leaned Q p0 p1 dN bD uU gF mX oE dY := by
  rw [F_X9_leaned] at hq
  refine du_X3_hasFruit h ?_
  intro h
  refine And.intro (fun c1 => ?_) (fun c1 => ?_)
  · have h := And.left h c1
    rw [if_pos c1] at hq
    have q9 := hq _ rfl
    exact q9 h
  · have h := And.right h c1
    rw [if_neg c1] at hq
    refine du_X3_hasStanding h ?_
    intro h
    refine And.intro (fun c2 => ?_) (fun c2 => ?_)
    · have h := And.left h c2
      rw [if_neg c2] at hq
      refine du_X3_leanNeeded h ?_
      intro h
      have q9 := hq _ rfl
      exact q9 h
    · have h := And.right h c2
      rw [if_pos c2] at hq
      have q9 := hq _ rfl
      exact q9 h
theorem du_X9_leaned {P Q : Int32 -> Prop} {p0 p1 dN bD : Int32} {uU gF mX oE dY : Nat -> Int32} (h : wp_X9_leaned P p0 p1 dN bD uU gF mX oE dY) (hq : P (F_X9_leaned p0 p1 dN bD uU gF mX oE dY) -> Q (F_X9_leaned p0 p1 dN bD uU gF mX oE dY)) : wp_X9_leaned Q p0 p1 dN bD uU gF mX oE dY := dt_X9_leaned h (fun o eo => by rw [eo]; exact hq)
theorem dw_X9_leaned {Q : Int32 -> Prop} {p0 p1 dN bD : Int32} {uU gF mX oE dY : Nat -> Int32} (h : wp_X9_leaned (fun o0 => o0 = F_X9_leaned p0 p1 dN bD uU gF mX oE dY -> Q o0) p0 p1 dN bD uU gF mX oE dY) : wp_X9_leaned Q p0 p1 dN bD uU gF mX oE dY := dt_X9_leaned h (fun o eo hp => hp eo)
noncomputable def F_X10_isFruit (p0 bT : Int32) : Int32 := (aUe p0 0 (bT - 1))
set_option maxHeartbeats 200000 in
set_option maxRecDepth 10000 in
theorem dt_X10_isFruit {P Q : Int32 -> Prop} {p0 bT : Int32} (h : aU8 P p0 bT) (hq : ∀ o : Int32, o = F_X10_isFruit p0 bT -> P o -> Q o) : aU8 Q p0 bT := by
  rw [F_X10_isFruit] at hq
  refine ae ?_
  have h := h _ rfl
  refine du_X10_in h ?_
  intro h
  refine And.intro (And.left h) ?_
  have h := And.right h
  have q9 := hq _ rfl
  exact q9 h
theorem du_X10_isFruit {P Q : Int32 -> Prop} {p0 bT : Int32} (h : aU8 P p0 bT) (hq : P (F_X10_isFruit p0 bT) -> Q (F_X10_isFruit p0 bT)) : aU8 Q p0 bT := dt_X10_isFruit h (fun o eo => by rw [eo]; exact hq)
theorem dw_X10_isFruit {Q : Int32 -> Prop} {p0 bT : Int32} (h : aU8 (fun o0 => o0 = F_X10_isFruit p0 bT -> Q o0) p0 bT) : aU8 Q p0 bT := dt_X10_isFruit h (fun o eo hp => hp eo)
noncomputable def F_X10_far (p0 p1 : Int32) (m_x nG : Nat -> Int32) : Int32 := (if 0 <= ((m_x p0.toNatClampNeg) - (nG p1.toNatClampNeg)) then ((m_x p0.toNatClampNeg) - (nG p1.toNatClampNeg)) else 0 - ((m_x p0.toNatClampNeg) - (nG p1.toNatClampNeg)))
set_option maxHeartbeats 200000 in
set_option maxRecDepth 10000 in
theorem dt_X10_far {P Q : Int32 -> Prop} {p0 p1 : Int32} {m_x nG : Nat -> Int32} (h : wp_X10_far P p0 p1 m_x nG) (hq : ∀ o : Int32, o = F_X10_far p0 p1 m_x nG -> P o -> Q o) : wp_X10_far Q p0 p1 m_x nG := by
  rw [F_X10_far] at hq
  refine And.intro (And.left h) ?_
  have h := And.right h
  refine ae ?_
  have h := h _ rfl
  refine And.intro (And.left h) ?_
  have h := And.right h
  refine ae ?_
  have h := h _ rfl
  refine ae ?_
  have h := h _ rfl
  have q9 := hq _ rfl
  exact q9 h
theorem du_X10_far {P Q : Int32 -> Prop} {p0 p1 : Int32} {m_x nG : Nat -> Int32} (h : wp_X10_far P p0 p1 m_x nG) (hq : P (F_X10_far p0 p1 m_x nG) -> Q (F_X10_far p0 p1 m_x nG)) : wp_X10_far Q p0 p1 m_x nG := dt_X10_far h (fun o eo => by rw [eo]; exact hq)
theorem dw_X10_far {Q : Int32 -> Prop} {p0 p1 : Int32} {m_x nG : Nat -> Int32} (h : wp_X10_far (fun o0 => o0 = F_X10_far p0 p1 m_x nG -> Q o0) p0 p1 m_x nG) : wp_X10_far Q p0 p1 m_x nG := dt_X10_far h (fun o eo hp => hp eo)
noncomputable def F_X10_above (p0 p1 : Int32) (gR oO : Nat -> Int32) : Int32 := (if 0 < ((gR p0.toNatClampNeg) - (oO p1.toNatClampNeg)) then ((gR p0.toNatClampNeg) - (oO p1.toNatClampNeg)) else 0)
set_option maxHeartbeats 200000 in
set_option maxRecDepth 10000 in
theorem dt_X10_above {P Q : Int32 -> Prop} {p0 p1 : Int32} {gR oO : Nat -> Int32} (h : wp_X10_above P p0 p1 gR oO) (hq : ∀ o : Int32, o = F_X10_above p0 p1 gR oO -> P o -> Q o) : wp_X10_above Q p0 p1 gR oO := by
  rw [F_X10_above] at hq
  refine And.intro (And.left h) ?_
  have h := And.right h
  refine ae ?_
  have h := h _ rfl
  refine And.intro (And.left h) ?_
  have h := And.right h
  refine ae ?_
  have h := h _ rfl
  refine ae ?_
  have h := h _ rfl
  have q9 := hq _ rfl
  exact q9 h
theorem du_X10_above {P Q : Int32 -> Prop} {p0 p1 : Int32} {gR oO : Nat -> Int32} (h : wp_X10_above P p0 p1 gR oO) (hq : P (F_X10_above p0 p1 gR oO) -> Q (F_X10_above p0 p1 gR oO)) : wp_X10_above Q p0 p1 gR oO := dt_X10_above h (fun o eo => by rw [eo]; exact hq)
theorem dw_X10_above {Q : Int32 -> Prop} {p0 p1 : Int32} {gR oO : Nat -> Int32} (h : wp_X10_above (fun o0 => o0 = F_X10_above p0 p1 gR oO -> Q o0) p0 p1 gR oO) : wp_X10_above Q p0 p1 gR oO := dt_X10_above h (fun o eo hp => hp eo)
noncomputable def bAx (p0 p1 p2 : Int32) (m_x gR nG oO : Nat -> Int32) : Int32 := if (p2 * p2) < (((F_X10_far p0 p1 m_x nG) * (F_X10_far p0 p1 m_x nG)) + ((F_X10_above p0 p1 gR oO) * (F_X10_above p0 p1 gR oO))) then 0 else 1
set_option maxHeartbeats 200000 in
set_option maxRecDepth 10000 in
theorem dt_X10_isWithin {P Q : Int32 -> Prop} {p0 p1 p2 : Int32} {m_x gR nG oO : Nat -> Int32} (h : aUZ P p0 p1 p2 m_x gR nG oO) (hq : ∀ o : Int32, o = bAx p0 p1 p2 m_x gR nG oO -> P o -> Q o) : aUZ Q p0 p1 p2 m_x gR nG oO := by
  rw [bAx] at hq
  refine du_X10_far h ?_
  intro h
  refine du_X10_far h ?_
  intro h
  refine ae ?_
  have h := h _ rfl
  refine du_X10_above h ?_
  intro h
  refine du_X10_above h ?_
  intro h
  refine ae ?_
  have h := h _ rfl
  refine And.intro (fun c1 => ?_) (fun c1 => ?_)
  · have h := And.left h c1
    rw [if_pos c1] at hq
    have q9 := hq _ rfl
    exact q9 h
  · have h := And.right h c1
    rw [if_neg c1] at hq
    have q9 := hq _ rfl
    exact q9 h
theorem du_X10_isWithin {P Q : Int32 -> Prop} {p0 p1 p2 : Int32} {m_x gR nG oO : Nat -> Int32} (h : aUZ P p0 p1 p2 m_x gR nG oO) (hq : P (bAx p0 p1 p2 m_x gR nG oO) -> Q (bAx p0 p1 p2 m_x gR nG oO)) : aUZ Q p0 p1 p2 m_x gR nG oO := dt_X10_isWithin h (fun o eo => by rw [eo]; exact hq)
theorem dw_X10_isWithin {Q : Int32 -> Prop} {p0 p1 p2 : Int32} {m_x gR nG oO : Nat -> Int32} (h : aUZ (fun o0 => o0 = bAx p0 p1 p2 m_x gR nG oO -> Q o0) p0 p1 p2 m_x gR nG oO) : aUZ Q p0 p1 p2 m_x gR nG oO := dt_X10_isWithin h (fun o eo hp => hp eo)
noncomputable def fs_X10_leanOf_2 {R : Type} (po : Int32 -> R) (m_x gR nG oO pJ : Nat -> Int32) (nx : Int32 -> Int32 -> Int32 -> R) (x1 x2 x3 : Int32) : R := if 30 < x3 then (po x3) else (if (bAx x1 x2 ((pJ (0 : Int32).toNatClampNeg) + x3) m_x gR nG oO) = 0 then (nx x1 x2 (x3 + 1)) else (po x3))
set_option maxHeartbeats 200000 in
set_option maxRecDepth 10000 in
theorem dl_X10_leanOf_2 {P Q : Int32 -> Prop} {m_x gR nG oO pJ : Nat -> Int32} {R : Type} {po : Int32 -> R} {d : Int32 -> Int32 -> Int32 -> R} : ∀ (n m : Nat) (x1 x2 x3 : Int32), 0 <= Int32.toInt x3 /\ Int32.toInt x3 <= 31 -> 31 - Int32.toInt x3 < (m : Int) -> wb_X10_leanOf_2 P m_x gR nG oO pJ n x1 x2 x3 -> (∀ (b0 : Int32), po b0 = flp (fs_X10_leanOf_2 po m_x gR nG oO pJ) d m x1 x2 x3 -> P b0 -> Q b0) -> wb_X10_leanOf_2 Q m_x gR nG oO pJ n x1 x2 x3 := by
  have l1 : Int32.toInt (1 : Int32) = 1 := by decide
  have l30 : Int32.toInt (30 : Int32) = 30 := by decide
  intro n
  induction n with
  | zero => intro m x1 x2 x3 hv hm h hq; exact False.elim h
  | succ n ih =>
    intro m x1 x2 x3 hv hm h hq
    cases m with
    | zero => exfalso; omega
    | succ m =>
      rw [flp_s, fs_X10_leanOf_2] at hq
      have h : ws_X10_leanOf_2 P (wb_X10_leanOf_2 P m_x gR nG oO pJ n) m_x gR nG oO pJ x1 x2 x3 := h
      show ws_X10_leanOf_2 Q (wb_X10_leanOf_2 Q m_x gR nG oO pJ n) m_x gR nG oO pJ x1 x2 x3
      unfold ws_X10_leanOf_2 at h ⊢
      refine And.intro (fun c1 => ?_) (fun c1 => ?_)
      · have h := And.left h c1
        rw [if_pos c1] at hq
        have dc1 := (aAd _ _).mp c1
        exact hq _ rfl h
      · have h := And.right h c1
        rw [if_neg c1] at hq
        have dc1 := mt (aAd _ _).mpr c1
        refine ae ?_
        have h := h _ rfl
        refine ae ?_
        have h := h _ rfl
        refine du_X10_isWithin h ?_
        intro h
        refine And.intro (fun c2 => ?_) (fun c2 => ?_)
        · have h := And.left h c2
          rw [if_neg c2] at hq
          have dc2 := mt (zJ _ _).mpr c2
          exact hq _ rfl h
        · have h := And.right h c2
          rw [if_pos c2] at hq
          have dc2 := (zJ _ _).mp c2
          refine ae ?_
          have h := h _ rfl
          have f9 := aAD x3 1 (by omega)
          exact ih m _ _ _ (by omega) (by omega) h hq
noncomputable def aM3 (p0 p1 : Int32) (m_x gR nG oO pJ : Nat -> Int32) : Int32 := flp (fs_X10_leanOf_2 (fun o0 => o0) m_x gR nG oO pJ) (fun _ _ _ => 0) 32 p0 p1 0
set_option maxHeartbeats 200000 in
set_option maxRecDepth 10000 in
theorem dt_X10_leanOf {P Q : Int32 -> Prop} {p0 p1 : Int32} {m_x gR nG oO pJ : Nat -> Int32} (h : aUA P p0 p1 m_x gR nG oO pJ) (hq : ∀ o : Int32, o = aM3 p0 p1 m_x gR nG oO pJ -> P o -> Q o) : aUA Q p0 p1 m_x gR nG oO pJ := by
  rw [aM3] at hq
  obtain ⟨n1, h⟩ := h
  exact ⟨n1, dl_X10_leanOf_2 n1 32 _ _ _ (by decide) (by decide) h (fun b0 e9 h9 => hq b0 e9 h9)⟩
theorem du_X10_leanOf {P Q : Int32 -> Prop} {p0 p1 : Int32} {m_x gR nG oO pJ : Nat -> Int32} (h : aUA P p0 p1 m_x gR nG oO pJ) (hq : P (aM3 p0 p1 m_x gR nG oO pJ) -> Q (aM3 p0 p1 m_x gR nG oO pJ)) : aUA Q p0 p1 m_x gR nG oO pJ := dt_X10_leanOf h (fun o eo => by rw [eo]; exact hq)
theorem dw_X10_leanOf {Q : Int32 -> Prop} {p0 p1 : Int32} {m_x gR nG oO pJ : Nat -> Int32} (h : aUA (fun o0 => o0 = aM3 p0 p1 m_x gR nG oO pJ -> Q o0) p0 p1 m_x gR nG oO pJ) : aUA Q p0 p1 m_x gR nG oO pJ := dt_X10_leanOf h (fun o eo hp => hp eo)
noncomputable def F_X10_leaned (p0 p1 bT aG bY : Int32) (m_x gR nG oO pJ : Nat -> Int32) : Int32 × Int32 := if (F_X10_isFruit p0 bT) = 0 then ((-1), 0) else (if (aUD p1 aG) = 0 then ((-1), 0) else (if (aM3 p0 p1 m_x gR nG oO pJ) <= 30 then ((aM3 p0 p1 m_x gR nG oO pJ), 0) else ((-2), 0)))
set_option maxHeartbeats 200000 in
set_option maxRecDepth 10000 in
theorem dt_X10_leaned {P Q : Int32 -> Int32 -> Prop} {p0 p1 bT aG bY : Int32} {m_x gR nG oO pJ : Nat -> Int32} (h : wp_X10_leaned P p0 p1 bT aG bY m_x gR nG oO pJ) (hq : ∀ o : Int32 × Int32, o = F_X10_leaned p0 p1 bT aG bY m_x gR nG oO pJ -> P o.1 o.2 -> Q o.1 o.2) : wp_X10_leaned Q p0 p1 bT aG bY m_x gR nG oO pJ := by
  rw [F_X10_leaned] at hq
  refine du_X10_isFruit h ?_
  intro h
  refine And.intro (fun c1 => ?_) (fun c1 => ?_)
  · have h := And.left h c1
    rw [if_pos c1] at hq
    have q9 := hq _ rfl
    dsimp only at q9
    exact q9 h
  · have h := And.right h c1
    rw [if_neg c1] at hq
    refine du_X10_isStanding h ?_
    intro h
    refine And.intro (fun c2 => ?_) (fun c2 => ?_)
    · have h := And.left h c2
      rw [if_neg c2] at hq
      refine du_X10_leanOf h ?_
      intro h
      refine And.intro (fun c3 => ?_) (fun c3 => ?_)
      · have h := And.left h c3
        rw [if_pos c3] at hq
        have q9 := hq _ rfl
        dsimp only at q9
        exact q9 h
      · have h := And.right h c3
        rw [if_neg c3] at hq
        have q9 := hq _ rfl
        dsimp only at q9
        exact q9 h
    · have h := And.right h c2
      rw [if_pos c2] at hq
      have q9 := hq _ rfl
      dsimp only at q9
      exact q9 h
theorem du_X10_leaned {P Q : Int32 -> Int32 -> Prop} {p0 p1 bT aG bY : Int32} {m_x gR nG oO pJ : Nat -> Int32} (h : wp_X10_leaned P p0 p1 bT aG bY m_x gR nG oO pJ) (hq : P (F_X10_leaned p0 p1 bT aG bY m_x gR nG oO pJ).1 (F_X10_leaned p0 p1 bT aG bY m_x gR nG oO pJ).2 -> Q (F_X10_leaned p0 p1 bT aG bY m_x gR nG oO pJ).1 (F_X10_leaned p0 p1 bT aG bY m_x gR nG oO pJ).2) : wp_X10_leaned Q p0 p1 bT aG bY m_x gR nG oO pJ := dt_X10_leaned h (fun o eo => by rw [eo]; exact hq)
theorem dw_X10_leaned {Q : Int32 -> Int32 -> Prop} {p0 p1 bT aG bY : Int32} {m_x gR nG oO pJ : Nat -> Int32} (h : wp_X10_leaned (fun o0 o1 => (o0, o1) = F_X10_leaned p0 p1 bT aG bY m_x gR nG oO pJ -> Q o0 o1) p0 p1 bT aG bY m_x gR nG oO pJ) : wp_X10_leaned Q p0 p1 bT aG bY m_x gR nG oO pJ := dt_X10_leaned h (fun o eo hp => hp eo)
noncomputable def F_X6_clear (qB : Int32) : Int32 := 0
set_option maxHeartbeats 200000 in
set_option maxRecDepth 10000 in
theorem dt_X6_clear {P Q : Int32 -> Prop} {qB : Int32} (h : wp_X6_clear P qB) (hq : ∀ o : Int32, o = F_X6_clear qB -> P o -> Q o) : wp_X6_clear Q qB := by
  rw [F_X6_clear] at hq
  have q9 := hq _ rfl
  exact q9 h
theorem du_X6_clear {P Q : Int32 -> Prop} {qB : Int32} (h : wp_X6_clear P qB) (hq : P (F_X6_clear qB) -> Q (F_X6_clear qB)) : wp_X6_clear Q qB := dt_X6_clear h (fun o eo => by rw [eo]; exact hq)
noncomputable def F_X6_add (p0 qB : Int32) (jK : Nat -> Int32) : Int32 × (Nat -> Int32) := if 16 <= qB then (qB, jK) else ((qB + 1), (upd jK qB.toNatClampNeg p0))
set_option maxHeartbeats 200000 in
set_option maxRecDepth 10000 in
theorem dt_X6_add {P Q : Int32 -> (Nat -> Int32) -> Prop} {p0 qB : Int32} {jK : Nat -> Int32} (h : wp_X6_add P p0 qB jK) (hq : ∀ o : Int32 × (Nat -> Int32), o = F_X6_add p0 qB jK -> P o.1 o.2 -> Q o.1 o.2) : wp_X6_add Q p0 qB jK := by
  rw [F_X6_add] at hq
  refine And.intro (fun c1 => ?_) (fun c1 => ?_)
  · have h := And.left h c1
    rw [if_pos c1] at hq
    have q9 := hq _ rfl
    dsimp only at q9
    exact q9 h
  · have h := And.right h c1
    rw [if_neg c1] at hq
    refine And.intro (And.left h) ?_
    have h := And.right h
    refine ae ?_
    have h := h _ rfl
    have q9 := hq _ rfl
    dsimp only at q9
    exact q9 h
theorem du_X6_add {P Q : Int32 -> (Nat -> Int32) -> Prop} {p0 qB : Int32} {jK : Nat -> Int32} (h : wp_X6_add P p0 qB jK) (hq : P (F_X6_add p0 qB jK).1 (F_X6_add p0 qB jK).2 -> Q (F_X6_add p0 qB jK).1 (F_X6_add p0 qB jK).2) : wp_X6_add Q p0 qB jK := dt_X6_add h (fun o eo => by rw [eo]; exact hq)
noncomputable def F_X9_tell (p0 qB : Int32) (jK : Nat -> Int32) : Int32 × (Nat -> Int32) := ((F_X6_add p0 (F_X6_clear qB) jK).1, (F_X6_add p0 (F_X6_clear qB) jK).2)
set_option maxHeartbeats 200000 in
set_option maxRecDepth 10000 in
theorem dt_X9_tell {P Q : Int32 -> (Nat -> Int32) -> Prop} {p0 qB : Int32} {jK : Nat -> Int32} (h : aYk P p0 qB jK) (hq : ∀ o : Int32 × (Nat -> Int32), o = F_X9_tell p0 qB jK -> P o.1 o.2 -> Q o.1 o.2) : aYk Q p0 qB jK := by
  rw [F_X9_tell] at hq
  refine du_X6_clear h ?_
  intro h
  refine du_X6_add h ?_
  intro h
  have q9 := hq _ rfl
  dsimp only at q9
  exact q9 h
theorem du_X9_tell {P Q : Int32 -> (Nat -> Int32) -> Prop} {p0 qB : Int32} {jK : Nat -> Int32} (h : aYk P p0 qB jK) (hq : P (F_X9_tell p0 qB jK).1 (F_X9_tell p0 qB jK).2 -> Q (F_X9_tell p0 qB jK).1 (F_X9_tell p0 qB jK).2) : aYk Q p0 qB jK := dt_X9_tell h (fun o eo => by rw [eo]; exact hq)
theorem dw_X9_tell {Q : Int32 -> (Nat -> Int32) -> Prop} {p0 qB : Int32} {jK : Nat -> Int32} (h : aYk (fun o0 o1 => (o0, o1) = F_X9_tell p0 qB jK -> Q o0 o1) p0 qB jK) : aYk Q p0 qB jK := dt_X9_tell h (fun o eo hp => hp eo)
noncomputable def j_X9_nearest_63 {R : Type} (k22 : Int32 -> Int32 -> Int32 -> Int32 -> Int32 -> (Nat -> Int32) -> R) (dN bD : Int32) (uU gF mX oE dY : Nat -> Int32) (x1 x2 x3 x4 qB : Int32) (jK : Nat -> Int32) : R := k22 x1 x2 x3 (x4 + 1) qB jK
noncomputable def aZO (dN bD : Int32) (uU gF mX oE dY : Nat -> Int32) (x1 qB : Int32) (jK : Nat -> Int32) (c : Int32) (s : Int32 × Int32) : Int32 × Int32 := if (bB5 x1 c uU gF mX oE dY) < 0 then (j_X9_nearest_63 (fun q0 q1 q2 q3 q4 q5 => (q1, q2)) dN bD uU gF mX oE dY x1 s.1 s.2 c qB jK) else (if s.2 <= (bB5 x1 c uU gF mX oE dY) then (j_X9_nearest_63 (fun q0 q1 q2 q3 q4 q5 => (q1, q2)) dN bD uU gF mX oE dY x1 s.1 s.2 c qB jK) else (j_X9_nearest_63 (fun q0 q1 q2 q3 q4 q5 => (q1, q2)) dN bD uU gF mX oE dY x1 c (bB5 x1 c uU gF mX oE dY) c qB jK))
noncomputable def ex_X9_nearest_22 {R : Type} (po : Int32 -> Int32 -> (Nat -> Int32) -> R) (dN bD : Int32) (uU gF mX oE dY : Nat -> Int32) (x1 qB : Int32) (jK : Nat -> Int32) (c : Int32) (s : Int32 × Int32) : R := if s.1 < 0 then (po s.1 qB jK) else (po s.1 ((F_X9_tell s.2 qB jK).1) ((F_X9_tell s.2 qB jK).2))
set_option maxHeartbeats 200000 in
set_option maxRecDepth 10000 in
theorem dl_X9_nearest_22 {P Q : Int32 -> Int32 -> (Nat -> Int32) -> Prop} {dN bD : Int32} {uU gF mX oE dY : Nat -> Int32} {x1 qB : Int32} {jK : Nat -> Int32} {a : Int32 × Int32} {i : Nat} (hi0 : i < 2147483648) (hE : ∀ (c : Int32) (s : Int32 × Int32), c = nI (i + (Int32.toInt bD - ((i : Nat) : Int)).toNat) -> s = itr (aZO dN bD uU gF mX oE dY x1 qB jK) a i (Int32.toInt bD - ((i : Nat) : Int)).toNat -> ((s.1 < 0 -> P s.1 qB jK) /\ (¬ s.1 < 0 -> aYk (fun aUU aSJ => P s.1 aUU aSJ) s.2 qB jK)) -> ((s.1 < 0 -> Q s.1 qB jK) /\ (¬ s.1 < 0 -> aYk (fun aUU aSJ => Q s.1 aUU aSJ) s.2 qB jK))) : ∀ (n k : Nat) (c : Int32), c = nI (i + k) -> k <= (Int32.toInt bD - ((i : Nat) : Int)).toNat -> wb_X9_nearest_22 P dN bD uU gF mX oE dY n x1 (itr (aZO dN bD uU gF mX oE dY x1 qB jK) a i k).1 (itr (aZO dN bD uU gF mX oE dY x1 qB jK) a i k).2 c qB jK -> wb_X9_nearest_22 Q dN bD uU gF mX oE dY n x1 (itr (aZO dN bD uU gF mX oE dY x1 qB jK) a i k).1 (itr (aZO dN bD uU gF mX oE dY x1 qB jK) a i k).2 c qB jK := by
  intro n
  induction n with
  | zero => intro k c hc hk h; exact False.elim h
  | succ n ih =>
    intro k c hc hk h
    have hr := aAT bD
    have hi : Int32.toInt c = ((i + k : Nat) : Int) := by rw [hc]; exact nI_toInt (by omega)
    refine And.intro (fun t0 => ?_) (fun t0 => ?_)
    · have h := And.left h t0
      have t1 := (aAO _ _).mp t0
      have hk2 : k = (Int32.toInt bD - ((i : Nat) : Int)).toNat := by omega
      subst hk2
      exact hE _ _ hc rfl h
    · have h := And.right h t0
      have t1 := mt (aAO _ _).mpr t0
      have hs : ∀ o : Int32 × Int32, o = itr (aZO dN bD uU gF mX oE dY x1 qB jK) a i (k + 1) -> wb_X9_nearest_22 P dN bD uU gF mX oE dY n x1 o.1 o.2 (c + 1) qB jK -> wb_X9_nearest_22 Q dN bD uU gF mX oE dY n x1 o.1 o.2 (c + 1) qB jK := by
        intro o eo h9
        have q := ih (k + 1) (c + 1) (by rw [hc]; exact nI_1 _) (by omega)
        rw [<- eo] at q
        exact q h9
      rw [itr_s, <- hc, aZO] at hs
      refine du_X3_leanNeeded h ?_
      intro h
      refine And.intro (fun c1 => ?_) (fun c1 => ?_)
      · have h := And.left h c1
        rw [if_pos c1] at hs
        rw [j_X9_nearest_63] at hs
        unfold bCa at h ⊢
        refine ae ?_
        have h := h _ rfl
        have q9 := hs _ rfl
        dsimp only at q9
        exact q9 h
      · have h := And.right h c1
        rw [if_neg c1] at hs
        refine And.intro (fun c2 => ?_) (fun c2 => ?_)
        · have h := And.left h c2
          rw [if_pos c2] at hs
          rw [j_X9_nearest_63] at hs
          unfold bCa at h ⊢
          refine ae ?_
          have h := h _ rfl
          have q9 := hs _ rfl
          dsimp only at q9
          exact q9 h
        · have h := And.right h c2
          rw [if_neg c2] at hs
          rw [j_X9_nearest_63] at hs
          unfold bCa at h ⊢
          refine ae ?_
          have h := h _ rfl
          have q9 := hs _ rfl
          dsimp only at q9
          exact q9 h
noncomputable def F_X9_nearest (p0 dN bD : Int32) (uU gF mX oE dY : Nat -> Int32) (qB : Int32) (jK : Nat -> Int32) : Int32 × Int32 × (Nat -> Int32) := if (F_X3_hasFruit p0 dN) = 0 then ((-1), qB, jK) else (ex_X9_nearest_22 (fun o0 o1 o2 => (o0, o1, o2)) dN bD uU gF mX oE dY p0 qB jK (nI (0 + (Int32.toInt bD - ((0 : Nat) : Int)).toNat)) (itr (aZO dN bD uU gF mX oE dY p0 qB jK) ((-2), 31) 0 (Int32.toInt bD - ((0 : Nat) : Int)).toNat))
set_option maxHeartbeats 200000 in
set_option maxRecDepth 10000 in
theorem dt_X9_nearest {P Q : Int32 -> Int32 -> (Nat -> Int32) -> Prop} {p0 dN bD : Int32} {uU gF mX oE dY : Nat -> Int32} {qB : Int32} {jK : Nat -> Int32} (h : wp_X9_nearest P p0 dN bD uU gF mX oE dY qB jK) (hq : ∀ o : Int32 × Int32 × (Nat -> Int32), o = F_X9_nearest p0 dN bD uU gF mX oE dY qB jK -> P o.1 o.2.1 o.2.2 -> Q o.1 o.2.1 o.2.2) : wp_X9_nearest Q p0 dN bD uU gF mX oE dY qB jK := by
  rw [F_X9_nearest] at hq
  refine du_X3_hasFruit h ?_
  intro h
  refine And.intro (fun c1 => ?_) (fun c1 => ?_)
  · have h := And.left h c1
    rw [if_neg c1] at hq
    obtain ⟨n2, h⟩ := h
    refine ⟨n2, dl_X9_nearest_22 (a := ((-2), 31)) (i := 0) (by decide) ?_ n2 0 0 (by decide) (Nat.zero_le _) h⟩
    intro cc3 s4 ec5 es6 h
    rw [<- ec5, <- es6, ex_X9_nearest_22] at hq
    refine And.intro (fun c7 => ?_) (fun c7 => ?_)
    · have h := And.left h c7
      rw [if_pos c7] at hq
      have q9 := hq _ rfl
      dsimp only at q9
      exact q9 h
    · have h := And.right h c7
      rw [if_neg c7] at hq
      refine du_X9_tell h ?_
      intro h
      have q9 := hq _ rfl
      dsimp only at q9
      exact q9 h
  · have h := And.right h c1
    rw [if_pos c1] at hq
    have q9 := hq _ rfl
    dsimp only at q9
    exact q9 h
theorem du_X9_nearest {P Q : Int32 -> Int32 -> (Nat -> Int32) -> Prop} {p0 dN bD : Int32} {uU gF mX oE dY : Nat -> Int32} {qB : Int32} {jK : Nat -> Int32} (h : wp_X9_nearest P p0 dN bD uU gF mX oE dY qB jK) (hq : P (F_X9_nearest p0 dN bD uU gF mX oE dY qB jK).1 (F_X9_nearest p0 dN bD uU gF mX oE dY qB jK).2.1 (F_X9_nearest p0 dN bD uU gF mX oE dY qB jK).2.2 -> Q (F_X9_nearest p0 dN bD uU gF mX oE dY qB jK).1 (F_X9_nearest p0 dN bD uU gF mX oE dY qB jK).2.1 (F_X9_nearest p0 dN bD uU gF mX oE dY qB jK).2.2) : wp_X9_nearest Q p0 dN bD uU gF mX oE dY qB jK := dt_X9_nearest h (fun o eo => by rw [eo]; exact hq)
theorem dw_X9_nearest {Q : Int32 -> Int32 -> (Nat -> Int32) -> Prop} {p0 dN bD : Int32} {uU gF mX oE dY : Nat -> Int32} {qB : Int32} {jK : Nat -> Int32} (h : wp_X9_nearest (fun o0 o1 o2 => (o0, o1, o2) = F_X9_nearest p0 dN bD uU gF mX oE dY qB jK -> Q o0 o1 o2) p0 dN bD uU gF mX oE dY qB jK) : wp_X9_nearest Q p0 dN bD uU gF mX oE dY qB jK := dt_X9_nearest h (fun o eo hp => hp eo)
noncomputable def bBW (p0 bL : Int32) (sW : Nat -> Int32) : Int32 × (Nat -> Int32) := ((bL + 1), (upd sW bL.toNatClampNeg p0))
set_option maxHeartbeats 200000 in
set_option maxRecDepth 10000 in
theorem dt_X10_tell {P Q : Int32 -> (Nat -> Int32) -> Prop} {p0 bL : Int32} {sW : Nat -> Int32} (h : aDs P p0 bL sW) (hq : ∀ o : Int32 × (Nat -> Int32), o = bBW p0 bL sW -> P o.1 o.2 -> Q o.1 o.2) : aDs Q p0 bL sW := by
  rw [bBW] at hq
  refine And.intro (And.left h) ?_
  have h := And.right h
  refine ae ?_
  have h := h _ rfl
  have q9 := hq _ rfl
  dsimp only at q9
  exact q9 h
theorem du_X10_tell {P Q : Int32 -> (Nat -> Int32) -> Prop} {p0 bL : Int32} {sW : Nat -> Int32} (h : aDs P p0 bL sW) (hq : P (bBW p0 bL sW).1 (bBW p0 bL sW).2 -> Q (bBW p0 bL sW).1 (bBW p0 bL sW).2) : aDs Q p0 bL sW := dt_X10_tell h (fun o eo => by rw [eo]; exact hq)
theorem dw_X10_tell {Q : Int32 -> (Nat -> Int32) -> Prop} {p0 bL : Int32} {sW : Nat -> Int32} (h : aDs (fun o0 o1 => (o0, o1) = bBW p0 bL sW -> Q o0 o1) p0 bL sW) : aDs Q p0 bL sW := dt_X10_tell h (fun o eo hp => hp eo)
noncomputable def bCW {R : Type} (k20 : Int32 -> Int32 -> Int32 -> Int32 -> Int32 -> (Nat -> Int32) -> R) (bT aG : Int32) (m_x gR nG oO pJ : Nat -> Int32) (x1 x2 x3 bL bY : Int32) (sW : Nat -> Int32) : R := k20 x1 x2 (x3 + 1) bL bY sW
noncomputable def j_X10_nearest_58 {R : Type} (k20 : Int32 -> Int32 -> Int32 -> Int32 -> Int32 -> (Nat -> Int32) -> R) (bT aG : Int32) (m_x gR nG oO pJ : Nat -> Int32) (x1 x3 bL bY : Int32) (sW : Nat -> Int32) : R := bCW k20 bT aG m_x gR nG oO pJ x1 x3 x3 bL bY sW
noncomputable def bd_X10_nearest_20 (bT aG : Int32) (m_x gR nG oO pJ : Nat -> Int32) (x1 bL bY : Int32) (sW : Nat -> Int32) (c s : Int32) : Int32 := if 30 < (aM3 x1 c m_x gR nG oO pJ) then (bCW (fun q0 q1 q2 q3 q4 q5 => q1) bT aG m_x gR nG oO pJ x1 s c bL bY sW) else (if s < 0 then (j_X10_nearest_58 (fun q0 q1 q2 q3 q4 q5 => q1) bT aG m_x gR nG oO pJ x1 c bL bY sW) else (if (aM3 x1 s m_x gR nG oO pJ) <= (aM3 x1 c m_x gR nG oO pJ) then (bCW (fun q0 q1 q2 q3 q4 q5 => q1) bT aG m_x gR nG oO pJ x1 s c bL bY sW) else (j_X10_nearest_58 (fun q0 q1 q2 q3 q4 q5 => q1) bT aG m_x gR nG oO pJ x1 c bL bY sW)))
noncomputable def ex_X10_nearest_20 {R : Type} (po : Int32 -> Int32 -> Int32 -> (Nat -> Int32) -> R) (bT aG : Int32) (m_x gR nG oO pJ : Nat -> Int32) (x1 bL bY : Int32) (sW : Nat -> Int32) (c s : Int32) : R := if 0 <= s then (po s ((bBW (aM3 x1 s m_x gR nG oO pJ) 0 sW).1) bY ((bBW (aM3 x1 s m_x gR nG oO pJ) 0 sW).2)) else (po (-2) bL bY sW)
set_option maxHeartbeats 200000 in
set_option maxRecDepth 10000 in
theorem dl_X10_nearest_20 {P Q : Int32 -> Int32 -> Int32 -> (Nat -> Int32) -> Prop} {bT aG : Int32} {m_x gR nG oO pJ : Nat -> Int32} {x1 bL bY : Int32} {sW : Nat -> Int32} {a : Int32} {i : Nat} (hi0 : i < 2147483648) (hE : ∀ (c : Int32) (s : Int32), c = nI (i + (Int32.toInt aG - ((i : Nat) : Int)).toNat) -> s = itr (bd_X10_nearest_20 bT aG m_x gR nG oO pJ x1 bL bY sW) a i (Int32.toInt aG - ((i : Nat) : Int)).toNat -> ((0 <= s -> aUA (fun r_2 => aDs (fun aPZ m_row_4 => P s aPZ bY m_row_4) r_2 0 sW) x1 s m_x gR nG oO pJ) /\ (¬ 0 <= s -> P (-2) bL bY sW)) -> ((0 <= s -> aUA (fun r_2 => aDs (fun aPZ m_row_4 => Q s aPZ bY m_row_4) r_2 0 sW) x1 s m_x gR nG oO pJ) /\ (¬ 0 <= s -> Q (-2) bL bY sW))) : ∀ (n k : Nat) (c : Int32), c = nI (i + k) -> k <= (Int32.toInt aG - ((i : Nat) : Int)).toNat -> wb_X10_nearest_20 P bT aG m_x gR nG oO pJ n x1 (itr (bd_X10_nearest_20 bT aG m_x gR nG oO pJ x1 bL bY sW) a i k) c bL bY sW -> wb_X10_nearest_20 Q bT aG m_x gR nG oO pJ n x1 (itr (bd_X10_nearest_20 bT aG m_x gR nG oO pJ x1 bL bY sW) a i k) c bL bY sW := by
  intro n
  induction n with
  | zero => intro k c hc hk h; exact False.elim h
  | succ n ih =>
    intro k c hc hk h
    have hr := aAT aG
    have hi : Int32.toInt c = ((i + k : Nat) : Int) := by rw [hc]; exact nI_toInt (by omega)
    refine And.intro (fun t0 => ?_) (fun t0 => ?_)
    · have h := And.left h t0
      have t1 := (aAO _ _).mp t0
      have hk2 : k = (Int32.toInt aG - ((i : Nat) : Int)).toNat := by omega
      subst hk2
      exact hE _ _ hc rfl h
    · have h := And.right h t0
      have t1 := mt (aAO _ _).mpr t0
      have hs : ∀ o : Int32, o = itr (bd_X10_nearest_20 bT aG m_x gR nG oO pJ x1 bL bY sW) a i (k + 1) -> wb_X10_nearest_20 P bT aG m_x gR nG oO pJ n x1 o (c + 1) bL bY sW -> wb_X10_nearest_20 Q bT aG m_x gR nG oO pJ n x1 o (c + 1) bL bY sW := by
        intro o eo h9
        have q := ih (k + 1) (c + 1) (by rw [hc]; exact nI_1 _) (by omega)
        rw [<- eo] at q
        exact q h9
      rw [itr_s, <- hc, bd_X10_nearest_20] at hs
      refine du_X10_leanOf h ?_
      intro h
      refine And.intro (fun c1 => ?_) (fun c1 => ?_)
      · have h := And.left h c1
        rw [if_pos c1] at hs
        rw [bCW] at hs
        unfold aYH at h ⊢
        refine ae ?_
        have h := h _ rfl
        have q9 := hs _ rfl
        exact q9 h
      · have h := And.right h c1
        rw [if_neg c1] at hs
        refine And.intro (fun c2 => ?_) (fun c2 => ?_)
        · have h := And.left h c2
          rw [if_pos c2] at hs
          rw [j_X10_nearest_58] at hs
          unfold ws_X10_nearest_58 at h ⊢
          rw [bCW] at hs
          unfold aYH at h ⊢
          refine ae ?_
          have h := h _ rfl
          have q9 := hs _ rfl
          exact q9 h
        · have h := And.right h c2
          rw [if_neg c2] at hs
          refine du_X10_leanOf h ?_
          intro h
          refine du_X10_leanOf h ?_
          intro h
          refine And.intro (fun c3 => ?_) (fun c3 => ?_)
          · have h := And.left h c3
            rw [if_pos c3] at hs
            rw [bCW] at hs
            unfold aYH at h ⊢
            refine ae ?_
            have h := h _ rfl
            have q9 := hs _ rfl
            exact q9 h
          · have h := And.right h c3
            rw [if_neg c3] at hs
            rw [j_X10_nearest_58] at hs
            unfold ws_X10_nearest_58 at h ⊢
            rw [bCW] at hs
            unfold aYH at h ⊢
            refine ae ?_
            have h := h _ rfl
            have q9 := hs _ rfl
            exact q9 h
noncomputable def aZM (p0 bT aG bL bY : Int32) (m_x gR nG oO pJ sW : Nat -> Int32) : Int32 × Int32 × Int32 × (Nat -> Int32) := if (F_X10_isFruit p0 bT) = 0 then ((-1), bL, 0, sW) else (ex_X10_nearest_20 (fun o0 o1 o2 o3 => (o0, o1, o2, o3)) bT aG m_x gR nG oO pJ p0 bL 0 sW (nI (0 + (Int32.toInt aG - ((0 : Nat) : Int)).toNat)) (itr (bd_X10_nearest_20 bT aG m_x gR nG oO pJ p0 bL 0 sW) (-2) 0 (Int32.toInt aG - ((0 : Nat) : Int)).toNat))
set_option maxHeartbeats 200000 in
set_option maxRecDepth 10000 in
theorem dt_X10_nearest {P Q : Int32 -> Int32 -> Int32 -> (Nat -> Int32) -> Prop} {p0 bT aG bL bY : Int32} {m_x gR nG oO pJ sW : Nat -> Int32} (h : wp_X10_nearest P p0 bT aG bL bY m_x gR nG oO pJ sW) (hq : ∀ o : Int32 × Int32 × Int32 × (Nat -> Int32), o = aZM p0 bT aG bL bY m_x gR nG oO pJ sW -> P o.1 o.2.1 o.2.2.1 o.2.2.2 -> Q o.1 o.2.1 o.2.2.1 o.2.2.2) : wp_X10_nearest Q p0 bT aG bL bY m_x gR nG oO pJ sW := by
  rw [aZM] at hq
  refine du_X10_isFruit h ?_
  intro h
  refine And.intro (fun c1 => ?_) (fun c1 => ?_)
  · have h := And.left h c1
    rw [if_neg c1] at hq
    obtain ⟨n2, h⟩ := h
    refine ⟨n2, dl_X10_nearest_20 (a := (-2)) (i := 0) (by decide) ?_ n2 0 0 (by decide) (Nat.zero_le _) h⟩
    intro cc3 s4 ec5 es6 h
    rw [<- ec5, <- es6, ex_X10_nearest_20] at hq
    refine And.intro (fun c7 => ?_) (fun c7 => ?_)
    · have h := And.left h c7
      rw [if_pos c7] at hq
      refine du_X10_leanOf h ?_
      intro h
      refine du_X10_tell h ?_
      intro h
      have q9 := hq _ rfl
      dsimp only at q9
      exact q9 h
    · have h := And.right h c7
      rw [if_neg c7] at hq
      have q9 := hq _ rfl
      dsimp only at q9
      exact q9 h
  · have h := And.right h c1
    rw [if_pos c1] at hq
    have q9 := hq _ rfl
    dsimp only at q9
    exact q9 h
theorem du_X10_nearest {P Q : Int32 -> Int32 -> Int32 -> (Nat -> Int32) -> Prop} {p0 bT aG bL bY : Int32} {m_x gR nG oO pJ sW : Nat -> Int32} (h : wp_X10_nearest P p0 bT aG bL bY m_x gR nG oO pJ sW) (hq : P (aZM p0 bT aG bL bY m_x gR nG oO pJ sW).1 (aZM p0 bT aG bL bY m_x gR nG oO pJ sW).2.1 (aZM p0 bT aG bL bY m_x gR nG oO pJ sW).2.2.1 (aZM p0 bT aG bL bY m_x gR nG oO pJ sW).2.2.2 -> Q (aZM p0 bT aG bL bY m_x gR nG oO pJ sW).1 (aZM p0 bT aG bL bY m_x gR nG oO pJ sW).2.1 (aZM p0 bT aG bL bY m_x gR nG oO pJ sW).2.2.1 (aZM p0 bT aG bL bY m_x gR nG oO pJ sW).2.2.2) : wp_X10_nearest Q p0 bT aG bL bY m_x gR nG oO pJ sW := dt_X10_nearest h (fun o eo => by rw [eo]; exact hq)
theorem dw_X10_nearest {Q : Int32 -> Int32 -> Int32 -> (Nat -> Int32) -> Prop} {p0 bT aG bL bY : Int32} {m_x gR nG oO pJ sW : Nat -> Int32} (h : wp_X10_nearest (fun o0 o1 o2 o3 => (o0, o1, o2, o3) = aZM p0 bT aG bL bY m_x gR nG oO pJ sW -> Q o0 o1 o2 o3) p0 bT aG bL bY m_x gR nG oO pJ sW) : wp_X10_nearest Q p0 bT aG bL bY m_x gR nG oO pJ sW := dt_X10_nearest h (fun o eo hp => hp eo)
noncomputable def F_X3_reach (p0 p1 : Int32) (dY : Nat -> Int32) : Int32 := (((dY (0 : Int32).toNatClampNeg) + (p0 * (dY (1 : Int32).toNatClampNeg))) + (p1 * (dY (2 : Int32).toNatClampNeg)))
set_option maxHeartbeats 200000 in
set_option maxRecDepth 10000 in
theorem dt_X3_reach {P Q : Int32 -> Prop} {p0 p1 : Int32} {dY : Nat -> Int32} (h : bAw P p0 p1 dY) (hq : ∀ o : Int32, o = F_X3_reach p0 p1 dY -> P o -> Q o) : bAw Q p0 p1 dY := by
  rw [F_X3_reach] at hq
  refine ae ?_
  have h := h _ rfl
  refine ae ?_
  have h := h _ rfl
  have q9 := hq _ rfl
  exact q9 h
theorem du_X3_reach {P Q : Int32 -> Prop} {p0 p1 : Int32} {dY : Nat -> Int32} (h : bAw P p0 p1 dY) (hq : P (F_X3_reach p0 p1 dY) -> Q (F_X3_reach p0 p1 dY)) : bAw Q p0 p1 dY := dt_X3_reach h (fun o eo => by rw [eo]; exact hq)
noncomputable def j_X3_within_32 {R : Type} (k5 : Int32 -> Int32 -> Int32 -> Int32 -> R) (dN : Int32) (uU gF mX oE : Nat -> Int32) (x1 x2 x3 x4 : Int32) : R := k5 x1 x2 x3 (x4 + 1)
noncomputable def bd_X3_within_5 (dN : Int32) (uU gF mX oE : Nat -> Int32) (x1 x2 c s : Int32) : Int32 := if (F_X3_isWithin c x1 x2 uU gF mX oE) = 0 then (j_X3_within_32 (fun q0 q1 q2 q3 => q2) dN uU gF mX oE x1 x2 s c) else (j_X3_within_32 (fun q0 q1 q2 q3 => q2) dN uU gF mX oE x1 x2 (s ||| (1 <<< (c &&& 31))) c)
noncomputable def ex_X3_within_5 {R : Type} (po : Int32 -> R) (dN : Int32) (uU gF mX oE : Nat -> Int32) (x1 x2 c s : Int32) : R := po s
set_option maxHeartbeats 200000 in
set_option maxRecDepth 10000 in
theorem dl_X3_within_5 {P Q : Int32 -> Prop} {dN : Int32} {uU gF mX oE : Nat -> Int32} {x1 x2 a : Int32} {i : Nat} (hi0 : i < 2147483648) (hE : ∀ (c : Int32) (s : Int32), c = nI (i + (Int32.toInt dN - ((i : Nat) : Int)).toNat) -> s = itr (bd_X3_within_5 dN uU gF mX oE x1 x2) a i (Int32.toInt dN - ((i : Nat) : Int)).toNat -> (P s) -> (Q s)) : ∀ (n k : Nat) (c : Int32), c = nI (i + k) -> k <= (Int32.toInt dN - ((i : Nat) : Int)).toNat -> wb_X3_within_5 P dN uU gF mX oE n x1 x2 (itr (bd_X3_within_5 dN uU gF mX oE x1 x2) a i k) c -> wb_X3_within_5 Q dN uU gF mX oE n x1 x2 (itr (bd_X3_within_5 dN uU gF mX oE x1 x2) a i k) c := by
  intro n
  induction n with
  | zero => intro k c hc hk h; exact False.elim h
  | succ n ih =>
    intro k c hc hk h
    have hr := aAT dN
    have hi : Int32.toInt c = ((i + k : Nat) : Int) := by rw [hc]; exact nI_toInt (by omega)
    refine And.intro (fun t0 => ?_) (fun t0 => ?_)
    · have h := And.left h t0
      have t1 := (aAO _ _).mp t0
      have hk2 : k = (Int32.toInt dN - ((i : Nat) : Int)).toNat := by omega
      subst hk2
      exact hE _ _ hc rfl h
    · have h := And.right h t0
      have t1 := mt (aAO _ _).mpr t0
      have hs : ∀ o : Int32, o = itr (bd_X3_within_5 dN uU gF mX oE x1 x2) a i (k + 1) -> wb_X3_within_5 P dN uU gF mX oE n x1 x2 o (c + 1) -> wb_X3_within_5 Q dN uU gF mX oE n x1 x2 o (c + 1) := by
        intro o eo h9
        have q := ih (k + 1) (c + 1) (by rw [hc]; exact nI_1 _) (by omega)
        rw [<- eo] at q
        exact q h9
      rw [itr_s, <- hc, bd_X3_within_5] at hs
      refine du_X3_isWithin h ?_
      intro h
      refine And.intro (fun c1 => ?_) (fun c1 => ?_)
      · have h := And.left h c1
        rw [if_pos c1] at hs
        rw [j_X3_within_32] at hs
        unfold ws_X3_within_32 at h ⊢
        refine ae ?_
        have h := h _ rfl
        have q9 := hs _ rfl
        exact q9 h
      · have h := And.right h c1
        rw [if_neg c1] at hs
        refine ae ?_
        have h := h _ rfl
        rw [j_X3_within_32] at hs
        unfold ws_X3_within_32 at h ⊢
        refine ae ?_
        have h := h _ rfl
        have q9 := hs _ rfl
        exact q9 h
noncomputable def F_X3_within (p0 p1 dN : Int32) (uU gF mX oE : Nat -> Int32) : Int32 := ex_X3_within_5 (fun o0 => o0) dN uU gF mX oE p0 p1 (nI (0 + (Int32.toInt dN - ((0 : Nat) : Int)).toNat)) (itr (bd_X3_within_5 dN uU gF mX oE p0 p1) 0 0 (Int32.toInt dN - ((0 : Nat) : Int)).toNat)
set_option maxHeartbeats 200000 in
set_option maxRecDepth 10000 in
theorem dt_X3_within {P Q : Int32 -> Prop} {p0 p1 dN : Int32} {uU gF mX oE : Nat -> Int32} (h : bBS P p0 p1 dN uU gF mX oE) (hq : ∀ o : Int32, o = F_X3_within p0 p1 dN uU gF mX oE -> P o -> Q o) : bBS Q p0 p1 dN uU gF mX oE := by
  rw [F_X3_within] at hq
  obtain ⟨n1, h⟩ := h
  refine ⟨n1, dl_X3_within_5 (a := 0) (i := 0) (by decide) ?_ n1 0 0 (by decide) (Nat.zero_le _) h⟩
  intro cc2 s3 ec4 es5 h
  rw [<- ec4, <- es5, ex_X3_within_5] at hq
  have q9 := hq _ rfl
  exact q9 h
theorem du_X3_within {P Q : Int32 -> Prop} {p0 p1 dN : Int32} {uU gF mX oE : Nat -> Int32} (h : bBS P p0 p1 dN uU gF mX oE) (hq : P (F_X3_within p0 p1 dN uU gF mX oE) -> Q (F_X3_within p0 p1 dN uU gF mX oE)) : bBS Q p0 p1 dN uU gF mX oE := dt_X3_within h (fun o eo => by rw [eo]; exact hq)
noncomputable def F_X9_tell_ (p0 p1 qB : Int32) (jK : Nat -> Int32) : Int32 × (Nat -> Int32) := ((F_X6_add p1 (F_X9_tell p0 qB jK).1 (F_X9_tell p0 qB jK).2).1, (F_X6_add p1 (F_X9_tell p0 qB jK).1 (F_X9_tell p0 qB jK).2).2)
set_option maxHeartbeats 200000 in
set_option maxRecDepth 10000 in
theorem dt_X9_tell_ {P Q : Int32 -> (Nat -> Int32) -> Prop} {p0 p1 qB : Int32} {jK : Nat -> Int32} (h : aPf P p0 p1 qB jK) (hq : ∀ o : Int32 × (Nat -> Int32), o = F_X9_tell_ p0 p1 qB jK -> P o.1 o.2 -> Q o.1 o.2) : aPf Q p0 p1 qB jK := by
  rw [F_X9_tell_] at hq
  refine du_X9_tell h ?_
  intro h
  refine du_X6_add h ?_
  intro h
  have q9 := hq _ rfl
  dsimp only at q9
  exact q9 h
theorem du_X9_tell_ {P Q : Int32 -> (Nat -> Int32) -> Prop} {p0 p1 qB : Int32} {jK : Nat -> Int32} (h : aPf P p0 p1 qB jK) (hq : P (F_X9_tell_ p0 p1 qB jK).1 (F_X9_tell_ p0 p1 qB jK).2 -> Q (F_X9_tell_ p0 p1 qB jK).1 (F_X9_tell_ p0 p1 qB jK).2) : aPf Q p0 p1 qB jK := dt_X9_tell_ h (fun o eo => by rw [eo]; exact hq)
theorem dw_X9_tell_ {Q : Int32 -> (Nat -> Int32) -> Prop} {p0 p1 qB : Int32} {jK : Nat -> Int32} (h : aPf (fun o0 o1 => (o0, o1) = F_X9_tell_ p0 p1 qB jK -> Q o0 o1) p0 p1 qB jK) : aPf Q p0 p1 qB jK := dt_X9_tell_ h (fun o eo hp => hp eo)
noncomputable def F_X9_reached (p0 dN bD : Int32) (uU gF mX oE dY : Nat -> Int32) (qB : Int32) (jK : Nat -> Int32) : Int32 × Int32 × (Nat -> Int32) := if (aVU p0 bD) = 0 then ((-1), qB, jK) else ((F_X3_within p0 (F_X3_reach 0 0 dY) dN uU gF mX oE), (F_X9_tell_ (F_X3_within p0 (F_X3_reach 1 0 dY) dN uU gF mX oE) (F_X3_within p0 (F_X3_reach 1 1 dY) dN uU gF mX oE) qB jK).1, (F_X9_tell_ (F_X3_within p0 (F_X3_reach 1 0 dY) dN uU gF mX oE) (F_X3_within p0 (F_X3_reach 1 1 dY) dN uU gF mX oE) qB jK).2)
set_option maxHeartbeats 200000 in
set_option maxRecDepth 10000 in
theorem dt_X9_reached {P Q : Int32 -> Int32 -> (Nat -> Int32) -> Prop} {p0 dN bD : Int32} {uU gF mX oE dY : Nat -> Int32} {qB : Int32} {jK : Nat -> Int32} (h : wp_X9_reached P p0 dN bD uU gF mX oE dY qB jK) (hq : ∀ o : Int32 × Int32 × (Nat -> Int32), o = F_X9_reached p0 dN bD uU gF mX oE dY qB jK -> P o.1 o.2.1 o.2.2 -> Q o.1 o.2.1 o.2.2) : wp_X9_reached Q p0 dN bD uU gF mX oE dY qB jK := by
  rw [F_X9_reached] at hq
  refine du_X3_hasStanding h ?_
  intro h
  refine And.intro (fun c1 => ?_) (fun c1 => ?_)
  · have h := And.left h c1
    rw [if_neg c1] at hq
    refine du_X3_reach h ?_
    intro h
    refine du_X3_within h ?_
    intro h
    refine du_X3_reach h ?_
    intro h
    refine du_X3_within h ?_
    intro h
    refine du_X9_tell_ h ?_
    intro h
    refine du_X3_reach h ?_
    intro h
    refine du_X3_within h ?_
    intro h
    have q9 := hq _ rfl
    dsimp only at q9
    exact q9 h
  · have h := And.right h c1
    rw [if_pos c1] at hq
    have q9 := hq _ rfl
    dsimp only at q9
    exact q9 h
theorem du_X9_reached {P Q : Int32 -> Int32 -> (Nat -> Int32) -> Prop} {p0 dN bD : Int32} {uU gF mX oE dY : Nat -> Int32} {qB : Int32} {jK : Nat -> Int32} (h : wp_X9_reached P p0 dN bD uU gF mX oE dY qB jK) (hq : P (F_X9_reached p0 dN bD uU gF mX oE dY qB jK).1 (F_X9_reached p0 dN bD uU gF mX oE dY qB jK).2.1 (F_X9_reached p0 dN bD uU gF mX oE dY qB jK).2.2 -> Q (F_X9_reached p0 dN bD uU gF mX oE dY qB jK).1 (F_X9_reached p0 dN bD uU gF mX oE dY qB jK).2.1 (F_X9_reached p0 dN bD uU gF mX oE dY qB jK).2.2) : wp_X9_reached Q p0 dN bD uU gF mX oE dY qB jK := dt_X9_reached h (fun o eo => by rw [eo]; exact hq)
theorem dw_X9_reached {Q : Int32 -> Int32 -> (Nat -> Int32) -> Prop} {p0 dN bD : Int32} {uU gF mX oE dY : Nat -> Int32} {qB : Int32} {jK : Nat -> Int32} (h : wp_X9_reached (fun o0 o1 o2 => (o0, o1, o2) = F_X9_reached p0 dN bD uU gF mX oE dY qB jK -> Q o0 o1 o2) p0 dN bD uU gF mX oE dY qB jK) : wp_X9_reached Q p0 dN bD uU gF mX oE dY qB jK := dt_X9_reached h (fun o eo hp => hp eo)
noncomputable def F_X10_reachBy (p0 p1 : Int32) (pJ : Nat -> Int32) : Int32 := (((pJ (0 : Int32).toNatClampNeg) + (p0 * (pJ (1 : Int32).toNatClampNeg))) + (p1 * (pJ (2 : Int32).toNatClampNeg)))
set_option maxHeartbeats 200000 in
set_option maxRecDepth 10000 in
theorem dt_X10_reachBy {P Q : Int32 -> Prop} {p0 p1 : Int32} {pJ : Nat -> Int32} (h : aY7 P p0 p1 pJ) (hq : ∀ o : Int32, o = F_X10_reachBy p0 p1 pJ -> P o -> Q o) : aY7 Q p0 p1 pJ := by
  rw [F_X10_reachBy] at hq
  refine ae ?_
  have h := h _ rfl
  refine ae ?_
  have h := h _ rfl
  have q9 := hq _ rfl
  exact q9 h
theorem du_X10_reachBy {P Q : Int32 -> Prop} {p0 p1 : Int32} {pJ : Nat -> Int32} (h : aY7 P p0 p1 pJ) (hq : P (F_X10_reachBy p0 p1 pJ) -> Q (F_X10_reachBy p0 p1 pJ)) : aY7 Q p0 p1 pJ := dt_X10_reachBy h (fun o eo => by rw [eo]; exact hq)
theorem dw_X10_reachBy {Q : Int32 -> Prop} {p0 p1 : Int32} {pJ : Nat -> Int32} (h : aY7 (fun o0 => o0 = F_X10_reachBy p0 p1 pJ -> Q o0) p0 p1 pJ) : aY7 Q p0 p1 pJ := dt_X10_reachBy h (fun o eo hp => hp eo)
noncomputable def j_X10_reachedFrom_41 {R : Type} (k6 : Int32 -> Int32 -> Int32 -> Int32 -> Int32 -> R) (bT : Int32) (m_x gR nG oO pJ : Nat -> Int32) (x1 x2 x3 x5 k0 k1 : Int32) : R := k6 x1 x2 x3 (k0 ||| k1) (x5 + 1)
noncomputable def bBb (bT : Int32) (m_x gR nG oO pJ : Nat -> Int32) (x1 x2 x3 c s : Int32) : Int32 := if (bAx c x1 (F_X10_reachBy x2 x3 pJ) m_x gR nG oO) = 0 then (j_X10_reachedFrom_41 (fun q0 q1 q2 q3 q4 => q3) bT m_x gR nG oO pJ x1 x2 x3 c s 0) else (j_X10_reachedFrom_41 (fun q0 q1 q2 q3 q4 => q3) bT m_x gR nG oO pJ x1 x2 x3 c s (1 <<< (c &&& 31)))
noncomputable def ex_X10_reachedFrom_6 {R : Type} (po : Int32 -> R) (bT : Int32) (m_x gR nG oO pJ : Nat -> Int32) (x1 x2 x3 c s : Int32) : R := po s
set_option maxHeartbeats 200000 in
set_option maxRecDepth 10000 in
theorem dl_X10_reachedFrom_6 {P Q : Int32 -> Prop} {bT : Int32} {m_x gR nG oO pJ : Nat -> Int32} {x1 x2 x3 a : Int32} {i : Nat} (hi0 : i < 2147483648) (hE : ∀ (c : Int32) (s : Int32), c = nI (i + (Int32.toInt bT - ((i : Nat) : Int)).toNat) -> s = itr (bBb bT m_x gR nG oO pJ x1 x2 x3) a i (Int32.toInt bT - ((i : Nat) : Int)).toNat -> (P s) -> (Q s)) : ∀ (n k : Nat) (c : Int32), c = nI (i + k) -> k <= (Int32.toInt bT - ((i : Nat) : Int)).toNat -> bBo P bT m_x gR nG oO pJ n x1 x2 x3 (itr (bBb bT m_x gR nG oO pJ x1 x2 x3) a i k) c -> bBo Q bT m_x gR nG oO pJ n x1 x2 x3 (itr (bBb bT m_x gR nG oO pJ x1 x2 x3) a i k) c := by
  intro n
  induction n with
  | zero => intro k c hc hk h; exact False.elim h
  | succ n ih =>
    intro k c hc hk h
    have hr := aAT bT
    have hi : Int32.toInt c = ((i + k : Nat) : Int) := by rw [hc]; exact nI_toInt (by omega)
    refine And.intro (fun t0 => ?_) (fun t0 => ?_)
    · have h := And.left h t0
      have t1 := (aAO _ _).mp t0
      have hk2 : k = (Int32.toInt bT - ((i : Nat) : Int)).toNat := by omega
      subst hk2
      exact hE _ _ hc rfl h
    · have h := And.right h t0
      have t1 := mt (aAO _ _).mpr t0
      have hs : ∀ o : Int32, o = itr (bBb bT m_x gR nG oO pJ x1 x2 x3) a i (k + 1) -> bBo P bT m_x gR nG oO pJ n x1 x2 x3 o (c + 1) -> bBo Q bT m_x gR nG oO pJ n x1 x2 x3 o (c + 1) := by
        intro o eo h9
        have q := ih (k + 1) (c + 1) (by rw [hc]; exact nI_1 _) (by omega)
        rw [<- eo] at q
        exact q h9
      rw [itr_s, <- hc, bBb] at hs
      refine du_X10_reachBy h ?_
      intro h
      refine du_X10_isWithin h ?_
      intro h
      refine And.intro (fun c1 => ?_) (fun c1 => ?_)
      · have h := And.left h c1
        rw [if_pos c1] at hs
        rw [j_X10_reachedFrom_41] at hs
        unfold bA5 at h ⊢
        refine ae ?_
        have h := h _ rfl
        refine ae ?_
        have h := h _ rfl
        have q9 := hs _ rfl
        exact q9 h
      · have h := And.right h c1
        rw [if_neg c1] at hs
        refine ae ?_
        have h := h _ rfl
        rw [j_X10_reachedFrom_41] at hs
        unfold bA5 at h ⊢
        refine ae ?_
        have h := h _ rfl
        refine ae ?_
        have h := h _ rfl
        have q9 := hs _ rfl
        exact q9 h
noncomputable def aLM (p0 p1 p2 bT : Int32) (m_x gR nG oO pJ : Nat -> Int32) : Int32 := ex_X10_reachedFrom_6 (fun o0 => o0) bT m_x gR nG oO pJ p0 p1 p2 (nI (0 + (Int32.toInt bT - ((0 : Nat) : Int)).toNat)) (itr (bBb bT m_x gR nG oO pJ p0 p1 p2) 0 0 (Int32.toInt bT - ((0 : Nat) : Int)).toNat)
set_option maxHeartbeats 200000 in
set_option maxRecDepth 10000 in
theorem dt_X10_reachedFrom {P Q : Int32 -> Prop} {p0 p1 p2 bT : Int32} {m_x gR nG oO pJ : Nat -> Int32} (h : aJz P p0 p1 p2 bT m_x gR nG oO pJ) (hq : ∀ o : Int32, o = aLM p0 p1 p2 bT m_x gR nG oO pJ -> P o -> Q o) : aJz Q p0 p1 p2 bT m_x gR nG oO pJ := by
  rw [aLM] at hq
  obtain ⟨n1, h⟩ := h
  refine ⟨n1, dl_X10_reachedFrom_6 (a := 0) (i := 0) (by decide) ?_ n1 0 0 (by decide) (Nat.zero_le _) h⟩
  intro cc2 s3 ec4 es5 h
  rw [<- ec4, <- es5, ex_X10_reachedFrom_6] at hq
  have q9 := hq _ rfl
  exact q9 h
theorem du_X10_reachedFrom {P Q : Int32 -> Prop} {p0 p1 p2 bT : Int32} {m_x gR nG oO pJ : Nat -> Int32} (h : aJz P p0 p1 p2 bT m_x gR nG oO pJ) (hq : P (aLM p0 p1 p2 bT m_x gR nG oO pJ) -> Q (aLM p0 p1 p2 bT m_x gR nG oO pJ)) : aJz Q p0 p1 p2 bT m_x gR nG oO pJ := dt_X10_reachedFrom h (fun o eo => by rw [eo]; exact hq)
theorem dw_X10_reachedFrom {Q : Int32 -> Prop} {p0 p1 p2 bT : Int32} {m_x gR nG oO pJ : Nat -> Int32} (h : aJz (fun o0 => o0 = aLM p0 p1 p2 bT m_x gR nG oO pJ -> Q o0) p0 p1 p2 bT m_x gR nG oO pJ) : aJz Q p0 p1 p2 bT m_x gR nG oO pJ := dt_X10_reachedFrom h (fun o eo hp => hp eo)
noncomputable def aZN (p0 bT aG bL bY : Int32) (m_x gR nG oO pJ sW : Nat -> Int32) : Int32 × Int32 × Int32 × (Nat -> Int32) := if (aUD p0 aG) = 0 then ((-1), bL, 0, sW) else ((aLM p0 0 0 bT m_x gR nG oO pJ), (bBW (aLM p0 1 1 bT m_x gR nG oO pJ) (bBW (aLM p0 1 0 bT m_x gR nG oO pJ) 0 sW).1 (bBW (aLM p0 1 0 bT m_x gR nG oO pJ) 0 sW).2).1, 0, (bBW (aLM p0 1 1 bT m_x gR nG oO pJ) (bBW (aLM p0 1 0 bT m_x gR nG oO pJ) 0 sW).1 (bBW (aLM p0 1 0 bT m_x gR nG oO pJ) 0 sW).2).2)
set_option maxHeartbeats 200000 in
set_option maxRecDepth 10000 in
theorem dt_X10_reached {P Q : Int32 -> Int32 -> Int32 -> (Nat -> Int32) -> Prop} {p0 bT aG bL bY : Int32} {m_x gR nG oO pJ sW : Nat -> Int32} (h : wp_X10_reached P p0 bT aG bL bY m_x gR nG oO pJ sW) (hq : ∀ o : Int32 × Int32 × Int32 × (Nat -> Int32), o = aZN p0 bT aG bL bY m_x gR nG oO pJ sW -> P o.1 o.2.1 o.2.2.1 o.2.2.2 -> Q o.1 o.2.1 o.2.2.1 o.2.2.2) : wp_X10_reached Q p0 bT aG bL bY m_x gR nG oO pJ sW := by
  rw [aZN] at hq
  refine du_X10_isStanding h ?_
  intro h
  refine And.intro (fun c1 => ?_) (fun c1 => ?_)
  · have h := And.left h c1
    rw [if_neg c1] at hq
    refine du_X10_reachedFrom h ?_
    intro h
    refine du_X10_tell h ?_
    intro h
    refine du_X10_reachedFrom h ?_
    intro h
    refine du_X10_tell h ?_
    intro h
    refine du_X10_reachedFrom h ?_
    intro h
    have q9 := hq _ rfl
    dsimp only at q9
    exact q9 h
  · have h := And.right h c1
    rw [if_pos c1] at hq
    have q9 := hq _ rfl
    dsimp only at q9
    exact q9 h
theorem du_X10_reached {P Q : Int32 -> Int32 -> Int32 -> (Nat -> Int32) -> Prop} {p0 bT aG bL bY : Int32} {m_x gR nG oO pJ sW : Nat -> Int32} (h : wp_X10_reached P p0 bT aG bL bY m_x gR nG oO pJ sW) (hq : P (aZN p0 bT aG bL bY m_x gR nG oO pJ sW).1 (aZN p0 bT aG bL bY m_x gR nG oO pJ sW).2.1 (aZN p0 bT aG bL bY m_x gR nG oO pJ sW).2.2.1 (aZN p0 bT aG bL bY m_x gR nG oO pJ sW).2.2.2 -> Q (aZN p0 bT aG bL bY m_x gR nG oO pJ sW).1 (aZN p0 bT aG bL bY m_x gR nG oO pJ sW).2.1 (aZN p0 bT aG bL bY m_x gR nG oO pJ sW).2.2.1 (aZN p0 bT aG bL bY m_x gR nG oO pJ sW).2.2.2) : wp_X10_reached Q p0 bT aG bL bY m_x gR nG oO pJ sW := dt_X10_reached h (fun o eo => by rw [eo]; exact hq)
theorem dw_X10_reached {Q : Int32 -> Int32 -> Int32 -> (Nat -> Int32) -> Prop} {p0 bT aG bL bY : Int32} {m_x gR nG oO pJ sW : Nat -> Int32} (h : wp_X10_reached (fun o0 o1 o2 o3 => (o0, o1, o2, o3) = aZN p0 bT aG bL bY m_x gR nG oO pJ sW -> Q o0 o1 o2 o3) p0 bT aG bL bY m_x gR nG oO pJ sW) : wp_X10_reached Q p0 bT aG bL bY m_x gR nG oO pJ sW := dt_X10_reached h (fun o eo hp => hp eo)
noncomputable def aEe (qO qQ : Nat -> Int32) (aG jC bY : Int32) (jD : Nat) (mLn oF rP dQ aJ aB bU oX : Int32) (nG oO qT qA : Nat -> Int32) (c : Int32) (s : Int32 × (Nat -> Int32) × (Nat -> Int32) × (Nat -> Int32) × (Nat -> Int32) × (Nat -> Int32)) : Int32 × (Nat -> Int32) × (Nat -> Int32) × (Nat -> Int32) × (Nat -> Int32) × (Nat -> Int32) := ((s.1 + 1), (upd s.2.1 s.1.toNatClampNeg 0), (upd s.2.2.1 s.1.toNatClampNeg (qT (4 * c).toNatClampNeg)), (upd s.2.2.2.1 s.1.toNatClampNeg (qT ((4 * c) + 1).toNatClampNeg)), (upd s.2.2.2.2.1 s.1.toNatClampNeg (qT ((4 * c) + 2).toNatClampNeg)), (upd s.2.2.2.2.2 s.1.toNatClampNeg (qT ((4 * c) + 3).toNatClampNeg)))
noncomputable def aIz (qO qQ : Nat -> Int32) (bT jC bY : Int32) (jD : Nat) (mLn oF rP dQ aJ aB bU oX : Int32) (qG m_x gR pW qR qT qA : Nat -> Int32) (c : Int32) (s : Int32 × (Nat -> Int32) × (Nat -> Int32)) : Int32 × (Nat -> Int32) × (Nat -> Int32) := ((s.1 + 1), (upd s.2.1 s.1.toNatClampNeg (qA (2 * c).toNatClampNeg)), (upd s.2.2 s.1.toNatClampNeg (qA ((2 * c) + 1).toNatClampNeg)))
noncomputable def ex_X10_orchard_215 {R : Type} (po : Int32 -> Int32 -> Int32 -> Int32 -> Int32 -> Nat -> Int32 -> Int32 -> Int32 -> Int32 -> Int32 -> Int32 -> Int32 -> Int32 -> (Nat -> Int32) -> (Nat -> Int32) -> (Nat -> Int32) -> (Nat -> Int32) -> (Nat -> Int32) -> (Nat -> Int32) -> (Nat -> Int32) -> (Nat -> Int32) -> (Nat -> Int32) -> R) (qO qQ : Nat -> Int32) (bT jC bY : Int32) (jD : Nat) (mLn oF rP dQ aJ aB bU oX : Int32) (qG m_x gR pW qR qT qA : Nat -> Int32) (c : Int32) (s : Int32 × (Nat -> Int32) × (Nat -> Int32)) : R := po (aJ + aB) bT s.1 jC bY jD mLn oF rP dQ aJ aB 0 (oX + 1) qG m_x gR pW qR s.2.1 s.2.2 qT qA
set_option maxHeartbeats 200000 in
set_option maxRecDepth 10000 in
theorem dl_X10_orchard_215 {P Q : Int32 -> Int32 -> Int32 -> Int32 -> Int32 -> Nat -> Int32 -> Int32 -> Int32 -> Int32 -> Int32 -> Int32 -> Int32 -> Int32 -> (Nat -> Int32) -> (Nat -> Int32) -> (Nat -> Int32) -> (Nat -> Int32) -> (Nat -> Int32) -> (Nat -> Int32) -> (Nat -> Int32) -> (Nat -> Int32) -> (Nat -> Int32) -> Prop} {qO qQ : Nat -> Int32} {bT jC bY : Int32} {jD : Nat} {mLn oF rP dQ aJ aB bU oX : Int32} {qG m_x gR pW qR qT qA : Nat -> Int32} {a : Int32 × (Nat -> Int32) × (Nat -> Int32)} {i : Nat} (hi0 : i < 2147483648) (hE : ∀ (c : Int32) (s : Int32 × (Nat -> Int32) × (Nat -> Int32)), c = nI (i + (Int32.toInt aB - ((i : Nat) : Int)).toNat) -> s = itr (aIz qO qQ bT jC bY jD mLn oF rP dQ aJ aB bU oX qG m_x gR pW qR qT qA) a i (Int32.toInt aB - ((i : Nat) : Int)).toNat -> (∀ v_7 : Int32, v_7 = oX + 1 -> P (aJ + aB) bT s.1 jC bY jD mLn oF rP dQ aJ aB 0 v_7 qG m_x gR pW qR s.2.1 s.2.2 qT qA) -> (∀ v_7 : Int32, v_7 = oX + 1 -> Q (aJ + aB) bT s.1 jC bY jD mLn oF rP dQ aJ aB 0 v_7 qG m_x gR pW qR s.2.1 s.2.2 qT qA)) : ∀ (n k : Nat) (c : Int32), c = nI (i + k) -> k <= (Int32.toInt aB - ((i : Nat) : Int)).toNat -> aYf P qO qQ n c bT (itr (aIz qO qQ bT jC bY jD mLn oF rP dQ aJ aB bU oX qG m_x gR pW qR qT qA) a i k).1 jC bY jD mLn oF rP dQ aJ aB bU oX qG m_x gR pW qR (itr (aIz qO qQ bT jC bY jD mLn oF rP dQ aJ aB bU oX qG m_x gR pW qR qT qA) a i k).2.1 (itr (aIz qO qQ bT jC bY jD mLn oF rP dQ aJ aB bU oX qG m_x gR pW qR qT qA) a i k).2.2 qT qA -> aYf Q qO qQ n c bT (itr (aIz qO qQ bT jC bY jD mLn oF rP dQ aJ aB bU oX qG m_x gR pW qR qT qA) a i k).1 jC bY jD mLn oF rP dQ aJ aB bU oX qG m_x gR pW qR (itr (aIz qO qQ bT jC bY jD mLn oF rP dQ aJ aB bU oX qG m_x gR pW qR qT qA) a i k).2.1 (itr (aIz qO qQ bT jC bY jD mLn oF rP dQ aJ aB bU oX qG m_x gR pW qR qT qA) a i k).2.2 qT qA := by
  intro n
  induction n with
  | zero => intro k c hc hk h; exact False.elim h
  | succ n ih =>
    intro k c hc hk h
    have hr := aAT aB
    have hi : Int32.toInt c = ((i + k : Nat) : Int) := by rw [hc]; exact nI_toInt (by omega)
    refine And.intro (fun t0 => ?_) (fun t0 => ?_)
    · have h := And.left h t0
      have t1 := (aAO _ _).mp t0
      have hk2 : k = (Int32.toInt aB - ((i : Nat) : Int)).toNat := by omega
      subst hk2
      exact hE _ _ hc rfl h
    · have h := And.right h t0
      have t1 := mt (aAO _ _).mpr t0
      have hs : ∀ o : Int32 × (Nat -> Int32) × (Nat -> Int32), o = itr (aIz qO qQ bT jC bY jD mLn oF rP dQ aJ aB bU oX qG m_x gR pW qR qT qA) a i (k + 1) -> aYf P qO qQ n (c + 1) bT o.1 jC bY jD mLn oF rP dQ aJ aB bU oX qG m_x gR pW qR o.2.1 o.2.2 qT qA -> aYf Q qO qQ n (c + 1) bT o.1 jC bY jD mLn oF rP dQ aJ aB bU oX qG m_x gR pW qR o.2.1 o.2.2 qT qA := by
        intro o eo h9
        have q := ih (k + 1) (c + 1) (by rw [hc]; exact nI_1 _) (by omega)
        rw [<- eo] at q
        exact q h9
      rw [itr_s, <- hc, aIz] at hs
      refine ae ?_
      have h := h _ rfl
      refine And.intro (And.left h) ?_
      have h := And.right h
      refine ae ?_
      have h := h _ rfl
      refine And.intro (And.left h) ?_
      have h := And.right h
      refine ae ?_
      have h := h _ rfl
      refine ae ?_
      have h := h _ rfl
      refine And.intro (And.left h) ?_
      have h := And.right h
      refine ae ?_
      have h := h _ rfl
      refine And.intro (And.left h) ?_
      have h := And.right h
      refine ae ?_
      have h := h _ rfl
      refine ae ?_
      have h := h _ rfl
      have q9 := hs _ rfl
      dsimp only at q9
      exact q9 h
noncomputable def ex_X10_orchard_105 {R : Type} (po : Int32 -> Int32 -> Int32 -> Int32 -> Int32 -> Nat -> Int32 -> Int32 -> Int32 -> Int32 -> Int32 -> Int32 -> Int32 -> Int32 -> (Nat -> Int32) -> (Nat -> Int32) -> (Nat -> Int32) -> (Nat -> Int32) -> (Nat -> Int32) -> (Nat -> Int32) -> (Nat -> Int32) -> (Nat -> Int32) -> (Nat -> Int32) -> R) (qO qQ : Nat -> Int32) (aG jC bY : Int32) (jD : Nat) (mLn oF rP dQ aJ aB bU oX : Int32) (nG oO qT qA : Nat -> Int32) (c : Int32) (s : Int32 × (Nat -> Int32) × (Nat -> Int32) × (Nat -> Int32) × (Nat -> Int32) × (Nat -> Int32)) : R := ex_X10_orchard_215 po qO qQ s.1 jC bY jD mLn oF rP dQ aJ aB bU oX s.2.1 s.2.2.1 s.2.2.2.1 s.2.2.2.2.1 s.2.2.2.2.2 qT qA (nI (0 + (Int32.toInt aB - ((0 : Nat) : Int)).toNat)) (itr (aIz qO qQ s.1 jC bY jD mLn oF rP dQ aJ aB bU oX s.2.1 s.2.2.1 s.2.2.2.1 s.2.2.2.2.1 s.2.2.2.2.2 qT qA) (aG, nG, oO) 0 (Int32.toInt aB - ((0 : Nat) : Int)).toNat)
set_option maxHeartbeats 200000 in
set_option maxRecDepth 10000 in
theorem dl_X10_orchard_105 {P Q : Int32 -> Int32 -> Int32 -> Int32 -> Int32 -> Nat -> Int32 -> Int32 -> Int32 -> Int32 -> Int32 -> Int32 -> Int32 -> Int32 -> (Nat -> Int32) -> (Nat -> Int32) -> (Nat -> Int32) -> (Nat -> Int32) -> (Nat -> Int32) -> (Nat -> Int32) -> (Nat -> Int32) -> (Nat -> Int32) -> (Nat -> Int32) -> Prop} {qO qQ : Nat -> Int32} {aG jC bY : Int32} {jD : Nat} {mLn oF rP dQ aJ aB bU oX : Int32} {nG oO qT qA : Nat -> Int32} {a : Int32 × (Nat -> Int32) × (Nat -> Int32) × (Nat -> Int32) × (Nat -> Int32) × (Nat -> Int32)} {i : Nat} (hi0 : i < 2147483648) (hE : ∀ (c : Int32) (s : Int32 × (Nat -> Int32) × (Nat -> Int32) × (Nat -> Int32) × (Nat -> Int32) × (Nat -> Int32)), c = nI (i + (Int32.toInt aJ - ((i : Nat) : Int)).toNat) -> s = itr (aEe qO qQ aG jC bY jD mLn oF rP dQ aJ aB bU oX nG oO qT qA) a i (Int32.toInt aJ - ((i : Nat) : Int)).toNat -> (∃ n : Nat, aYf P qO qQ n 0 s.1 aG jC bY jD mLn oF rP dQ aJ aB bU oX s.2.1 s.2.2.1 s.2.2.2.1 s.2.2.2.2.1 s.2.2.2.2.2 nG oO qT qA) -> (∃ n : Nat, aYf Q qO qQ n 0 s.1 aG jC bY jD mLn oF rP dQ aJ aB bU oX s.2.1 s.2.2.1 s.2.2.2.1 s.2.2.2.2.1 s.2.2.2.2.2 nG oO qT qA)) : ∀ (n k : Nat) (c : Int32), c = nI (i + k) -> k <= (Int32.toInt aJ - ((i : Nat) : Int)).toNat -> wb_X10_orchard_105 P qO qQ n c (itr (aEe qO qQ aG jC bY jD mLn oF rP dQ aJ aB bU oX nG oO qT qA) a i k).1 aG jC bY jD mLn oF rP dQ aJ aB bU oX (itr (aEe qO qQ aG jC bY jD mLn oF rP dQ aJ aB bU oX nG oO qT qA) a i k).2.1 (itr (aEe qO qQ aG jC bY jD mLn oF rP dQ aJ aB bU oX nG oO qT qA) a i k).2.2.1 (itr (aEe qO qQ aG jC bY jD mLn oF rP dQ aJ aB bU oX nG oO qT qA) a i k).2.2.2.1 (itr (aEe qO qQ aG jC bY jD mLn oF rP dQ aJ aB bU oX nG oO qT qA) a i k).2.2.2.2.1 (itr (aEe qO qQ aG jC bY jD mLn oF rP dQ aJ aB bU oX nG oO qT qA) a i k).2.2.2.2.2 nG oO qT qA -> wb_X10_orchard_105 Q qO qQ n c (itr (aEe qO qQ aG jC bY jD mLn oF rP dQ aJ aB bU oX nG oO qT qA) a i k).1 aG jC bY jD mLn oF rP dQ aJ aB bU oX (itr (aEe qO qQ aG jC bY jD mLn oF rP dQ aJ aB bU oX nG oO qT qA) a i k).2.1 (itr (aEe qO qQ aG jC bY jD mLn oF rP dQ aJ aB bU oX nG oO qT qA) a i k).2.2.1 (itr (aEe qO qQ aG jC bY jD mLn oF rP dQ aJ aB bU oX nG oO qT qA) a i k).2.2.2.1 (itr (aEe qO qQ aG jC bY jD mLn oF rP dQ aJ aB bU oX nG oO qT qA) a i k).2.2.2.2.1 (itr (aEe qO qQ aG jC bY jD mLn oF rP dQ aJ aB bU oX nG oO qT qA) a i k).2.2.2.2.2 nG oO qT qA := by
  intro n
  induction n with
  | zero => intro k c hc hk h; exact False.elim h
  | succ n ih =>
    intro k c hc hk h
    have hr := aAT aJ
    have hi : Int32.toInt c = ((i + k : Nat) : Int) := by rw [hc]; exact nI_toInt (by omega)
    refine And.intro (fun t0 => ?_) (fun t0 => ?_)
    · have h := And.left h t0
      have t1 := (aAO _ _).mp t0
      have hk2 : k = (Int32.toInt aJ - ((i : Nat) : Int)).toNat := by omega
      subst hk2
      exact hE _ _ hc rfl h
    · have h := And.right h t0
      have t1 := mt (aAO _ _).mpr t0
      have hs : ∀ o : Int32 × (Nat -> Int32) × (Nat -> Int32) × (Nat -> Int32) × (Nat -> Int32) × (Nat -> Int32), o = itr (aEe qO qQ aG jC bY jD mLn oF rP dQ aJ aB bU oX nG oO qT qA) a i (k + 1) -> wb_X10_orchard_105 P qO qQ n (c + 1) o.1 aG jC bY jD mLn oF rP dQ aJ aB bU oX o.2.1 o.2.2.1 o.2.2.2.1 o.2.2.2.2.1 o.2.2.2.2.2 nG oO qT qA -> wb_X10_orchard_105 Q qO qQ n (c + 1) o.1 aG jC bY jD mLn oF rP dQ aJ aB bU oX o.2.1 o.2.2.1 o.2.2.2.1 o.2.2.2.2.1 o.2.2.2.2.2 nG oO qT qA := by
        intro o eo h9
        have q := ih (k + 1) (c + 1) (by rw [hc]; exact nI_1 _) (by omega)
        rw [<- eo] at q
        exact q h9
      rw [itr_s, <- hc, aEe] at hs
      refine ae ?_
      have h := h _ rfl
      refine And.intro (And.left h) ?_
      have h := And.right h
      refine ae ?_
      have h := h _ rfl
      refine And.intro (And.left h) ?_
      have h := And.right h
      refine ae ?_
      have h := h _ rfl
      refine ae ?_
      have h := h _ rfl
      refine And.intro (And.left h) ?_
      have h := And.right h
      refine ae ?_
      have h := h _ rfl
      refine And.intro (And.left h) ?_
      have h := And.right h
      refine ae ?_
      have h := h _ rfl
      refine ae ?_
      have h := h _ rfl
      refine And.intro (And.left h) ?_
      have h := And.right h
      refine ae ?_
      have h := h _ rfl
      refine And.intro (And.left h) ?_
      have h := And.right h
      refine ae ?_
      have h := h _ rfl
      refine ae ?_
      have h := h _ rfl
      refine And.intro (And.left h) ?_
      have h := And.right h
      refine ae ?_
      have h := h _ rfl
      refine And.intro (And.left h) ?_
      have h := And.right h
      refine And.intro (And.left h) ?_
      have h := And.right h
      refine ae ?_
      have h := h _ rfl
      refine ae ?_
      have h := h _ rfl
      have q9 := hs _ rfl
      dsimp only at q9
      exact q9 h
noncomputable def F_X3_allFruits (dN : Int32) : Int32 := ((1 <<< (dN &&& 31)) - 1)
set_option maxHeartbeats 200000 in
set_option maxRecDepth 10000 in
theorem dt_X3_allFruits {P Q : Int32 -> Prop} {dN : Int32} (h : wp_X3_allFruits P dN) (hq : ∀ o : Int32, o = F_X3_allFruits dN -> P o -> Q o) : wp_X3_allFruits Q dN := by
  rw [F_X3_allFruits] at hq
  refine ae ?_
  have h := h _ rfl
  have q9 := hq _ rfl
  exact q9 h
theorem du_X3_allFruits {P Q : Int32 -> Prop} {dN : Int32} (h : wp_X3_allFruits P dN) (hq : P (F_X3_allFruits dN) -> Q (F_X3_allFruits dN)) : wp_X3_allFruits Q dN := dt_X3_allFruits h (fun o eo => by rw [eo]; exact hq)
noncomputable def aVS (dN jE eW eY : Int32) : Int32 := ((F_X3_allFruits dN) &&& (((jE ||| eW) ||| eY) ^^^ (-1)))
set_option maxHeartbeats 200000 in
set_option maxRecDepth 10000 in
theorem dt_X0_hanging {P Q : Int32 -> Prop} {dN jE eW eY : Int32} (h : aOu P dN jE eW eY) (hq : ∀ o : Int32, o = aVS dN jE eW eY -> P o -> Q o) : aOu Q dN jE eW eY := by
  rw [aVS] at hq
  refine du_X3_allFruits h ?_
  intro h
  refine ae ?_
  have h := h _ rfl
  refine ae ?_
  have h := h _ rfl
  have q9 := hq _ rfl
  exact q9 h
theorem du_X0_hanging {P Q : Int32 -> Prop} {dN jE eW eY : Int32} (h : aOu P dN jE eW eY) (hq : P (aVS dN jE eW eY) -> Q (aVS dN jE eW eY)) : aOu Q dN jE eW eY := dt_X0_hanging h (fun o eo => by rw [eo]; exact hq)
noncomputable def aYa {R : Type} (k15 : Int32 -> Int32 -> Int32 -> Int32 -> R) (dN : Int32) (uU gF : Nat -> Int32) (x1 x2 x3 x4 : Int32) : R := k15 x1 x2 x3 (x4 + 1)
noncomputable def j_X3_lowerThan_66 {R : Type} (k15 : Int32 -> Int32 -> Int32 -> Int32 -> R) (dN : Int32) (uU gF : Nat -> Int32) (x1 x2 x3 x4 k0 : Int32) : R := if k0 = 0 then (aYa k15 dN uU gF x1 x2 x3 x4) else (if ((x2 >>> (x4 &&& 31)) &&& 1) = 0 then (aYa k15 dN uU gF x1 x2 x3 x4) else (aYa k15 dN uU gF x1 x2 (x3 ||| (1 <<< (x4 &&& 31))) x4))
noncomputable def j_X3_lowerThan_65 {R : Type} (k15 : Int32 -> Int32 -> Int32 -> Int32 -> R) (dN : Int32) (uU gF : Nat -> Int32) (x1 x2 x3 x4 : Int32) : R := j_X3_lowerThan_66 k15 dN uU gF x1 x2 x3 x4 0
noncomputable def bd_X3_lowerThan_15 (dN : Int32) (uU gF : Nat -> Int32) (x1 x2 c s : Int32) : Int32 := if 1 < (if 0 <= ((uU c.toNatClampNeg) - (uU x1.toNatClampNeg)) then ((uU c.toNatClampNeg) - (uU x1.toNatClampNeg)) else 0 - ((uU c.toNatClampNeg) - (uU x1.toNatClampNeg))) then (j_X3_lowerThan_65 (fun q0 q1 q2 q3 => q2) dN uU gF x1 x2 s c) else (if (gF x1.toNatClampNeg) <= (gF c.toNatClampNeg) then (j_X3_lowerThan_65 (fun q0 q1 q2 q3 => q2) dN uU gF x1 x2 s c) else (j_X3_lowerThan_66 (fun q0 q1 q2 q3 => q2) dN uU gF x1 x2 s c 1))
noncomputable def ex_X3_lowerThan_15 {R : Type} (po : Int32 -> R) (dN : Int32) (uU gF : Nat -> Int32) (x1 x2 c s : Int32) : R := po s
set_option maxHeartbeats 200000 in
set_option maxRecDepth 10000 in
theorem dl_X3_lowerThan_15 {P Q : Int32 -> Prop} {dN : Int32} {uU gF : Nat -> Int32} {x1 x2 a : Int32} {i : Nat} (hi0 : i < 2147483648) (hE : ∀ (c : Int32) (s : Int32), c = nI (i + (Int32.toInt dN - ((i : Nat) : Int)).toNat) -> s = itr (bd_X3_lowerThan_15 dN uU gF x1 x2) a i (Int32.toInt dN - ((i : Nat) : Int)).toNat -> (P s) -> (Q s)) : ∀ (n k : Nat) (c : Int32), c = nI (i + k) -> k <= (Int32.toInt dN - ((i : Nat) : Int)).toNat -> wb_X3_lowerThan_15 P dN uU gF n x1 x2 (itr (bd_X3_lowerThan_15 dN uU gF x1 x2) a i k) c -> wb_X3_lowerThan_15 Q dN uU gF n x1 x2 (itr (bd_X3_lowerThan_15 dN uU gF x1 x2) a i k) c := by
  intro n
  induction n with
  | zero => intro k c hc hk h; exact False.elim h
  | succ n ih =>
    intro k c hc hk h
    have hr := aAT dN
    have hi : Int32.toInt c = ((i + k : Nat) : Int) := by rw [hc]; exact nI_toInt (by omega)
    refine And.intro (fun t0 => ?_) (fun t0 => ?_)
    · have h := And.left h t0
      have t1 := (aAO _ _).mp t0
      have hk2 : k = (Int32.toInt dN - ((i : Nat) : Int)).toNat := by omega
      subst hk2
      exact hE _ _ hc rfl h
    · have h := And.right h t0
      have t1 := mt (aAO _ _).mpr t0
      have hs : ∀ o : Int32, o = itr (bd_X3_lowerThan_15 dN uU gF x1 x2) a i (k + 1) -> wb_X3_lowerThan_15 P dN uU gF n x1 x2 o (c + 1) -> wb_X3_lowerThan_15 Q dN uU gF n x1 x2 o (c + 1) := by
        intro o eo h9
        have q := ih (k + 1) (c + 1) (by rw [hc]; exact nI_1 _) (by omega)
        rw [<- eo] at q
        exact q h9
      rw [itr_s, <- hc, bd_X3_lowerThan_15] at hs
      refine And.intro (And.left h) ?_
      have h := And.right h
      refine ae ?_
      have h := h _ rfl
      refine And.intro (And.left h) ?_
      have h := And.right h
      refine ae ?_
      have h := h _ rfl
      refine ae ?_
      have h := h _ rfl
      refine And.intro (fun c1 => ?_) (fun c1 => ?_)
      · have h := And.left h c1
        rw [if_pos c1] at hs
        rw [j_X3_lowerThan_65] at hs
        unfold ws_X3_lowerThan_65 at h ⊢
        rw [j_X3_lowerThan_66] at hs
        unfold ws_X3_lowerThan_66 at h ⊢
        refine And.intro (fun c2 => ?_) (fun c2 => ?_)
        · have h := And.left h c2
          rw [if_pos c2] at hs
          rw [aYa] at hs
          unfold aPW at h ⊢
          refine ae ?_
          have h := h _ rfl
          have q9 := hs _ rfl
          exact q9 h
        · have h := And.right h c2
          rw [if_neg c2] at hs
          refine ae ?_
          have h := h _ rfl
          refine And.intro (fun c3 => ?_) (fun c3 => ?_)
          · have h := And.left h c3
            rw [if_pos c3] at hs
            rw [aYa] at hs
            unfold aPW at h ⊢
            refine ae ?_
            have h := h _ rfl
            have q9 := hs _ rfl
            exact q9 h
          · have h := And.right h c3
            rw [if_neg c3] at hs
            refine ae ?_
            have h := h _ rfl
            rw [aYa] at hs
            unfold aPW at h ⊢
            refine ae ?_
            have h := h _ rfl
            have q9 := hs _ rfl
            exact q9 h
      · have h := And.right h c1
        rw [if_neg c1] at hs
        refine And.intro (And.left h) ?_
        have h := And.right h
        refine ae ?_
        have h := h _ rfl
        refine And.intro (And.left h) ?_
        have h := And.right h
        refine And.intro (fun c4 => ?_) (fun c4 => ?_)
        · have h := And.left h c4
          rw [if_pos c4] at hs
          rw [j_X3_lowerThan_65] at hs
          unfold ws_X3_lowerThan_65 at h ⊢
          rw [j_X3_lowerThan_66] at hs
          unfold ws_X3_lowerThan_66 at h ⊢
          refine And.intro (fun c5 => ?_) (fun c5 => ?_)
          · have h := And.left h c5
            rw [if_pos c5] at hs
            rw [aYa] at hs
            unfold aPW at h ⊢
            refine ae ?_
            have h := h _ rfl
            have q9 := hs _ rfl
            exact q9 h
          · have h := And.right h c5
            rw [if_neg c5] at hs
            refine ae ?_
            have h := h _ rfl
            refine And.intro (fun c6 => ?_) (fun c6 => ?_)
            · have h := And.left h c6
              rw [if_pos c6] at hs
              rw [aYa] at hs
              unfold aPW at h ⊢
              refine ae ?_
              have h := h _ rfl
              have q9 := hs _ rfl
              exact q9 h
            · have h := And.right h c6
              rw [if_neg c6] at hs
              refine ae ?_
              have h := h _ rfl
              rw [aYa] at hs
              unfold aPW at h ⊢
              refine ae ?_
              have h := h _ rfl
              have q9 := hs _ rfl
              exact q9 h
        · have h := And.right h c4
          rw [if_neg c4] at hs
          rw [j_X3_lowerThan_66] at hs
          unfold ws_X3_lowerThan_66 at h ⊢
          refine And.intro (fun c7 => ?_) (fun c7 => ?_)
          · have h := And.left h c7
            rw [if_pos c7] at hs
            rw [aYa] at hs
            unfold aPW at h ⊢
            refine ae ?_
            have h := h _ rfl
            have q9 := hs _ rfl
            exact q9 h
          · have h := And.right h c7
            rw [if_neg c7] at hs
            refine ae ?_
            have h := h _ rfl
            refine And.intro (fun c8 => ?_) (fun c8 => ?_)
            · have h := And.left h c8
              rw [if_pos c8] at hs
              rw [aYa] at hs
              unfold aPW at h ⊢
              refine ae ?_
              have h := h _ rfl
              have q9 := hs _ rfl
              exact q9 h
            · have h := And.right h c8
              rw [if_neg c8] at hs
              refine ae ?_
              have h := h _ rfl
              rw [aYa] at hs
              unfold aPW at h ⊢
              refine ae ?_
              have h := h _ rfl
              have q9 := hs _ rfl
              exact q9 h
noncomputable def F_X3_lowerThan (p0 p1 dN : Int32) (uU gF : Nat -> Int32) : Int32 := if ((p1 >>> (p0 &&& 31)) &&& 1) = 0 then 0 else (ex_X3_lowerThan_15 (fun o0 => o0) dN uU gF p0 p1 (nI (0 + (Int32.toInt dN - ((0 : Nat) : Int)).toNat)) (itr (bd_X3_lowerThan_15 dN uU gF p0 p1) 0 0 (Int32.toInt dN - ((0 : Nat) : Int)).toNat))
set_option maxHeartbeats 200000 in
set_option maxRecDepth 10000 in
theorem dt_X3_lowerThan {P Q : Int32 -> Prop} {p0 p1 dN : Int32} {uU gF : Nat -> Int32} (h : bA6 P p0 p1 dN uU gF) (hq : ∀ o : Int32, o = F_X3_lowerThan p0 p1 dN uU gF -> P o -> Q o) : bA6 Q p0 p1 dN uU gF := by
  rw [F_X3_lowerThan] at hq
  refine ae ?_
  have h := h _ rfl
  refine And.intro (fun c1 => ?_) (fun c1 => ?_)
  · have h := And.left h c1
    rw [if_neg c1] at hq
    obtain ⟨n2, h⟩ := h
    refine ⟨n2, dl_X3_lowerThan_15 (a := 0) (i := 0) (by decide) ?_ n2 0 0 (by decide) (Nat.zero_le _) h⟩
    intro cc3 s4 ec5 es6 h
    rw [<- ec5, <- es6, ex_X3_lowerThan_15] at hq
    have q9 := hq _ rfl
    exact q9 h
  · have h := And.right h c1
    rw [if_pos c1] at hq
    have q9 := hq _ rfl
    exact q9 h
theorem du_X3_lowerThan {P Q : Int32 -> Prop} {p0 p1 dN : Int32} {uU gF : Nat -> Int32} (h : bA6 P p0 p1 dN uU gF) (hq : P (F_X3_lowerThan p0 p1 dN uU gF) -> Q (F_X3_lowerThan p0 p1 dN uU gF)) : bA6 Q p0 p1 dN uU gF := dt_X3_lowerThan h (fun o eo => by rw [eo]; exact hq)
noncomputable def F_X2_write (p1 jE eW eY dU fY gJ jG nU : Int32) (tD : Nat -> Int32) : (Nat -> Int32) := if p1 < 0 then tD else (if p1 <= (104 - 8) then (upd (upd (upd (upd (upd (upd (upd (upd tD p1.toNatClampNeg jE) (p1 + 1).toNatClampNeg eW) (p1 + 2).toNatClampNeg eY) (p1 + 3).toNatClampNeg dU) (p1 + 4).toNatClampNeg fY) (p1 + 5).toNatClampNeg gJ) (p1 + 6).toNatClampNeg jG) (p1 + 7).toNatClampNeg nU) else tD)
set_option maxHeartbeats 200000 in
set_option maxRecDepth 10000 in
theorem dt_X2_write {P Q : (Nat -> Int32) -> Prop} {p1 jE eW eY dU fY gJ jG nU : Int32} {tD : Nat -> Int32} (h : wp_X2_write P p1 jE eW eY dU fY gJ jG nU tD) (hq : ∀ o : (Nat -> Int32), o = F_X2_write p1 jE eW eY dU fY gJ jG nU tD -> P o -> Q o) : wp_X2_write Q p1 jE eW eY dU fY gJ jG nU tD := by
  rw [F_X2_write] at hq
  refine And.intro (fun c1 => ?_) (fun c1 => ?_)
  · have h := And.left h c1
    rw [if_pos c1] at hq
    have q9 := hq _ rfl
    exact q9 h
  · have h := And.right h c1
    rw [if_neg c1] at hq
    refine And.intro (fun c2 => ?_) (fun c2 => ?_)
    · have h := And.left h c2
      rw [if_pos c2] at hq
      refine And.intro (And.left h) ?_
      have h := And.right h
      refine ae ?_
      have h := h _ rfl
      refine And.intro (And.left h) ?_
      have h := And.right h
      refine ae ?_
      have h := h _ rfl
      refine And.intro (And.left h) ?_
      have h := And.right h
      refine ae ?_
      have h := h _ rfl
      refine And.intro (And.left h) ?_
      have h := And.right h
      refine ae ?_
      have h := h _ rfl
      refine And.intro (And.left h) ?_
      have h := And.right h
      refine ae ?_
      have h := h _ rfl
      refine And.intro (And.left h) ?_
      have h := And.right h
      refine ae ?_
      have h := h _ rfl
      refine And.intro (And.left h) ?_
      have h := And.right h
      refine ae ?_
      have h := h _ rfl
      refine And.intro (And.left h) ?_
      have h := And.right h
      have q9 := hq _ rfl
      exact q9 h
    · have h := And.right h c2
      rw [if_neg c2] at hq
      have q9 := hq _ rfl
      exact q9 h
theorem du_X2_write {P Q : (Nat -> Int32) -> Prop} {p1 jE eW eY dU fY gJ jG nU : Int32} {tD : Nat -> Int32} (h : wp_X2_write P p1 jE eW eY dU fY gJ jG nU tD) (hq : P (F_X2_write p1 jE eW eY dU fY gJ jG nU tD) -> Q (F_X2_write p1 jE eW eY dU fY gJ jG nU tD)) : wp_X2_write Q p1 jE eW eY dU fY gJ jG nU tD := dt_X2_write h (fun o eo => by rw [eo]; exact hq)
noncomputable def F_X4_note (jE eW eY dU fY gJ jG nU uM : Int32) (tD : Nat -> Int32) : (Nat -> Int32) := (F_X2_write (uM * 8) jE eW eY dU fY gJ jG nU tD)
set_option maxHeartbeats 200000 in
set_option maxRecDepth 10000 in
theorem dt_X4_note {P Q : (Nat -> Int32) -> Prop} {jE eW eY dU fY gJ jG nU uM : Int32} {tD : Nat -> Int32} (h : wp_X4_note P jE eW eY dU fY gJ jG nU uM tD) (hq : ∀ o : (Nat -> Int32), o = F_X4_note jE eW eY dU fY gJ jG nU uM tD -> P o -> Q o) : wp_X4_note Q jE eW eY dU fY gJ jG nU uM tD := by
  rw [F_X4_note] at hq
  refine ae ?_
  have h := h _ rfl
  refine du_X2_write h ?_
  intro h
  have q9 := hq _ rfl
  exact q9 h
theorem du_X4_note {P Q : (Nat -> Int32) -> Prop} {jE eW eY dU fY gJ jG nU uM : Int32} {tD : Nat -> Int32} (h : wp_X4_note P jE eW eY dU fY gJ jG nU uM tD) (hq : P (F_X4_note jE eW eY dU fY gJ jG nU uM tD) -> Q (F_X4_note jE eW eY dU fY gJ jG nU uM tD)) : wp_X4_note Q jE eW eY dU fY gJ jG nU uM tD := dt_X4_note h (fun o eo => by rw [eo]; exact hq)
noncomputable def F_X3_moveSeconds (p0 p1 : Int32) (mX dY : Nat -> Int32) : Int32 := if p0 = (-1) then 9 else (9 + ((dY (3 : Int32).toNatClampNeg) * (if 0 <= ((mX p0.toNatClampNeg) - (mX p1.toNatClampNeg)) then ((mX p0.toNatClampNeg) - (mX p1.toNatClampNeg)) else 0 - ((mX p0.toNatClampNeg) - (mX p1.toNatClampNeg)))))
set_option maxHeartbeats 200000 in
set_option maxRecDepth 10000 in
theorem dt_X3_moveSeconds {P Q : Int32 -> Prop} {p0 p1 : Int32} {mX dY : Nat -> Int32} (h : bBZ P p0 p1 mX dY) (hq : ∀ o : Int32, o = F_X3_moveSeconds p0 p1 mX dY -> P o -> Q o) : bBZ Q p0 p1 mX dY := by
  rw [F_X3_moveSeconds] at hq
  refine And.intro (fun c1 => ?_) (fun c1 => ?_)
  · have h := And.left h c1
    rw [if_neg c1] at hq
    refine ae ?_
    have h := h _ rfl
    refine And.intro (And.left h) ?_
    have h := And.right h
    refine ae ?_
    have h := h _ rfl
    refine And.intro (And.left h) ?_
    have h := And.right h
    refine ae ?_
    have h := h _ rfl
    refine ae ?_
    have h := h _ rfl
    have q9 := hq _ rfl
    exact q9 h
  · have h := And.right h c1
    rw [if_pos c1] at hq
    have q9 := hq _ rfl
    exact q9 h
theorem du_X3_moveSeconds {P Q : Int32 -> Prop} {p0 p1 : Int32} {mX dY : Nat -> Int32} (h : bBZ P p0 p1 mX dY) (hq : P (F_X3_moveSeconds p0 p1 mX dY) -> Q (F_X3_moveSeconds p0 p1 mX dY)) : bBZ Q p0 p1 mX dY := dt_X3_moveSeconds h (fun o eo => by rw [eo]; exact hq)
noncomputable def F_X2_emptyApron (jE eW : Int32) : Int32 × Int32 := (0, (eW ||| jE))
set_option maxHeartbeats 200000 in
set_option maxRecDepth 10000 in
theorem dt_X2_emptyApron {P Q : Int32 -> Int32 -> Prop} {jE eW : Int32} (h : wp_X2_emptyApron P jE eW) (hq : ∀ o : Int32 × Int32, o = F_X2_emptyApron jE eW -> P o.1 o.2 -> Q o.1 o.2) : wp_X2_emptyApron Q jE eW := by
  rw [F_X2_emptyApron] at hq
  refine ae ?_
  have h := h _ rfl
  have q9 := hq _ rfl
  dsimp only at q9
  exact q9 h
theorem du_X2_emptyApron {P Q : Int32 -> Int32 -> Prop} {jE eW : Int32} (h : wp_X2_emptyApron P jE eW) (hq : P (F_X2_emptyApron jE eW).1 (F_X2_emptyApron jE eW).2 -> Q (F_X2_emptyApron jE eW).1 (F_X2_emptyApron jE eW).2) : wp_X2_emptyApron Q jE eW := dt_X2_emptyApron h (fun o eo => by rw [eo]; exact hq)
noncomputable def F_X2_spend (p0 nU : Int32) : Int32 := (if (nU + p0) < 9999 then (nU + p0) else 9999)
set_option maxHeartbeats 200000 in
set_option maxRecDepth 10000 in
theorem dt_X2_spend {P Q : Int32 -> Prop} {p0 nU : Int32} (h : wp_X2_spend P p0 nU) (hq : ∀ o : Int32, o = F_X2_spend p0 nU -> P o -> Q o) : wp_X2_spend Q p0 nU := by
  rw [F_X2_spend] at hq
  refine ae ?_
  have h := h _ rfl
  refine ae ?_
  have h := h _ rfl
  have q9 := hq _ rfl
  exact q9 h
theorem du_X2_spend {P Q : Int32 -> Prop} {p0 nU : Int32} (h : wp_X2_spend P p0 nU) (hq : P (F_X2_spend p0 nU) -> Q (F_X2_spend p0 nU)) : wp_X2_spend Q p0 nU := dt_X2_spend h (fun o eo => by rw [eo]; exact hq)
noncomputable def j_X0_setLadder_81 {R : Type} (po : Int32 -> Int32 -> Int32 -> Int32 -> Int32 -> R) (bD : Int32) (mX oE dY : Nat -> Int32) (x1 x2 jE eW fY nU : Int32) : R := po x2 ((F_X2_emptyApron jE eW).1) ((F_X2_emptyApron jE eW).2) x1 (F_X2_spend x2 nU)
noncomputable def aJn (p0 bD : Int32) (mX oE dY : Nat -> Int32) (jE eW fY nU : Int32) : Int32 × Int32 × Int32 × Int32 × Int32 := if (aVU p0 bD) = 0 then ((-1), jE, eW, fY, nU) else (if p0 = fY then ((-2), jE, eW, fY, nU) else (if jE = 0 then (j_X0_setLadder_81 (fun o0 o1 o2 o3 o4 => (o0, o1, o2, o3, o4)) bD mX oE dY p0 (F_X3_moveSeconds fY p0 mX dY) jE eW fY nU) else (if fY = (-1) then (j_X0_setLadder_81 (fun o0 o1 o2 o3 o4 => (o0, o1, o2, o3, o4)) bD mX oE dY p0 (F_X3_moveSeconds fY p0 mX dY) jE eW fY nU) else (j_X0_setLadder_81 (fun o0 o1 o2 o3 o4 => (o0, o1, o2, o3, o4)) bD mX oE dY p0 ((F_X3_moveSeconds fY p0 mX dY) + (F_X3_downSeconds fY oE)) jE eW fY nU))))
set_option maxHeartbeats 200000 in
set_option maxRecDepth 10000 in
theorem dt_X0_setLadder {P Q : Int32 -> Int32 -> Int32 -> Int32 -> Int32 -> Prop} {p0 bD : Int32} {mX oE dY : Nat -> Int32} {jE eW fY nU : Int32} (h : wp_X0_setLadder P p0 bD mX oE dY jE eW fY nU) (hq : ∀ o : Int32 × Int32 × Int32 × Int32 × Int32, o = aJn p0 bD mX oE dY jE eW fY nU -> P o.1 o.2.1 o.2.2.1 o.2.2.2.1 o.2.2.2.2 -> Q o.1 o.2.1 o.2.2.1 o.2.2.2.1 o.2.2.2.2) : wp_X0_setLadder Q p0 bD mX oE dY jE eW fY nU := by
  rw [aJn] at hq
  refine du_X3_hasStanding h ?_
  intro h
  refine And.intro (fun c1 => ?_) (fun c1 => ?_)
  · have h := And.left h c1
    rw [if_neg c1] at hq
    refine And.intro (fun c2 => ?_) (fun c2 => ?_)
    · have h := And.left h c2
      rw [if_neg c2] at hq
      refine du_X3_moveSeconds h ?_
      intro h
      refine And.intro (fun c3 => ?_) (fun c3 => ?_)
      · have h := And.left h c3
        rw [if_pos c3] at hq
        rw [j_X0_setLadder_81] at hq
        unfold bBw at h ⊢
        refine du_X2_emptyApron h ?_
        intro h
        refine du_X2_spend h ?_
        intro h
        have q9 := hq _ rfl
        dsimp only at q9
        exact q9 h
      · have h := And.right h c3
        rw [if_neg c3] at hq
        refine And.intro (fun c4 => ?_) (fun c4 => ?_)
        · have h := And.left h c4
          rw [if_pos c4] at hq
          rw [j_X0_setLadder_81] at hq
          unfold bBw at h ⊢
          refine du_X2_emptyApron h ?_
          intro h
          refine du_X2_spend h ?_
          intro h
          have q9 := hq _ rfl
          dsimp only at q9
          exact q9 h
        · have h := And.right h c4
          rw [if_neg c4] at hq
          refine du_X3_downSeconds h ?_
          intro h
          refine ae ?_
          have h := h _ rfl
          rw [j_X0_setLadder_81] at hq
          unfold bBw at h ⊢
          refine du_X2_emptyApron h ?_
          intro h
          refine du_X2_spend h ?_
          intro h
          have q9 := hq _ rfl
          dsimp only at q9
          exact q9 h
    · have h := And.right h c2
      rw [if_pos c2] at hq
      have q9 := hq _ rfl
      dsimp only at q9
      exact q9 h
  · have h := And.right h c1
    rw [if_pos c1] at hq
    have q9 := hq _ rfl
    dsimp only at q9
    exact q9 h
theorem du_X0_setLadder {P Q : Int32 -> Int32 -> Int32 -> Int32 -> Int32 -> Prop} {p0 bD : Int32} {mX oE dY : Nat -> Int32} {jE eW fY nU : Int32} (h : wp_X0_setLadder P p0 bD mX oE dY jE eW fY nU) (hq : P (aJn p0 bD mX oE dY jE eW fY nU).1 (aJn p0 bD mX oE dY jE eW fY nU).2.1 (aJn p0 bD mX oE dY jE eW fY nU).2.2.1 (aJn p0 bD mX oE dY jE eW fY nU).2.2.2.1 (aJn p0 bD mX oE dY jE eW fY nU).2.2.2.2 -> Q (aJn p0 bD mX oE dY jE eW fY nU).1 (aJn p0 bD mX oE dY jE eW fY nU).2.1 (aJn p0 bD mX oE dY jE eW fY nU).2.2.1 (aJn p0 bD mX oE dY jE eW fY nU).2.2.2.1 (aJn p0 bD mX oE dY jE eW fY nU).2.2.2.2) : wp_X0_setLadder Q p0 bD mX oE dY jE eW fY nU := dt_X0_setLadder h (fun o eo => by rw [eo]; exact hq)
noncomputable def F_X4_hold (pR uM : Int32) : Int32 × Int32 := ((if (pR + 1) < 12 then (pR + 1) else 12), ((uM + 1) - (uM + 1) / 13 * 13))
set_option maxHeartbeats 200000 in
set_option maxRecDepth 10000 in
theorem dt_X4_hold {P Q : Int32 -> Int32 -> Prop} {pR uM : Int32} (h : wp_X4_hold P pR uM) (hq : ∀ o : Int32 × Int32, o = F_X4_hold pR uM -> P o.1 o.2 -> Q o.1 o.2) : wp_X4_hold Q pR uM := by
  rw [F_X4_hold] at hq
  refine ae ?_
  have h := h _ rfl
  refine ae ?_
  have h := h _ rfl
  refine ae ?_
  have h := h _ rfl
  refine ae ?_
  have h := h _ rfl
  have q9 := hq _ rfl
  dsimp only at q9
  exact q9 h
theorem du_X4_hold {P Q : Int32 -> Int32 -> Prop} {pR uM : Int32} (h : wp_X4_hold P pR uM) (hq : P (F_X4_hold pR uM).1 (F_X4_hold pR uM).2 -> Q (F_X4_hold pR uM).1 (F_X4_hold pR uM).2) : wp_X4_hold Q pR uM := dt_X4_hold h (fun o eo => by rw [eo]; exact hq)
noncomputable def aIP (p0 pR uM : Int32) : Int32 × Int32 × Int32 := if p0 < 0 then (p0, pR, uM) else (p0, (F_X4_hold pR uM).1, (F_X4_hold pR uM).2)
set_option maxHeartbeats 200000 in
set_option maxRecDepth 10000 in
theorem dt_X9_holdIfDone {P Q : Int32 -> Int32 -> Int32 -> Prop} {p0 pR uM : Int32} (h : aUb P p0 pR uM) (hq : ∀ o : Int32 × Int32 × Int32, o = aIP p0 pR uM -> P o.1 o.2.1 o.2.2 -> Q o.1 o.2.1 o.2.2) : aUb Q p0 pR uM := by
  rw [aIP] at hq
  refine And.intro (fun c1 => ?_) (fun c1 => ?_)
  · have h := And.left h c1
    rw [if_pos c1] at hq
    have q9 := hq _ rfl
    dsimp only at q9
    exact q9 h
  · have h := And.right h c1
    rw [if_neg c1] at hq
    refine du_X4_hold h ?_
    intro h
    have q9 := hq _ rfl
    dsimp only at q9
    exact q9 h
theorem du_X9_holdIfDone {P Q : Int32 -> Int32 -> Int32 -> Prop} {p0 pR uM : Int32} (h : aUb P p0 pR uM) (hq : P (aIP p0 pR uM).1 (aIP p0 pR uM).2.1 (aIP p0 pR uM).2.2 -> Q (aIP p0 pR uM).1 (aIP p0 pR uM).2.1 (aIP p0 pR uM).2.2) : aUb Q p0 pR uM := dt_X9_holdIfDone h (fun o eo => by rw [eo]; exact hq)
theorem dw_X9_holdIfDone {Q : Int32 -> Int32 -> Int32 -> Prop} {p0 pR uM : Int32} (h : aUb (fun o0 o1 o2 => (o0, o1, o2) = aIP p0 pR uM -> Q o0 o1 o2) p0 pR uM) : aUb Q p0 pR uM := dt_X9_holdIfDone h (fun o eo hp => hp eo)
noncomputable def F_X9_move (p0 bD : Int32) (mX oE dY : Nat -> Int32) (jE eW eY dU fY gJ jG nU pR uM : Int32) (tD : Nat -> Int32) : Int32 × Int32 × Int32 × Int32 × Int32 × Int32 × Int32 × (Nat -> Int32) := ((aIP (aJn p0 bD mX oE dY jE eW fY nU).1 pR uM).1, (aJn p0 bD mX oE dY jE eW fY nU).2.1, (aJn p0 bD mX oE dY jE eW fY nU).2.2.1, (aJn p0 bD mX oE dY jE eW fY nU).2.2.2.1, (aJn p0 bD mX oE dY jE eW fY nU).2.2.2.2, (aIP (aJn p0 bD mX oE dY jE eW fY nU).1 pR uM).2.1, (aIP (aJn p0 bD mX oE dY jE eW fY nU).1 pR uM).2.2, (F_X4_note jE eW eY dU fY gJ jG nU uM tD))
set_option maxHeartbeats 200000 in
set_option maxRecDepth 10000 in
theorem dt_X9_move {P Q : Int32 -> Int32 -> Int32 -> Int32 -> Int32 -> Int32 -> Int32 -> (Nat -> Int32) -> Prop} {p0 bD : Int32} {mX oE dY : Nat -> Int32} {jE eW eY dU fY gJ jG nU pR uM : Int32} {tD : Nat -> Int32} (h : wp_X9_move P p0 bD mX oE dY jE eW eY dU fY gJ jG nU pR uM tD) (hq : ∀ o : Int32 × Int32 × Int32 × Int32 × Int32 × Int32 × Int32 × (Nat -> Int32), o = F_X9_move p0 bD mX oE dY jE eW eY dU fY gJ jG nU pR uM tD -> P o.1 o.2.1 o.2.2.1 o.2.2.2.1 o.2.2.2.2.1 o.2.2.2.2.2.1 o.2.2.2.2.2.2.1 o.2.2.2.2.2.2.2 -> Q o.1 o.2.1 o.2.2.1 o.2.2.2.1 o.2.2.2.2.1 o.2.2.2.2.2.1 o.2.2.2.2.2.2.1 o.2.2.2.2.2.2.2) : wp_X9_move Q p0 bD mX oE dY jE eW eY dU fY gJ jG nU pR uM tD := by
  rw [F_X9_move] at hq
  refine du_X4_note h ?_
  intro h
  refine du_X0_setLadder h ?_
  intro h
  refine du_X9_holdIfDone h ?_
  intro h
  have q9 := hq _ rfl
  dsimp only at q9
  exact q9 h
theorem du_X9_move {P Q : Int32 -> Int32 -> Int32 -> Int32 -> Int32 -> Int32 -> Int32 -> (Nat -> Int32) -> Prop} {p0 bD : Int32} {mX oE dY : Nat -> Int32} {jE eW eY dU fY gJ jG nU pR uM : Int32} {tD : Nat -> Int32} (h : wp_X9_move P p0 bD mX oE dY jE eW eY dU fY gJ jG nU pR uM tD) (hq : P (F_X9_move p0 bD mX oE dY jE eW eY dU fY gJ jG nU pR uM tD).1 (F_X9_move p0 bD mX oE dY jE eW eY dU fY gJ jG nU pR uM tD).2.1 (F_X9_move p0 bD mX oE dY jE eW eY dU fY gJ jG nU pR uM tD).2.2.1 (F_X9_move p0 bD mX oE dY jE eW eY dU fY gJ jG nU pR uM tD).2.2.2.1 (F_X9_move p0 bD mX oE dY jE eW eY dU fY gJ jG nU pR uM tD).2.2.2.2.1 (F_X9_move p0 bD mX oE dY jE eW eY dU fY gJ jG nU pR uM tD).2.2.2.2.2.1 (F_X9_move p0 bD mX oE dY jE eW eY dU fY gJ jG nU pR uM tD).2.2.2.2.2.2.1 (F_X9_move p0 bD mX oE dY jE eW eY dU fY gJ jG nU pR uM tD).2.2.2.2.2.2.2 -> Q (F_X9_move p0 bD mX oE dY jE eW eY dU fY gJ jG nU pR uM tD).1 (F_X9_move p0 bD mX oE dY jE eW eY dU fY gJ jG nU pR uM tD).2.1 (F_X9_move p0 bD mX oE dY jE eW eY dU fY gJ jG nU pR uM tD).2.2.1 (F_X9_move p0 bD mX oE dY jE eW eY dU fY gJ jG nU pR uM tD).2.2.2.1 (F_X9_move p0 bD mX oE dY jE eW eY dU fY gJ jG nU pR uM tD).2.2.2.2.1 (F_X9_move p0 bD mX oE dY jE eW eY dU fY gJ jG nU pR uM tD).2.2.2.2.2.1 (F_X9_move p0 bD mX oE dY jE eW eY dU fY gJ jG nU pR uM tD).2.2.2.2.2.2.1 (F_X9_move p0 bD mX oE dY jE eW eY dU fY gJ jG nU pR uM tD).2.2.2.2.2.2.2) : wp_X9_move Q p0 bD mX oE dY jE eW eY dU fY gJ jG nU pR uM tD := dt_X9_move h (fun o eo => by rw [eo]; exact hq)
theorem dw_X9_move {Q : Int32 -> Int32 -> Int32 -> Int32 -> Int32 -> Int32 -> Int32 -> (Nat -> Int32) -> Prop} {p0 bD : Int32} {mX oE dY : Nat -> Int32} {jE eW eY dU fY gJ jG nU pR uM : Int32} {tD : Nat -> Int32} (h : wp_X9_move (fun o0 o1 o2 o3 o4 o5 o6 o7 => (o0, o1, o2, o3, o4, o5, o6, o7) = F_X9_move p0 bD mX oE dY jE eW eY dU fY gJ jG nU pR uM tD -> Q o0 o1 o2 o3 o4 o5 o6 o7) p0 bD mX oE dY jE eW eY dU fY gJ jG nU pR uM tD) : wp_X9_move Q p0 bD mX oE dY jE eW eY dU fY gJ jG nU pR uM tD := dt_X9_move h (fun o eo hp => hp eo)
noncomputable def j_X9_isYesOrNo_9 {R : Type} (po : Int32 -> R) : R := po 1
noncomputable def F_X9_isYesOrNo (p0 : Int32) : Int32 := if p0 = 0 then (j_X9_isYesOrNo_9 (fun o0 => o0)) else (if p0 = 1 then (j_X9_isYesOrNo_9 (fun o0 => o0)) else 0)
set_option maxHeartbeats 200000 in
set_option maxRecDepth 10000 in
theorem dt_X9_isYesOrNo {P Q : Int32 -> Prop} {p0 : Int32} (h : aY9 P p0) (hq : ∀ o : Int32, o = F_X9_isYesOrNo p0 -> P o -> Q o) : aY9 Q p0 := by
  rw [F_X9_isYesOrNo] at hq
  refine And.intro (fun c1 => ?_) (fun c1 => ?_)
  · have h := And.left h c1
    rw [if_pos c1] at hq
    rw [j_X9_isYesOrNo_9] at hq
    unfold ws_X9_isYesOrNo_9 at h ⊢
    have q9 := hq _ rfl
    exact q9 h
  · have h := And.right h c1
    rw [if_neg c1] at hq
    refine And.intro (fun c2 => ?_) (fun c2 => ?_)
    · have h := And.left h c2
      rw [if_neg c2] at hq
      have q9 := hq _ rfl
      exact q9 h
    · have h := And.right h c2
      rw [if_pos c2] at hq
      rw [j_X9_isYesOrNo_9] at hq
      unfold ws_X9_isYesOrNo_9 at h ⊢
      have q9 := hq _ rfl
      exact q9 h
theorem du_X9_isYesOrNo {P Q : Int32 -> Prop} {p0 : Int32} (h : aY9 P p0) (hq : P (F_X9_isYesOrNo p0) -> Q (F_X9_isYesOrNo p0)) : aY9 Q p0 := dt_X9_isYesOrNo h (fun o eo => by rw [eo]; exact hq)
theorem dw_X9_isYesOrNo {Q : Int32 -> Prop} {p0 : Int32} (h : aY9 (fun o0 => o0 = F_X9_isYesOrNo p0 -> Q o0) p0) : aY9 Q p0 := dt_X9_isYesOrNo h (fun o eo hp => hp eo)
noncomputable def bBa (p0 gJ : Int32) : Int32 × Int32 := if (F_X9_isYesOrNo p0) = 0 then ((-1), gJ) else (gJ, p0)
set_option maxHeartbeats 200000 in
set_option maxRecDepth 10000 in
theorem dt_X0_setHelper {P Q : Int32 -> Int32 -> Prop} {p0 gJ : Int32} (h : wp_X0_setHelper P p0 gJ) (hq : ∀ o : Int32 × Int32, o = bBa p0 gJ -> P o.1 o.2 -> Q o.1 o.2) : wp_X0_setHelper Q p0 gJ := by
  rw [bBa] at hq
  refine du_X9_isYesOrNo h ?_
  intro h
  refine And.intro (fun c1 => ?_) (fun c1 => ?_)
  · have h := And.left h c1
    rw [if_neg c1] at hq
    have q9 := hq _ rfl
    dsimp only at q9
    exact q9 h
  · have h := And.right h c1
    rw [if_pos c1] at hq
    have q9 := hq _ rfl
    dsimp only at q9
    exact q9 h
theorem du_X0_setHelper {P Q : Int32 -> Int32 -> Prop} {p0 gJ : Int32} (h : wp_X0_setHelper P p0 gJ) (hq : P (bBa p0 gJ).1 (bBa p0 gJ).2 -> Q (bBa p0 gJ).1 (bBa p0 gJ).2) : wp_X0_setHelper Q p0 gJ := dt_X0_setHelper h (fun o eo => by rw [eo]; exact hq)
noncomputable def F_X9_foot (p0 jE eW eY dU fY gJ jG nU pR uM : Int32) (tD : Nat -> Int32) : Int32 × Int32 × Int32 × Int32 × (Nat -> Int32) := ((aIP (bBa p0 gJ).1 pR uM).1, (bBa p0 gJ).2, (aIP (bBa p0 gJ).1 pR uM).2.1, (aIP (bBa p0 gJ).1 pR uM).2.2, (F_X4_note jE eW eY dU fY gJ jG nU uM tD))
set_option maxHeartbeats 200000 in
set_option maxRecDepth 10000 in
theorem dt_X9_foot {P Q : Int32 -> Int32 -> Int32 -> Int32 -> (Nat -> Int32) -> Prop} {p0 jE eW eY dU fY gJ jG nU pR uM : Int32} {tD : Nat -> Int32} (h : wp_X9_foot P p0 jE eW eY dU fY gJ jG nU pR uM tD) (hq : ∀ o : Int32 × Int32 × Int32 × Int32 × (Nat -> Int32), o = F_X9_foot p0 jE eW eY dU fY gJ jG nU pR uM tD -> P o.1 o.2.1 o.2.2.1 o.2.2.2.1 o.2.2.2.2 -> Q o.1 o.2.1 o.2.2.1 o.2.2.2.1 o.2.2.2.2) : wp_X9_foot Q p0 jE eW eY dU fY gJ jG nU pR uM tD := by
  rw [F_X9_foot] at hq
  refine du_X4_note h ?_
  intro h
  refine du_X0_setHelper h ?_
  intro h
  refine du_X9_holdIfDone h ?_
  intro h
  have q9 := hq _ rfl
  dsimp only at q9
  exact q9 h
theorem du_X9_foot {P Q : Int32 -> Int32 -> Int32 -> Int32 -> (Nat -> Int32) -> Prop} {p0 jE eW eY dU fY gJ jG nU pR uM : Int32} {tD : Nat -> Int32} (h : wp_X9_foot P p0 jE eW eY dU fY gJ jG nU pR uM tD) (hq : P (F_X9_foot p0 jE eW eY dU fY gJ jG nU pR uM tD).1 (F_X9_foot p0 jE eW eY dU fY gJ jG nU pR uM tD).2.1 (F_X9_foot p0 jE eW eY dU fY gJ jG nU pR uM tD).2.2.1 (F_X9_foot p0 jE eW eY dU fY gJ jG nU pR uM tD).2.2.2.1 (F_X9_foot p0 jE eW eY dU fY gJ jG nU pR uM tD).2.2.2.2 -> Q (F_X9_foot p0 jE eW eY dU fY gJ jG nU pR uM tD).1 (F_X9_foot p0 jE eW eY dU fY gJ jG nU pR uM tD).2.1 (F_X9_foot p0 jE eW eY dU fY gJ jG nU pR uM tD).2.2.1 (F_X9_foot p0 jE eW eY dU fY gJ jG nU pR uM tD).2.2.2.1 (F_X9_foot p0 jE eW eY dU fY gJ jG nU pR uM tD).2.2.2.2) : wp_X9_foot Q p0 jE eW eY dU fY gJ jG nU pR uM tD := dt_X9_foot h (fun o eo => by rw [eo]; exact hq)
theorem dw_X9_foot {Q : Int32 -> Int32 -> Int32 -> Int32 -> (Nat -> Int32) -> Prop} {p0 jE eW eY dU fY gJ jG nU pR uM : Int32} {tD : Nat -> Int32} (h : wp_X9_foot (fun o0 o1 o2 o3 o4 => (o0, o1, o2, o3, o4) = F_X9_foot p0 jE eW eY dU fY gJ jG nU pR uM tD -> Q o0 o1 o2 o3 o4) p0 jE eW eY dU fY gJ jG nU pR uM tD) : wp_X9_foot Q p0 jE eW eY dU fY gJ jG nU pR uM tD := dt_X9_foot h (fun o eo hp => hp eo)
noncomputable def aLS (p0 : Int32) : Int32 := ((((((((p0 - (((p0.toUInt32 >>> ((1 : Int32).toUInt32 &&& Int32.toUInt32 31)).toInt32) &&& 1431655765)) &&& 858993459) + ((((p0 - (((p0.toUInt32 >>> ((1 : Int32).toUInt32 &&& Int32.toUInt32 31)).toInt32) &&& 1431655765)).toUInt32 >>> ((2 : Int32).toUInt32 &&& Int32.toUInt32 31)).toInt32) &&& 858993459)) + (((((p0 - (((p0.toUInt32 >>> ((1 : Int32).toUInt32 &&& Int32.toUInt32 31)).toInt32) &&& 1431655765)) &&& 858993459) + ((((p0 - (((p0.toUInt32 >>> ((1 : Int32).toUInt32 &&& Int32.toUInt32 31)).toInt32) &&& 1431655765)).toUInt32 >>> ((2 : Int32).toUInt32 &&& Int32.toUInt32 31)).toInt32) &&& 858993459)).toUInt32 >>> ((4 : Int32).toUInt32 &&& Int32.toUInt32 31)).toInt32)) &&& 252645135) + (((((((p0 - (((p0.toUInt32 >>> ((1 : Int32).toUInt32 &&& Int32.toUInt32 31)).toInt32) &&& 1431655765)) &&& 858993459) + ((((p0 - (((p0.toUInt32 >>> ((1 : Int32).toUInt32 &&& Int32.toUInt32 31)).toInt32) &&& 1431655765)).toUInt32 >>> ((2 : Int32).toUInt32 &&& Int32.toUInt32 31)).toInt32) &&& 858993459)) + (((((p0 - (((p0.toUInt32 >>> ((1 : Int32).toUInt32 &&& Int32.toUInt32 31)).toInt32) &&& 1431655765)) &&& 858993459) + ((((p0 - (((p0.toUInt32 >>> ((1 : Int32).toUInt32 &&& Int32.toUInt32 31)).toInt32) &&& 1431655765)).toUInt32 >>> ((2 : Int32).toUInt32 &&& Int32.toUInt32 31)).toInt32) &&& 858993459)).toUInt32 >>> ((4 : Int32).toUInt32 &&& Int32.toUInt32 31)).toInt32)) &&& 252645135).toUInt32 >>> ((8 : Int32).toUInt32 &&& Int32.toUInt32 31)).toInt32)) + ((((((((p0 - (((p0.toUInt32 >>> ((1 : Int32).toUInt32 &&& Int32.toUInt32 31)).toInt32) &&& 1431655765)) &&& 858993459) + ((((p0 - (((p0.toUInt32 >>> ((1 : Int32).toUInt32 &&& Int32.toUInt32 31)).toInt32) &&& 1431655765)).toUInt32 >>> ((2 : Int32).toUInt32 &&& Int32.toUInt32 31)).toInt32) &&& 858993459)) + (((((p0 - (((p0.toUInt32 >>> ((1 : Int32).toUInt32 &&& Int32.toUInt32 31)).toInt32) &&& 1431655765)) &&& 858993459) + ((((p0 - (((p0.toUInt32 >>> ((1 : Int32).toUInt32 &&& Int32.toUInt32 31)).toInt32) &&& 1431655765)).toUInt32 >>> ((2 : Int32).toUInt32 &&& Int32.toUInt32 31)).toInt32) &&& 858993459)).toUInt32 >>> ((4 : Int32).toUInt32 &&& Int32.toUInt32 31)).toInt32)) &&& 252645135) + (((((((p0 - (((p0.toUInt32 >>> ((1 : Int32).toUInt32 &&& Int32.toUInt32 31)).toInt32) &&& 1431655765)) &&& 858993459) + ((((p0 - (((p0.toUInt32 >>> ((1 : Int32).toUInt32 &&& Int32.toUInt32 31)).toInt32) &&& 1431655765)).toUInt32 >>> ((2 : Int32).toUInt32 &&& Int32.toUInt32 31)).toInt32) &&& 858993459)) + (((((p0 - (((p0.toUInt32 >>> ((1 : Int32).toUInt32 &&& Int32.toUInt32 31)).toInt32) &&& 1431655765)) &&& 858993459) + ((((p0 - (((p0.toUInt32 >>> ((1 : Int32).toUInt32 &&& Int32.toUInt32 31)).toInt32) &&& 1431655765)).toUInt32 >>> ((2 : Int32).toUInt32 &&& Int32.toUInt32 31)).toInt32) &&& 858993459)).toUInt32 >>> ((4 : Int32).toUInt32 &&& Int32.toUInt32 31)).toInt32)) &&& 252645135).toUInt32 >>> ((8 : Int32).toUInt32 &&& Int32.toUInt32 31)).toInt32)).toUInt32 >>> ((16 : Int32).toUInt32 &&& Int32.toUInt32 31)).toInt32)) &&& 63)
set_option maxHeartbeats 200000 in
set_option maxRecDepth 10000 in
theorem dt_J6_bitCount_0f7a4 {P Q : Int32 -> Prop} {p0 : Int32} (h : aBb P p0) (hq : ∀ o : Int32, o = aLS p0 -> P o -> Q o) : aBb Q p0 := by
  rw [aLS] at hq
  refine ae ?_
  have h := h _ rfl
  refine ae ?_
  have h := h _ rfl
  refine ae ?_
  have h := h _ rfl
  refine ae ?_
  have h := h _ rfl
  refine ae ?_
  have h := h _ rfl
  refine ae ?_
  have h := h _ rfl
  refine ae ?_
  have h := h _ rfl
  refine ae ?_
  have h := h _ rfl
  refine ae ?_
  have h := h _ rfl
  have q9 := hq _ rfl
  exact q9 h
theorem du_J6_bitCount_0f7a4 {P Q : Int32 -> Prop} {p0 : Int32} (h : aBb P p0) (hq : P (aLS p0) -> Q (aLS p0)) : aBb Q p0 := dt_J6_bitCount_0f7a4 h (fun o eo => by rw [eo]; exact hq)
theorem bc_r (x : Int32) : 0 <= Int32.toInt (aLS x) /\ Int32.toInt (aLS x) <= 63 := by
  have l : Int32.toInt (63 : Int32) = 63 := by decide
  rw [aLS]
  have h := fun y => aAQ y 63 (by decide)
  rw [l] at h
  exact h _
theorem bc63 (x : Int32) : (((Int32.toInt (aLS x)).toNat : Nat) : Int) < ((64 : Nat) : Int) := by
  have h := bc_r x
  omega
noncomputable def j_X3_worthOf_54 {R : Type} (k5 : Int32 -> Int32 -> Int32 -> Int32 -> R) (dN : Int32) (pL : Nat -> Int32) (x1 x2 x3 x4 : Int32) : R := k5 x1 x2 x3 (x4 + 1)
noncomputable def j_X3_worthOf_52 {R : Type} (k5 : Int32 -> Int32 -> Int32 -> Int32 -> R) (dN : Int32) (pL : Nat -> Int32) (x1 x2 x4 k0 k1 : Int32) : R := j_X3_worthOf_54 k5 dN pL x1 x2 (k0 + k1) x4
noncomputable def bd_X3_worthOf_5 (dN : Int32) (pL : Nat -> Int32) (x1 x2 c s : Int32) : Int32 := if ((x1 >>> (c &&& 31)) &&& 1) = 0 then (j_X3_worthOf_54 (fun q0 q1 q2 q3 => q2) dN pL x1 x2 s c) else (if ((x2 >>> (c &&& 31)) &&& 1) = 0 then (j_X3_worthOf_52 (fun q0 q1 q2 q3 => q2) dN pL x1 x2 c s (pL c.toNatClampNeg)) else (j_X3_worthOf_52 (fun q0 q1 q2 q3 => q2) dN pL x1 x2 c s ((pL c.toNatClampNeg) / 2)))
noncomputable def ex_X3_worthOf_5 {R : Type} (po : Int32 -> R) (dN : Int32) (pL : Nat -> Int32) (x1 x2 c s : Int32) : R := po s
set_option maxHeartbeats 200000 in
set_option maxRecDepth 10000 in
theorem dl_X3_worthOf_5 {P Q : Int32 -> Prop} {dN : Int32} {pL : Nat -> Int32} {x1 x2 a : Int32} {i : Nat} (hi0 : i < 2147483648) (hE : ∀ (c : Int32) (s : Int32), c = nI (i + (Int32.toInt dN - ((i : Nat) : Int)).toNat) -> s = itr (bd_X3_worthOf_5 dN pL x1 x2) a i (Int32.toInt dN - ((i : Nat) : Int)).toNat -> (P s) -> (Q s)) : ∀ (n k : Nat) (c : Int32), c = nI (i + k) -> k <= (Int32.toInt dN - ((i : Nat) : Int)).toNat -> wb_X3_worthOf_5 P dN pL n x1 x2 (itr (bd_X3_worthOf_5 dN pL x1 x2) a i k) c -> wb_X3_worthOf_5 Q dN pL n x1 x2 (itr (bd_X3_worthOf_5 dN pL x1 x2) a i k) c := by
  intro n
  induction n with
  | zero => intro k c hc hk h; exact False.elim h
  | succ n ih =>
    intro k c hc hk h
    have hr := aAT dN
    have hi : Int32.toInt c = ((i + k : Nat) : Int) := by rw [hc]; exact nI_toInt (by omega)
    refine And.intro (fun t0 => ?_) (fun t0 => ?_)
    · have h := And.left h t0
      have t1 := (aAO _ _).mp t0
      have hk2 : k = (Int32.toInt dN - ((i : Nat) : Int)).toNat := by omega
      subst hk2
      exact hE _ _ hc rfl h
    · have h := And.right h t0
      have t1 := mt (aAO _ _).mpr t0
      have hs : ∀ o : Int32, o = itr (bd_X3_worthOf_5 dN pL x1 x2) a i (k + 1) -> wb_X3_worthOf_5 P dN pL n x1 x2 o (c + 1) -> wb_X3_worthOf_5 Q dN pL n x1 x2 o (c + 1) := by
        intro o eo h9
        have q := ih (k + 1) (c + 1) (by rw [hc]; exact nI_1 _) (by omega)
        rw [<- eo] at q
        exact q h9
      rw [itr_s, <- hc, bd_X3_worthOf_5] at hs
      refine ae ?_
      have h := h _ rfl
      refine And.intro (fun c1 => ?_) (fun c1 => ?_)
      · have h := And.left h c1
        rw [if_pos c1] at hs
        rw [j_X3_worthOf_54] at hs
        unfold ws_X3_worthOf_54 at h ⊢
        refine ae ?_
        have h := h _ rfl
        have q9 := hs _ rfl
        exact q9 h
      · have h := And.right h c1
        rw [if_neg c1] at hs
        refine ae ?_
        have h := h _ rfl
        refine And.intro (fun c2 => ?_) (fun c2 => ?_)
        · have h := And.left h c2
          rw [if_pos c2] at hs
          refine And.intro (And.left h) ?_
          have h := And.right h
          refine ae ?_
          have h := h _ rfl
          rw [j_X3_worthOf_52] at hs
          unfold ws_X3_worthOf_52 at h ⊢
          refine ae ?_
          have h := h _ rfl
          rw [j_X3_worthOf_54] at hs
          unfold ws_X3_worthOf_54 at h ⊢
          refine ae ?_
          have h := h _ rfl
          have q9 := hs _ rfl
          exact q9 h
        · have h := And.right h c2
          rw [if_neg c2] at hs
          refine And.intro (And.left h) ?_
          have h := And.right h
          refine ae ?_
          have h := h _ rfl
          refine ae ?_
          have h := h _ rfl
          rw [j_X3_worthOf_52] at hs
          unfold ws_X3_worthOf_52 at h ⊢
          refine ae ?_
          have h := h _ rfl
          rw [j_X3_worthOf_54] at hs
          unfold ws_X3_worthOf_54 at h ⊢
          refine ae ?_
          have h := h _ rfl
          have q9 := hs _ rfl
          exact q9 h
noncomputable def F_X3_worthOf (p0 p1 dN : Int32) (pL : Nat -> Int32) : Int32 := ex_X3_worthOf_5 (fun o0 => o0) dN pL p0 p1 (nI (0 + (Int32.toInt dN - ((0 : Nat) : Int)).toNat)) (itr (bd_X3_worthOf_5 dN pL p0 p1) 0 0 (Int32.toInt dN - ((0 : Nat) : Int)).toNat)
set_option maxHeartbeats 200000 in
set_option maxRecDepth 10000 in
theorem dt_X3_worthOf {P Q : Int32 -> Prop} {p0 p1 dN : Int32} {pL : Nat -> Int32} (h : wp_X3_worthOf P p0 p1 dN pL) (hq : ∀ o : Int32, o = F_X3_worthOf p0 p1 dN pL -> P o -> Q o) : wp_X3_worthOf Q p0 p1 dN pL := by
  rw [F_X3_worthOf] at hq
  obtain ⟨n1, h⟩ := h
  refine ⟨n1, dl_X3_worthOf_5 (a := 0) (i := 0) (by decide) ?_ n1 0 0 (by decide) (Nat.zero_le _) h⟩
  intro cc2 s3 ec4 es5 h
  rw [<- ec4, <- es5, ex_X3_worthOf_5] at hq
  have q9 := hq _ rfl
  exact q9 h
theorem du_X3_worthOf {P Q : Int32 -> Prop} {p0 p1 dN : Int32} {pL : Nat -> Int32} (h : wp_X3_worthOf P p0 p1 dN pL) (hq : P (F_X3_worthOf p0 p1 dN pL) -> Q (F_X3_worthOf p0 p1 dN pL)) : wp_X3_worthOf Q p0 p1 dN pL := dt_X3_worthOf h (fun o eo => by rw [eo]; exact hq)
noncomputable def F_X0_worthOf (p0 dN : Int32) (pL : Nat -> Int32) (dU : Int32) : Int32 := (F_X3_worthOf p0 dU dN pL)
set_option maxHeartbeats 200000 in
set_option maxRecDepth 10000 in
theorem dt_X0_worthOf {P Q : Int32 -> Prop} {p0 dN : Int32} {pL : Nat -> Int32} {dU : Int32} (h : aVC P p0 dN pL dU) (hq : ∀ o : Int32, o = F_X0_worthOf p0 dN pL dU -> P o -> Q o) : aVC Q p0 dN pL dU := by
  rw [F_X0_worthOf] at hq
  refine du_X3_worthOf h ?_
  intro h
  have q9 := hq _ rfl
  exact q9 h
theorem du_X0_worthOf {P Q : Int32 -> Prop} {p0 dN : Int32} {pL : Nat -> Int32} {dU : Int32} (h : aVC P p0 dN pL dU) (hq : P (F_X0_worthOf p0 dN pL dU) -> Q (F_X0_worthOf p0 dN pL dU)) : aVC Q p0 dN pL dU := dt_X0_worthOf h (fun o eo => by rw [eo]; exact hq)
noncomputable def F_X7_join (p0 p1 p2 : Int32) : Int32 := if p0 = 42 then (p1 * p2) else (if p0 = 43 then (p1 + p2) else (if p0 = 45 then (p1 - p2) else (if p0 = 60 then (if p2 <= p1 then 0 else 1) else (if p0 = 61 then (if p1 = p2 then 1 else 0) else (if p0 = 62 then (if p1 <= p2 then 0 else 1) else (if p2 = 0 then 0 else (p1 / p2)))))))
set_option maxHeartbeats 200000 in
set_option maxRecDepth 10000 in
theorem dt_X7_join {P Q : Int32 -> Prop} {p0 p1 p2 : Int32} (h : wp_X7_join P p0 p1 p2) (hq : ∀ o : Int32, o = F_X7_join p0 p1 p2 -> P o -> Q o) : wp_X7_join Q p0 p1 p2 := by
  rw [F_X7_join] at hq
  refine (And.intro (fun c1 => ?_) (And.intro (fun c2 => ?_) (And.intro (fun c3 => ?_) (And.intro (fun c4 => ?_) (And.intro (fun c5 => ?_) (And.intro (fun c6 => ?_) (fun c1 c2 c3 c4 c5 c6 => ?_)))))))
  · have h := And.left h c1
    rw [if_pos c1] at hq
    have q9 := hq _ rfl
    exact q9 h
  · have h := And.left (And.right h) c2
    rw [if_neg (fun e9 => absurd (e9.symm.trans c2) (by decide)), if_pos c2] at hq
    have q9 := hq _ rfl
    exact q9 h
  · have h := And.left (And.right (And.right h)) c3
    rw [if_neg (fun e9 => absurd (e9.symm.trans c3) (by decide)), if_neg (fun e9 => absurd (e9.symm.trans c3) (by decide)), if_pos c3] at hq
    have q9 := hq _ rfl
    exact q9 h
  · have h := And.left (And.right (And.right (And.right h))) c4
    rw [if_neg (fun e9 => absurd (e9.symm.trans c4) (by decide)), if_neg (fun e9 => absurd (e9.symm.trans c4) (by decide)), if_neg (fun e9 => absurd (e9.symm.trans c4) (by decide)), if_pos c4] at hq
    refine And.intro (fun c7 => ?_) (fun c7 => ?_)
    · have h := And.left h c7
      rw [if_pos c7] at hq
      have q9 := hq _ rfl
      exact q9 h
    · have h := And.right h c7
      rw [if_neg c7] at hq
      have q9 := hq _ rfl
      exact q9 h
  · have h := And.left (And.right (And.right (And.right (And.right h)))) c5
    rw [if_neg (fun e9 => absurd (e9.symm.trans c5) (by decide)), if_neg (fun e9 => absurd (e9.symm.trans c5) (by decide)), if_neg (fun e9 => absurd (e9.symm.trans c5) (by decide)), if_neg (fun e9 => absurd (e9.symm.trans c5) (by decide)), if_pos c5] at hq
    refine And.intro (fun c8 => ?_) (fun c8 => ?_)
    · have h := And.left h c8
      rw [if_neg c8] at hq
      have q9 := hq _ rfl
      exact q9 h
    · have h := And.right h c8
      rw [if_pos c8] at hq
      have q9 := hq _ rfl
      exact q9 h
  · have h := And.left (And.right (And.right (And.right (And.right (And.right h))))) c6
    rw [if_neg (fun e9 => absurd (e9.symm.trans c6) (by decide)), if_neg (fun e9 => absurd (e9.symm.trans c6) (by decide)), if_neg (fun e9 => absurd (e9.symm.trans c6) (by decide)), if_neg (fun e9 => absurd (e9.symm.trans c6) (by decide)), if_neg (fun e9 => absurd (e9.symm.trans c6) (by decide)), if_pos c6] at hq
    refine And.intro (fun c9 => ?_) (fun c9 => ?_)
    · have h := And.left h c9
      rw [if_pos c9] at hq
      have q9 := hq _ rfl
      exact q9 h
    · have h := And.right h c9
      rw [if_neg c9] at hq
      have q9 := hq _ rfl
      exact q9 h
  · have h := And.right (And.right (And.right (And.right (And.right (And.right h))))) c1 c2 c3 c4 c5 c6
    rw [if_neg c1, if_neg c2, if_neg c3, if_neg c4, if_neg c5, if_neg c6] at hq
    refine And.intro (fun c10 => ?_) (fun c10 => ?_)
    · have h := And.left h c10
      rw [if_neg c10] at hq
      refine And.intro (And.left h) ?_
      have h := And.right h
      have q9 := hq _ rfl
      exact q9 h
    · have h := And.right h c10
      rw [if_pos c10] at hq
      have q9 := hq _ rfl
      exact q9 h
theorem du_X7_join {P Q : Int32 -> Prop} {p0 p1 p2 : Int32} (h : wp_X7_join P p0 p1 p2) (hq : P (F_X7_join p0 p1 p2) -> Q (F_X7_join p0 p1 p2)) : wp_X7_join Q p0 p1 p2 := dt_X7_join h (fun o eo => by rw [eo]; exact hq)
noncomputable def F_X7_meant (p0 : Int32) (qY : Nat -> Int32) : Int32 := if (p0 - 1000) < 0 then p0 else (if 7 <= (p0 - 1000) then p0 else (qY (p0 - 1000).toNatClampNeg))
set_option maxHeartbeats 200000 in
set_option maxRecDepth 10000 in
theorem dt_X7_meant {P Q : Int32 -> Prop} {p0 : Int32} {qY : Nat -> Int32} (h : wp_X7_meant P p0 qY) (hq : ∀ o : Int32, o = F_X7_meant p0 qY -> P o -> Q o) : wp_X7_meant Q p0 qY := by
  rw [F_X7_meant] at hq
  refine ae ?_
  have h := h _ rfl
  refine And.intro (fun c1 => ?_) (fun c1 => ?_)
  · have h := And.left h c1
    rw [if_pos c1] at hq
    have q9 := hq _ rfl
    exact q9 h
  · have h := And.right h c1
    rw [if_neg c1] at hq
    refine And.intro (fun c2 => ?_) (fun c2 => ?_)
    · have h := And.left h c2
      rw [if_pos c2] at hq
      have q9 := hq _ rfl
      exact q9 h
    · have h := And.right h c2
      rw [if_neg c2] at hq
      refine And.intro (And.left h) ?_
      have h := And.right h
      refine ae ?_
      have h := h _ rfl
      have q9 := hq _ rfl
      exact q9 h
theorem du_X7_meant {P Q : Int32 -> Prop} {p0 : Int32} {qY : Nat -> Int32} (h : wp_X7_meant P p0 qY) (hq : P (F_X7_meant p0 qY) -> Q (F_X7_meant p0 qY)) : wp_X7_meant Q p0 qY := dt_X7_meant h (fun o eo => by rw [eo]; exact hq)
noncomputable def j_X7_reckon_136 {R : Type} (po : Int32 -> (Nat -> Int32) -> R) (pQ : Int32) (qY pN : Nat -> Int32) (x1 : Int32) (qU : Nat -> Int32) : R := if x1 <= 0 then (po 0 qU) else (po (qU (x1 - 1).toNatClampNeg) qU)
noncomputable def j_X7_reckon_130 {R : Type} (k4 : Int32 -> Int32 -> (Nat -> Int32) -> R) (pQ : Int32) (qY pN : Nat -> Int32) (x1 x2 : Int32) (qU : Nat -> Int32) : R := k4 x1 (x2 + 1) qU
noncomputable def fs_X7_reckon_4 {R : Type} (po : Int32 -> (Nat -> Int32) -> R) (pQ : Int32) (qY pN : Nat -> Int32) (nx : Int32 -> Int32 -> (Nat -> Int32) -> R) (x1 x2 : Int32) (qU : Nat -> Int32) : R := if pQ <= x2 then (j_X7_reckon_136 po pQ qY pN x1 qU) else (if 40 <= x2 then (j_X7_reckon_136 po pQ qY pN x1 qU) else (if 2000 <= (pN x2.toNatClampNeg) then (if (pN x2.toNatClampNeg) = 2256 then (if x1 <= 0 then (j_X7_reckon_130 nx pQ qY pN x1 x2 qU) else (j_X7_reckon_130 nx pQ qY pN x1 x2 (upd qU (x1 - 1).toNatClampNeg (-(qU (x1 - 1).toNatClampNeg))))) else (if x1 <= 1 then (j_X7_reckon_130 nx pQ qY pN x1 x2 qU) else (j_X7_reckon_130 nx pQ qY pN (x1 + (-1)) x2 (upd qU ((x1 + (-1)) - 1).toNatClampNeg (F_X7_join ((pN x2.toNatClampNeg) - 2000) (qU ((x1 + (-1)) - 1).toNatClampNeg) (qU (x1 + (-1)).toNatClampNeg)))))) else (if 40 <= x1 then (j_X7_reckon_130 nx pQ qY pN x1 x2 qU) else (j_X7_reckon_130 nx pQ qY pN (x1 + 1) x2 (upd qU x1.toNatClampNeg (F_X7_meant (pN x2.toNatClampNeg) qY))))))
set_option maxHeartbeats 200000 in
set_option maxRecDepth 10000 in
theorem dl_X7_reckon_4 {P Q : Int32 -> (Nat -> Int32) -> Prop} {pQ : Int32} {qY pN : Nat -> Int32} {R : Type} {po : Int32 -> (Nat -> Int32) -> R} {d : Int32 -> Int32 -> (Nat -> Int32) -> R} : ∀ (n m : Nat) (x1 x2 : Int32) (qU : Nat -> Int32), 0 <= Int32.toInt x2 /\ Int32.toInt x2 <= 40 -> 40 - Int32.toInt x2 < (m : Int) -> wb_X7_reckon_4 P pQ qY pN n x1 x2 qU -> (∀ (b0 : Int32) (b1 : Nat -> Int32), po b0 b1 = flp (fs_X7_reckon_4 po pQ qY pN) d m x1 x2 qU -> P b0 b1 -> Q b0 b1) -> wb_X7_reckon_4 Q pQ qY pN n x1 x2 qU := by
  have l1 : Int32.toInt (1 : Int32) = 1 := by decide
  have l40 : Int32.toInt (40 : Int32) = 40 := by decide
  intro n
  induction n with
  | zero => intro m x1 x2 qU hv hm h hq; exact False.elim h
  | succ n ih =>
    intro m x1 x2 qU hv hm h hq
    cases m with
    | zero => exfalso; omega
    | succ m =>
      rw [flp_s, fs_X7_reckon_4] at hq
      have h : ws_X7_reckon_4 P (wb_X7_reckon_4 P pQ qY pN n) pQ qY pN x1 x2 qU := h
      show ws_X7_reckon_4 Q (wb_X7_reckon_4 Q pQ qY pN n) pQ qY pN x1 x2 qU
      unfold ws_X7_reckon_4 at h ⊢
      refine And.intro (fun c1 => ?_) (fun c1 => ?_)
      · have h := And.left h c1
        rw [if_pos c1] at hq
        have dc1 := (aAO _ _).mp c1
        rw [j_X7_reckon_136] at hq
        unfold ws_X7_reckon_136 at h ⊢
        refine And.intro (fun c2 => ?_) (fun c2 => ?_)
        · have h := And.left h c2
          rw [if_pos c2] at hq
          have dc2 := (aAO _ _).mp c2
          exact hq _ _ rfl h
        · have h := And.right h c2
          rw [if_neg c2] at hq
          have dc2 := mt (aAO _ _).mpr c2
          refine ae ?_
          have h := h _ rfl
          refine And.intro (And.left h) ?_
          have h := And.right h
          refine ae ?_
          have h := h _ rfl
          exact hq _ _ rfl h
      · have h := And.right h c1
        rw [if_neg c1] at hq
        have dc1 := mt (aAO _ _).mpr c1
        refine And.intro (fun c3 => ?_) (fun c3 => ?_)
        · have h := And.left h c3
          rw [if_pos c3] at hq
          have dc3 := (aAO _ _).mp c3
          rw [j_X7_reckon_136] at hq
          unfold ws_X7_reckon_136 at h ⊢
          refine And.intro (fun c4 => ?_) (fun c4 => ?_)
          · have h := And.left h c4
            rw [if_pos c4] at hq
            have dc4 := (aAO _ _).mp c4
            exact hq _ _ rfl h
          · have h := And.right h c4
            rw [if_neg c4] at hq
            have dc4 := mt (aAO _ _).mpr c4
            refine ae ?_
            have h := h _ rfl
            refine And.intro (And.left h) ?_
            have h := And.right h
            refine ae ?_
            have h := h _ rfl
            exact hq _ _ rfl h
        · have h := And.right h c3
          rw [if_neg c3] at hq
          have dc3 := mt (aAO _ _).mpr c3
          refine And.intro (And.left h) ?_
          have h := And.right h
          refine ae ?_
          have h := h _ rfl
          refine And.intro (fun c5 => ?_) (fun c5 => ?_)
          · have h := And.left h c5
            rw [if_pos c5] at hq
            have dc5 := (aAO _ _).mp c5
            refine And.intro (fun c6 => ?_) (fun c6 => ?_)
            · have h := And.left h c6
              rw [if_neg c6] at hq
              have dc6 := mt (zJ _ _).mpr c6
              refine And.intro (fun c7 => ?_) (fun c7 => ?_)
              · have h := And.left h c7
                rw [if_pos c7] at hq
                have dc7 := (aAO _ _).mp c7
                rw [j_X7_reckon_130] at hq
                unfold aRg at h ⊢
                refine ae ?_
                have h := h _ rfl
                have f9 := aAD x2 1 (by omega)
                exact ih m _ _ _ (by omega) (by omega) h hq
              · have h := And.right h c7
                rw [if_neg c7] at hq
                have dc7 := mt (aAO _ _).mpr c7
                refine ae ?_
                have h := h _ rfl
                refine ae ?_
                have h := h _ rfl
                refine ae ?_
                have h := h _ rfl
                refine ae ?_
                have h := h _ rfl
                refine And.intro (And.left h) ?_
                have h := And.right h
                refine ae ?_
                have h := h _ rfl
                refine And.intro (And.left h) ?_
                have h := And.right h
                refine ae ?_
                have h := h _ rfl
                refine du_X7_join h ?_
                intro h
                refine And.intro (And.left h) ?_
                have h := And.right h
                rw [j_X7_reckon_130] at hq
                unfold aRg at h ⊢
                refine ae ?_
                have h := h _ rfl
                have f9 := aAD x2 1 (by omega)
                exact ih m _ _ _ (by omega) (by omega) h hq
            · have h := And.right h c6
              rw [if_pos c6] at hq
              have dc6 := (zJ _ _).mp c6
              refine And.intro (fun c8 => ?_) (fun c8 => ?_)
              · have h := And.left h c8
                rw [if_pos c8] at hq
                have dc8 := (aAO _ _).mp c8
                rw [j_X7_reckon_130] at hq
                unfold aRg at h ⊢
                refine ae ?_
                have h := h _ rfl
                have f9 := aAD x2 1 (by omega)
                exact ih m _ _ _ (by omega) (by omega) h hq
              · have h := And.right h c8
                rw [if_neg c8] at hq
                have dc8 := mt (aAO _ _).mpr c8
                refine ae ?_
                have h := h _ rfl
                refine ae ?_
                have h := h _ rfl
                refine And.intro (And.left h) ?_
                have h := And.right h
                refine ae ?_
                have h := h _ rfl
                refine And.intro (And.left h) ?_
                have h := And.right h
                rw [j_X7_reckon_130] at hq
                unfold aRg at h ⊢
                refine ae ?_
                have h := h _ rfl
                have f9 := aAD x2 1 (by omega)
                exact ih m _ _ _ (by omega) (by omega) h hq
          · have h := And.right h c5
            rw [if_neg c5] at hq
            have dc5 := mt (aAO _ _).mpr c5
            refine And.intro (fun c9 => ?_) (fun c9 => ?_)
            · have h := And.left h c9
              rw [if_pos c9] at hq
              have dc9 := (aAO _ _).mp c9
              rw [j_X7_reckon_130] at hq
              unfold aRg at h ⊢
              refine ae ?_
              have h := h _ rfl
              have f9 := aAD x2 1 (by omega)
              exact ih m _ _ _ (by omega) (by omega) h hq
            · have h := And.right h c9
              rw [if_neg c9] at hq
              have dc9 := mt (aAO _ _).mpr c9
              refine du_X7_meant h ?_
              intro h
              refine And.intro (And.left h) ?_
              have h := And.right h
              refine ae ?_
              have h := h _ rfl
              rw [j_X7_reckon_130] at hq
              unfold aRg at h ⊢
              refine ae ?_
              have h := h _ rfl
              have f9 := aAD x2 1 (by omega)
              exact ih m _ _ _ (by omega) (by omega) h hq
noncomputable def F_X7_reckon (pQ : Int32) (qY qU pN : Nat -> Int32) : Int32 × (Nat -> Int32) := flp (fs_X7_reckon_4 (fun o0 o1 => (o0, o1)) pQ qY pN) (fun _ _ _ => (0, (fun _ => 0))) 41 0 0 qU
set_option maxHeartbeats 200000 in
set_option maxRecDepth 10000 in
theorem dt_X7_reckon {P Q : Int32 -> (Nat -> Int32) -> Prop} {pQ : Int32} {qY qU pN : Nat -> Int32} (h : wp_X7_reckon P pQ qY qU pN) (hq : ∀ o : Int32 × (Nat -> Int32), o = F_X7_reckon pQ qY qU pN -> P o.1 o.2 -> Q o.1 o.2) : wp_X7_reckon Q pQ qY qU pN := by
  rw [F_X7_reckon] at hq
  obtain ⟨n1, h⟩ := h
  exact ⟨n1, dl_X7_reckon_4 n1 41 _ _ _ (by decide) (by decide) h (fun b0 b1 e9 h9 => hq (b0, b1) e9 h9)⟩
theorem du_X7_reckon {P Q : Int32 -> (Nat -> Int32) -> Prop} {pQ : Int32} {qY qU pN : Nat -> Int32} (h : wp_X7_reckon P pQ qY qU pN) (hq : P (F_X7_reckon pQ qY qU pN).1 (F_X7_reckon pQ qY qU pN).2 -> Q (F_X7_reckon pQ qY qU pN).1 (F_X7_reckon pQ qY qU pN).2) : wp_X7_reckon Q pQ qY qU pN := dt_X7_reckon h (fun o eo => by rw [eo]; exact hq)
noncomputable def j_X0_pickSeconds_123 {R : Type} (po : Int32 -> (Nat -> Int32) -> (Nat -> Int32) -> R) (dN : Int32) (uU gF pL mX oE : Nat -> Int32) (dU pQ : Int32) (pN : Nat -> Int32) (k0 : Int32) (qY qU : Nat -> Int32) : R := po (if 1 < (if k0 < 99 then k0 else 99) then (if k0 < 99 then k0 else 99) else 1) qY qU
noncomputable def j_X0_pickSeconds_92 {R : Type} (po : Int32 -> (Nat -> Int32) -> (Nat -> Int32) -> R) (dN : Int32) (uU gF pL mX oE : Nat -> Int32) (dU pQ : Int32) (pN : Nat -> Int32) (x6 x7 : Int32) (qY qU : Nat -> Int32) : R := if pQ = 0 then (j_X0_pickSeconds_123 po dN uU gF pL mX oE dU pQ pN ((2 + (x6 / 4)) + (x7 / 2)) qY qU) else (j_X0_pickSeconds_123 po dN uU gF pL mX oE dU pQ pN ((F_X7_reckon pQ qY qU pN).1) qY ((F_X7_reckon pQ qY qU pN).2))
noncomputable def bBV (p0 p1 p2 p3 dN : Int32) (uU gF pL mX oE : Nat -> Int32) (dU pQ : Int32) (qY qU pN : Nat -> Int32) : Int32 × (Nat -> Int32) × (Nat -> Int32) := j_X0_pickSeconds_92 (fun o0 o1 o2 => (o0, o1, o2)) dN uU gF pL mX oE dU pQ pN (F_X3_aside p0 p1 uU mX) (F_X3_above p0 p1 gF oE) (upd (upd (upd (upd (upd (upd (upd qY (0 : Int32).toNatClampNeg (F_X3_aside p0 p1 uU mX)) (1 : Int32).toNatClampNeg (F_X3_above p0 p1 gF oE)) (2 : Int32).toNatClampNeg (gF p0.toNatClampNeg)) (3 : Int32).toNatClampNeg (F_X0_worthOf (1 <<< (p0 &&& 31)) dN pL dU)) (4 : Int32).toNatClampNeg p1) (5 : Int32).toNatClampNeg p3) (6 : Int32).toNatClampNeg p2) qU
set_option maxHeartbeats 200000 in
set_option maxRecDepth 10000 in
theorem dt_X0_pickSeconds {P Q : Int32 -> (Nat -> Int32) -> (Nat -> Int32) -> Prop} {p0 p1 p2 p3 dN : Int32} {uU gF pL mX oE : Nat -> Int32} {dU pQ : Int32} {qY qU pN : Nat -> Int32} (h : aSP P p0 p1 p2 p3 dN uU gF pL mX oE dU pQ qY qU pN) (hq : ∀ o : Int32 × (Nat -> Int32) × (Nat -> Int32), o = bBV p0 p1 p2 p3 dN uU gF pL mX oE dU pQ qY qU pN -> P o.1 o.2.1 o.2.2 -> Q o.1 o.2.1 o.2.2) : aSP Q p0 p1 p2 p3 dN uU gF pL mX oE dU pQ qY qU pN := by
  rw [bBV] at hq
  refine du_X3_aside h ?_
  intro h
  refine du_X3_above h ?_
  intro h
  refine And.intro (And.left h) ?_
  have h := And.right h
  refine ae ?_
  have h := h _ rfl
  refine ae ?_
  have h := h _ rfl
  refine du_X0_worthOf h ?_
  intro h
  rw [j_X0_pickSeconds_92] at hq
  unfold ws_X0_pickSeconds_92 at h ⊢
  refine And.intro (fun c1 => ?_) (fun c1 => ?_)
  · have h := And.left h c1
    rw [if_neg c1] at hq
    refine du_X7_reckon h ?_
    intro h
    rw [j_X0_pickSeconds_123] at hq
    unfold bCc at h ⊢
    refine ae ?_
    have h := h _ rfl
    refine ae ?_
    have h := h _ rfl
    have q9 := hq _ rfl
    dsimp only at q9
    exact q9 h
  · have h := And.right h c1
    rw [if_pos c1] at hq
    refine ae ?_
    have h := h _ rfl
    refine ae ?_
    have h := h _ rfl
    rw [j_X0_pickSeconds_123] at hq
    unfold bCc at h ⊢
    refine ae ?_
    have h := h _ rfl
    refine ae ?_
    have h := h _ rfl
    have q9 := hq _ rfl
    dsimp only at q9
    exact q9 h
theorem du_X0_pickSeconds {P Q : Int32 -> (Nat -> Int32) -> (Nat -> Int32) -> Prop} {p0 p1 p2 p3 dN : Int32} {uU gF pL mX oE : Nat -> Int32} {dU pQ : Int32} {qY qU pN : Nat -> Int32} (h : aSP P p0 p1 p2 p3 dN uU gF pL mX oE dU pQ qY qU pN) (hq : P (bBV p0 p1 p2 p3 dN uU gF pL mX oE dU pQ qY qU pN).1 (bBV p0 p1 p2 p3 dN uU gF pL mX oE dU pQ qY qU pN).2.1 (bBV p0 p1 p2 p3 dN uU gF pL mX oE dU pQ qY qU pN).2.2 -> Q (bBV p0 p1 p2 p3 dN uU gF pL mX oE dU pQ qY qU pN).1 (bBV p0 p1 p2 p3 dN uU gF pL mX oE dU pQ qY qU pN).2.1 (bBV p0 p1 p2 p3 dN uU gF pL mX oE dU pQ qY qU pN).2.2) : aSP Q p0 p1 p2 p3 dN uU gF pL mX oE dU pQ qY qU pN := dt_X0_pickSeconds h (fun o eo => by rw [eo]; exact hq)
noncomputable def aG4 (p0 p1 dN : Int32) (uU gF pL qF mX oE dY : Nat -> Int32) (jE eW eY dU fY gJ jG nU pQ : Int32) (qY qU pN : Nat -> Int32) : Int32 × Int32 × Int32 × Int32 × (Nat -> Int32) × (Nat -> Int32) := if (F_X3_hasFruit p0 dN) = 0 then ((-1), jE, dU, nU, qY, qU) else (if (F_X9_isYesOrNo p1) = 0 then ((-1), jE, dU, nU, qY, qU) else (if (((aVS dN jE eW eY) >>> (p0 &&& 31)) &&& 1) = 0 then ((-2), jE, dU, nU, qY, qU) else (if (qF p0.toNatClampNeg) <= jG then (if fY = (-1) then ((-4), jE, dU, nU, qY, qU) else (if (F_X3_isWithin p0 fY (F_X3_reach gJ p1 dY) uU gF mX oE) = 0 then ((-4), jE, dU, nU, qY, qU) else (if (aLS jE) < (dY (4 : Int32).toNatClampNeg) then ((bBV p0 fY p1 (aLS jE) dN uU gF pL mX oE dU pQ qY qU pN).1, (jE ||| (1 <<< (p0 &&& 31))), (dU ||| (F_X3_lowerThan p0 (aVS dN jE eW eY) dN uU gF)), (F_X2_spend (bBV p0 fY p1 (aLS jE) dN uU gF pL mX oE dU pQ qY qU pN).1 nU), (bBV p0 fY p1 (aLS jE) dN uU gF pL mX oE dU pQ qY qU pN).2.1, (bBV p0 fY p1 (aLS jE) dN uU gF pL mX oE dU pQ qY qU pN).2.2) else ((-5), jE, dU, nU, qY, qU)))) else ((-3), jE, dU, nU, qY, qU))))
set_option maxHeartbeats 200000 in
set_option maxRecDepth 10000 in
theorem dt_X0_pickFruit {P Q : Int32 -> Int32 -> Int32 -> Int32 -> (Nat -> Int32) -> (Nat -> Int32) -> Prop} {p0 p1 dN : Int32} {uU gF pL qF mX oE dY : Nat -> Int32} {jE eW eY dU fY gJ jG nU pQ : Int32} {qY qU pN : Nat -> Int32} (h : wp_X0_pickFruit P p0 p1 dN uU gF pL qF mX oE dY jE eW eY dU fY gJ jG nU pQ qY qU pN) (hq : ∀ o : Int32 × Int32 × Int32 × Int32 × (Nat -> Int32) × (Nat -> Int32), o = aG4 p0 p1 dN uU gF pL qF mX oE dY jE eW eY dU fY gJ jG nU pQ qY qU pN -> P o.1 o.2.1 o.2.2.1 o.2.2.2.1 o.2.2.2.2.1 o.2.2.2.2.2 -> Q o.1 o.2.1 o.2.2.1 o.2.2.2.1 o.2.2.2.2.1 o.2.2.2.2.2) : wp_X0_pickFruit Q p0 p1 dN uU gF pL qF mX oE dY jE eW eY dU fY gJ jG nU pQ qY qU pN := by
  rw [aG4] at hq
  refine du_X3_hasFruit h ?_
  intro h
  refine And.intro (fun c1 => ?_) (fun c1 => ?_)
  · have h := And.left h c1
    rw [if_pos c1] at hq
    have q9 := hq _ rfl
    dsimp only at q9
    exact q9 h
  · have h := And.right h c1
    rw [if_neg c1] at hq
    refine du_X9_isYesOrNo h ?_
    intro h
    refine And.intro (fun c2 => ?_) (fun c2 => ?_)
    · have h := And.left h c2
      rw [if_neg c2] at hq
      refine du_X0_hanging h ?_
      intro h
      refine ae ?_
      have h := h _ rfl
      refine And.intro (fun c3 => ?_) (fun c3 => ?_)
      · have h := And.left h c3
        rw [if_neg c3] at hq
        refine And.intro (And.left h) ?_
        have h := And.right h
        refine ae ?_
        have h := h _ rfl
        refine And.intro (fun c4 => ?_) (fun c4 => ?_)
        · have h := And.left h c4
          rw [if_pos c4] at hq
          refine And.intro (fun c5 => ?_) (fun c5 => ?_)
          · have h := And.left h c5
            rw [if_pos c5] at hq
            have q9 := hq _ rfl
            dsimp only at q9
            exact q9 h
          · have h := And.right h c5
            rw [if_neg c5] at hq
            refine du_X3_reach h ?_
            intro h
            refine du_X3_isWithin h ?_
            intro h
            refine And.intro (fun c6 => ?_) (fun c6 => ?_)
            · have h := And.left h c6
              rw [if_neg c6] at hq
              refine du_J6_bitCount_0f7a4 h ?_
              intro h
              refine And.intro (fun c7 => ?_) (fun c7 => ?_)
              · have h := And.left h c7
                rw [if_pos c7] at hq
                refine du_X0_pickSeconds h ?_
                intro h
                refine du_X3_lowerThan h ?_
                intro h
                refine ae ?_
                have h := h _ rfl
                refine ae ?_
                have h := h _ rfl
                refine du_X2_spend h ?_
                intro h
                have q9 := hq _ rfl
                dsimp only at q9
                exact q9 h
              · have h := And.right h c7
                rw [if_neg c7] at hq
                have q9 := hq _ rfl
                dsimp only at q9
                exact q9 h
            · have h := And.right h c6
              rw [if_pos c6] at hq
              have q9 := hq _ rfl
              dsimp only at q9
              exact q9 h
        · have h := And.right h c4
          rw [if_neg c4] at hq
          have q9 := hq _ rfl
          dsimp only at q9
          exact q9 h
      · have h := And.right h c3
        rw [if_pos c3] at hq
        have q9 := hq _ rfl
        dsimp only at q9
        exact q9 h
    · have h := And.right h c2
      rw [if_pos c2] at hq
      have q9 := hq _ rfl
      dsimp only at q9
      exact q9 h
theorem du_X0_pickFruit {P Q : Int32 -> Int32 -> Int32 -> Int32 -> (Nat -> Int32) -> (Nat -> Int32) -> Prop} {p0 p1 dN : Int32} {uU gF pL qF mX oE dY : Nat -> Int32} {jE eW eY dU fY gJ jG nU pQ : Int32} {qY qU pN : Nat -> Int32} (h : wp_X0_pickFruit P p0 p1 dN uU gF pL qF mX oE dY jE eW eY dU fY gJ jG nU pQ qY qU pN) (hq : P (aG4 p0 p1 dN uU gF pL qF mX oE dY jE eW eY dU fY gJ jG nU pQ qY qU pN).1 (aG4 p0 p1 dN uU gF pL qF mX oE dY jE eW eY dU fY gJ jG nU pQ qY qU pN).2.1 (aG4 p0 p1 dN uU gF pL qF mX oE dY jE eW eY dU fY gJ jG nU pQ qY qU pN).2.2.1 (aG4 p0 p1 dN uU gF pL qF mX oE dY jE eW eY dU fY gJ jG nU pQ qY qU pN).2.2.2.1 (aG4 p0 p1 dN uU gF pL qF mX oE dY jE eW eY dU fY gJ jG nU pQ qY qU pN).2.2.2.2.1 (aG4 p0 p1 dN uU gF pL qF mX oE dY jE eW eY dU fY gJ jG nU pQ qY qU pN).2.2.2.2.2 -> Q (aG4 p0 p1 dN uU gF pL qF mX oE dY jE eW eY dU fY gJ jG nU pQ qY qU pN).1 (aG4 p0 p1 dN uU gF pL qF mX oE dY jE eW eY dU fY gJ jG nU pQ qY qU pN).2.1 (aG4 p0 p1 dN uU gF pL qF mX oE dY jE eW eY dU fY gJ jG nU pQ qY qU pN).2.2.1 (aG4 p0 p1 dN uU gF pL qF mX oE dY jE eW eY dU fY gJ jG nU pQ qY qU pN).2.2.2.1 (aG4 p0 p1 dN uU gF pL qF mX oE dY jE eW eY dU fY gJ jG nU pQ qY qU pN).2.2.2.2.1 (aG4 p0 p1 dN uU gF pL qF mX oE dY jE eW eY dU fY gJ jG nU pQ qY qU pN).2.2.2.2.2) : wp_X0_pickFruit Q p0 p1 dN uU gF pL qF mX oE dY jE eW eY dU fY gJ jG nU pQ qY qU pN := dt_X0_pickFruit h (fun o eo => by rw [eo]; exact hq)
noncomputable def F_X9_pick (p0 p1 dN : Int32) (uU gF pL qF mX oE dY : Nat -> Int32) (jE eW eY dU fY gJ jG nU pQ : Int32) (qY qU pN : Nat -> Int32) (pR uM : Int32) (tD : Nat -> Int32) : Int32 × Int32 × Int32 × Int32 × (Nat -> Int32) × (Nat -> Int32) × Int32 × Int32 × (Nat -> Int32) := ((aIP (aG4 p0 p1 dN uU gF pL qF mX oE dY jE eW eY dU fY gJ jG nU pQ qY qU pN).1 pR uM).1, (aG4 p0 p1 dN uU gF pL qF mX oE dY jE eW eY dU fY gJ jG nU pQ qY qU pN).2.1, (aG4 p0 p1 dN uU gF pL qF mX oE dY jE eW eY dU fY gJ jG nU pQ qY qU pN).2.2.1, (aG4 p0 p1 dN uU gF pL qF mX oE dY jE eW eY dU fY gJ jG nU pQ qY qU pN).2.2.2.1, (aG4 p0 p1 dN uU gF pL qF mX oE dY jE eW eY dU fY gJ jG nU pQ qY qU pN).2.2.2.2.1, (aG4 p0 p1 dN uU gF pL qF mX oE dY jE eW eY dU fY gJ jG nU pQ qY qU pN).2.2.2.2.2, (aIP (aG4 p0 p1 dN uU gF pL qF mX oE dY jE eW eY dU fY gJ jG nU pQ qY qU pN).1 pR uM).2.1, (aIP (aG4 p0 p1 dN uU gF pL qF mX oE dY jE eW eY dU fY gJ jG nU pQ qY qU pN).1 pR uM).2.2, (F_X4_note jE eW eY dU fY gJ jG nU uM tD))
set_option maxHeartbeats 200000 in
set_option maxRecDepth 10000 in
theorem dt_X9_pick {P Q : Int32 -> Int32 -> Int32 -> Int32 -> (Nat -> Int32) -> (Nat -> Int32) -> Int32 -> Int32 -> (Nat -> Int32) -> Prop} {p0 p1 dN : Int32} {uU gF pL qF mX oE dY : Nat -> Int32} {jE eW eY dU fY gJ jG nU pQ : Int32} {qY qU pN : Nat -> Int32} {pR uM : Int32} {tD : Nat -> Int32} (h : wp_X9_pick P p0 p1 dN uU gF pL qF mX oE dY jE eW eY dU fY gJ jG nU pQ qY qU pN pR uM tD) (hq : ∀ o : Int32 × Int32 × Int32 × Int32 × (Nat -> Int32) × (Nat -> Int32) × Int32 × Int32 × (Nat -> Int32), o = F_X9_pick p0 p1 dN uU gF pL qF mX oE dY jE eW eY dU fY gJ jG nU pQ qY qU pN pR uM tD -> P o.1 o.2.1 o.2.2.1 o.2.2.2.1 o.2.2.2.2.1 o.2.2.2.2.2.1 o.2.2.2.2.2.2.1 o.2.2.2.2.2.2.2.1 o.2.2.2.2.2.2.2.2 -> Q o.1 o.2.1 o.2.2.1 o.2.2.2.1 o.2.2.2.2.1 o.2.2.2.2.2.1 o.2.2.2.2.2.2.1 o.2.2.2.2.2.2.2.1 o.2.2.2.2.2.2.2.2) : wp_X9_pick Q p0 p1 dN uU gF pL qF mX oE dY jE eW eY dU fY gJ jG nU pQ qY qU pN pR uM tD := by
  rw [F_X9_pick] at hq
  refine du_X4_note h ?_
  intro h
  refine du_X0_pickFruit h ?_
  intro h
  refine du_X9_holdIfDone h ?_
  intro h
  have q9 := hq _ rfl
  dsimp only at q9
  exact q9 h
theorem du_X9_pick {P Q : Int32 -> Int32 -> Int32 -> Int32 -> (Nat -> Int32) -> (Nat -> Int32) -> Int32 -> Int32 -> (Nat -> Int32) -> Prop} {p0 p1 dN : Int32} {uU gF pL qF mX oE dY : Nat -> Int32} {jE eW eY dU fY gJ jG nU pQ : Int32} {qY qU pN : Nat -> Int32} {pR uM : Int32} {tD : Nat -> Int32} (h : wp_X9_pick P p0 p1 dN uU gF pL qF mX oE dY jE eW eY dU fY gJ jG nU pQ qY qU pN pR uM tD) (hq : P (F_X9_pick p0 p1 dN uU gF pL qF mX oE dY jE eW eY dU fY gJ jG nU pQ qY qU pN pR uM tD).1 (F_X9_pick p0 p1 dN uU gF pL qF mX oE dY jE eW eY dU fY gJ jG nU pQ qY qU pN pR uM tD).2.1 (F_X9_pick p0 p1 dN uU gF pL qF mX oE dY jE eW eY dU fY gJ jG nU pQ qY qU pN pR uM tD).2.2.1 (F_X9_pick p0 p1 dN uU gF pL qF mX oE dY jE eW eY dU fY gJ jG nU pQ qY qU pN pR uM tD).2.2.2.1 (F_X9_pick p0 p1 dN uU gF pL qF mX oE dY jE eW eY dU fY gJ jG nU pQ qY qU pN pR uM tD).2.2.2.2.1 (F_X9_pick p0 p1 dN uU gF pL qF mX oE dY jE eW eY dU fY gJ jG nU pQ qY qU pN pR uM tD).2.2.2.2.2.1 (F_X9_pick p0 p1 dN uU gF pL qF mX oE dY jE eW eY dU fY gJ jG nU pQ qY qU pN pR uM tD).2.2.2.2.2.2.1 (F_X9_pick p0 p1 dN uU gF pL qF mX oE dY jE eW eY dU fY gJ jG nU pQ qY qU pN pR uM tD).2.2.2.2.2.2.2.1 (F_X9_pick p0 p1 dN uU gF pL qF mX oE dY jE eW eY dU fY gJ jG nU pQ qY qU pN pR uM tD).2.2.2.2.2.2.2.2 -> Q (F_X9_pick p0 p1 dN uU gF pL qF mX oE dY jE eW eY dU fY gJ jG nU pQ qY qU pN pR uM tD).1 (F_X9_pick p0 p1 dN uU gF pL qF mX oE dY jE eW eY dU fY gJ jG nU pQ qY qU pN pR uM tD).2.1 (F_X9_pick p0 p1 dN uU gF pL qF mX oE dY jE eW eY dU fY gJ jG nU pQ qY qU pN pR uM tD).2.2.1 (F_X9_pick p0 p1 dN uU gF pL qF mX oE dY jE eW eY dU fY gJ jG nU pQ qY qU pN pR uM tD).2.2.2.1 (F_X9_pick p0 p1 dN uU gF pL qF mX oE dY jE eW eY dU fY gJ jG nU pQ qY qU pN pR uM tD).2.2.2.2.1 (F_X9_pick p0 p1 dN uU gF pL qF mX oE dY jE eW eY dU fY gJ jG nU pQ qY qU pN pR uM tD).2.2.2.2.2.1 (F_X9_pick p0 p1 dN uU gF pL qF mX oE dY jE eW eY dU fY gJ jG nU pQ qY qU pN pR uM tD).2.2.2.2.2.2.1 (F_X9_pick p0 p1 dN uU gF pL qF mX oE dY jE eW eY dU fY gJ jG nU pQ qY qU pN pR uM tD).2.2.2.2.2.2.2.1 (F_X9_pick p0 p1 dN uU gF pL qF mX oE dY jE eW eY dU fY gJ jG nU pQ qY qU pN pR uM tD).2.2.2.2.2.2.2.2) : wp_X9_pick Q p0 p1 dN uU gF pL qF mX oE dY jE eW eY dU fY gJ jG nU pQ qY qU pN pR uM tD := dt_X9_pick h (fun o eo => by rw [eo]; exact hq)
theorem dw_X9_pick {Q : Int32 -> Int32 -> Int32 -> Int32 -> (Nat -> Int32) -> (Nat -> Int32) -> Int32 -> Int32 -> (Nat -> Int32) -> Prop} {p0 p1 dN : Int32} {uU gF pL qF mX oE dY : Nat -> Int32} {jE eW eY dU fY gJ jG nU pQ : Int32} {qY qU pN : Nat -> Int32} {pR uM : Int32} {tD : Nat -> Int32} (h : wp_X9_pick (fun o0 o1 o2 o3 o4 o5 o6 o7 o8 => (o0, o1, o2, o3, o4, o5, o6, o7, o8) = F_X9_pick p0 p1 dN uU gF pL qF mX oE dY jE eW eY dU fY gJ jG nU pQ qY qU pN pR uM tD -> Q o0 o1 o2 o3 o4 o5 o6 o7 o8) p0 p1 dN uU gF pL qF mX oE dY jE eW eY dU fY gJ jG nU pQ qY qU pN pR uM tD) : wp_X9_pick Q p0 p1 dN uU gF pL qF mX oE dY jE eW eY dU fY gJ jG nU pQ qY qU pN pR uM tD := dt_X9_pick h (fun o eo hp => hp eo)
noncomputable def aVR (oE : Nat -> Int32) (jE eW fY nU : Int32) : Int32 × Int32 × Int32 × Int32 := if fY = (-1) then ((-2), jE, eW, nU) else (if jE = 0 then ((-2), jE, eW, nU) else ((aLS jE), (F_X2_emptyApron jE eW).1, (F_X2_emptyApron jE eW).2, (F_X2_spend (F_X3_downSeconds fY oE) nU)))
set_option maxHeartbeats 200000 in
set_option maxRecDepth 10000 in
theorem dt_X0_goDown {P Q : Int32 -> Int32 -> Int32 -> Int32 -> Prop} {oE : Nat -> Int32} {jE eW fY nU : Int32} (h : wp_X0_goDown P oE jE eW fY nU) (hq : ∀ o : Int32 × Int32 × Int32 × Int32, o = aVR oE jE eW fY nU -> P o.1 o.2.1 o.2.2.1 o.2.2.2 -> Q o.1 o.2.1 o.2.2.1 o.2.2.2) : wp_X0_goDown Q oE jE eW fY nU := by
  rw [aVR] at hq
  refine And.intro (fun c1 => ?_) (fun c1 => ?_)
  · have h := And.left h c1
    rw [if_pos c1] at hq
    have q9 := hq _ rfl
    dsimp only at q9
    exact q9 h
  · have h := And.right h c1
    rw [if_neg c1] at hq
    refine And.intro (fun c2 => ?_) (fun c2 => ?_)
    · have h := And.left h c2
      rw [if_neg c2] at hq
      refine du_J6_bitCount_0f7a4 h ?_
      intro h
      refine du_X2_emptyApron h ?_
      intro h
      refine du_X3_downSeconds h ?_
      intro h
      refine du_X2_spend h ?_
      intro h
      have q9 := hq _ rfl
      dsimp only at q9
      exact q9 h
    · have h := And.right h c2
      rw [if_pos c2] at hq
      have q9 := hq _ rfl
      dsimp only at q9
      exact q9 h
theorem du_X0_goDown {P Q : Int32 -> Int32 -> Int32 -> Int32 -> Prop} {oE : Nat -> Int32} {jE eW fY nU : Int32} (h : wp_X0_goDown P oE jE eW fY nU) (hq : P (aVR oE jE eW fY nU).1 (aVR oE jE eW fY nU).2.1 (aVR oE jE eW fY nU).2.2.1 (aVR oE jE eW fY nU).2.2.2 -> Q (aVR oE jE eW fY nU).1 (aVR oE jE eW fY nU).2.1 (aVR oE jE eW fY nU).2.2.1 (aVR oE jE eW fY nU).2.2.2) : wp_X0_goDown Q oE jE eW fY nU := dt_X0_goDown h (fun o eo => by rw [eo]; exact hq)
noncomputable def F_X9_down (oE : Nat -> Int32) (jE eW eY dU fY gJ jG nU pR uM : Int32) (tD : Nat -> Int32) : Int32 × Int32 × Int32 × Int32 × Int32 × Int32 × (Nat -> Int32) := ((aIP (aVR oE jE eW fY nU).1 pR uM).1, (aVR oE jE eW fY nU).2.1, (aVR oE jE eW fY nU).2.2.1, (aVR oE jE eW fY nU).2.2.2, (aIP (aVR oE jE eW fY nU).1 pR uM).2.1, (aIP (aVR oE jE eW fY nU).1 pR uM).2.2, (F_X4_note jE eW eY dU fY gJ jG nU uM tD))
set_option maxHeartbeats 200000 in
set_option maxRecDepth 10000 in
theorem dt_X9_down {P Q : Int32 -> Int32 -> Int32 -> Int32 -> Int32 -> Int32 -> (Nat -> Int32) -> Prop} {oE : Nat -> Int32} {jE eW eY dU fY gJ jG nU pR uM : Int32} {tD : Nat -> Int32} (h : wp_X9_down P oE jE eW eY dU fY gJ jG nU pR uM tD) (hq : ∀ o : Int32 × Int32 × Int32 × Int32 × Int32 × Int32 × (Nat -> Int32), o = F_X9_down oE jE eW eY dU fY gJ jG nU pR uM tD -> P o.1 o.2.1 o.2.2.1 o.2.2.2.1 o.2.2.2.2.1 o.2.2.2.2.2.1 o.2.2.2.2.2.2 -> Q o.1 o.2.1 o.2.2.1 o.2.2.2.1 o.2.2.2.2.1 o.2.2.2.2.2.1 o.2.2.2.2.2.2) : wp_X9_down Q oE jE eW eY dU fY gJ jG nU pR uM tD := by
  rw [F_X9_down] at hq
  refine du_X4_note h ?_
  intro h
  refine du_X0_goDown h ?_
  intro h
  refine du_X9_holdIfDone h ?_
  intro h
  have q9 := hq _ rfl
  dsimp only at q9
  exact q9 h
theorem du_X9_down {P Q : Int32 -> Int32 -> Int32 -> Int32 -> Int32 -> Int32 -> (Nat -> Int32) -> Prop} {oE : Nat -> Int32} {jE eW eY dU fY gJ jG nU pR uM : Int32} {tD : Nat -> Int32} (h : wp_X9_down P oE jE eW eY dU fY gJ jG nU pR uM tD) (hq : P (F_X9_down oE jE eW eY dU fY gJ jG nU pR uM tD).1 (F_X9_down oE jE eW eY dU fY gJ jG nU pR uM tD).2.1 (F_X9_down oE jE eW eY dU fY gJ jG nU pR uM tD).2.2.1 (F_X9_down oE jE eW eY dU fY gJ jG nU pR uM tD).2.2.2.1 (F_X9_down oE jE eW eY dU fY gJ jG nU pR uM tD).2.2.2.2.1 (F_X9_down oE jE eW eY dU fY gJ jG nU pR uM tD).2.2.2.2.2.1 (F_X9_down oE jE eW eY dU fY gJ jG nU pR uM tD).2.2.2.2.2.2 -> Q (F_X9_down oE jE eW eY dU fY gJ jG nU pR uM tD).1 (F_X9_down oE jE eW eY dU fY gJ jG nU pR uM tD).2.1 (F_X9_down oE jE eW eY dU fY gJ jG nU pR uM tD).2.2.1 (F_X9_down oE jE eW eY dU fY gJ jG nU pR uM tD).2.2.2.1 (F_X9_down oE jE eW eY dU fY gJ jG nU pR uM tD).2.2.2.2.1 (F_X9_down oE jE eW eY dU fY gJ jG nU pR uM tD).2.2.2.2.2.1 (F_X9_down oE jE eW eY dU fY gJ jG nU pR uM tD).2.2.2.2.2.2) : wp_X9_down Q oE jE eW eY dU fY gJ jG nU pR uM tD := dt_X9_down h (fun o eo => by rw [eo]; exact hq)
theorem dw_X9_down {Q : Int32 -> Int32 -> Int32 -> Int32 -> Int32 -> Int32 -> (Nat -> Int32) -> Prop} {oE : Nat -> Int32} {jE eW eY dU fY gJ jG nU pR uM : Int32} {tD : Nat -> Int32} (h : wp_X9_down (fun o0 o1 o2 o3 o4 o5 o6 => (o0, o1, o2, o3, o4, o5, o6) = F_X9_down oE jE eW eY dU fY gJ jG nU pR uM tD -> Q o0 o1 o2 o3 o4 o5 o6) oE jE eW eY dU fY gJ jG nU pR uM tD) : wp_X9_down Q oE jE eW eY dU fY gJ jG nU pR uM tD := dt_X9_down h (fun o eo hp => hp eo)
noncomputable def j_X3_ripeBy_28 {R : Type} (k4 : Int32 -> Int32 -> Int32 -> R) (dN : Int32) (qF : Nat -> Int32) (x1 x2 x3 : Int32) : R := k4 x1 x2 (x3 + 1)
noncomputable def bd_X3_ripeBy_4 (dN : Int32) (qF : Nat -> Int32) (x1 c s : Int32) : Int32 := if x1 < (qF c.toNatClampNeg) then (j_X3_ripeBy_28 (fun q0 q1 q2 => q1) dN qF x1 s c) else (j_X3_ripeBy_28 (fun q0 q1 q2 => q1) dN qF x1 (s ||| (1 <<< (c &&& 31))) c)
noncomputable def ex_X3_ripeBy_4 {R : Type} (po : Int32 -> R) (dN : Int32) (qF : Nat -> Int32) (x1 c s : Int32) : R := po s
set_option maxHeartbeats 200000 in
set_option maxRecDepth 10000 in
theorem dl_X3_ripeBy_4 {P Q : Int32 -> Prop} {dN : Int32} {qF : Nat -> Int32} {x1 a : Int32} {i : Nat} (hi0 : i < 2147483648) (hE : ∀ (c : Int32) (s : Int32), c = nI (i + (Int32.toInt dN - ((i : Nat) : Int)).toNat) -> s = itr (bd_X3_ripeBy_4 dN qF x1) a i (Int32.toInt dN - ((i : Nat) : Int)).toNat -> (P s) -> (Q s)) : ∀ (n k : Nat) (c : Int32), c = nI (i + k) -> k <= (Int32.toInt dN - ((i : Nat) : Int)).toNat -> wb_X3_ripeBy_4 P dN qF n x1 (itr (bd_X3_ripeBy_4 dN qF x1) a i k) c -> wb_X3_ripeBy_4 Q dN qF n x1 (itr (bd_X3_ripeBy_4 dN qF x1) a i k) c := by
  intro n
  induction n with
  | zero => intro k c hc hk h; exact False.elim h
  | succ n ih =>
    intro k c hc hk h
    have hr := aAT dN
    have hi : Int32.toInt c = ((i + k : Nat) : Int) := by rw [hc]; exact nI_toInt (by omega)
    refine And.intro (fun t0 => ?_) (fun t0 => ?_)
    · have h := And.left h t0
      have t1 := (aAO _ _).mp t0
      have hk2 : k = (Int32.toInt dN - ((i : Nat) : Int)).toNat := by omega
      subst hk2
      exact hE _ _ hc rfl h
    · have h := And.right h t0
      have t1 := mt (aAO _ _).mpr t0
      have hs : ∀ o : Int32, o = itr (bd_X3_ripeBy_4 dN qF x1) a i (k + 1) -> wb_X3_ripeBy_4 P dN qF n x1 o (c + 1) -> wb_X3_ripeBy_4 Q dN qF n x1 o (c + 1) := by
        intro o eo h9
        have q := ih (k + 1) (c + 1) (by rw [hc]; exact nI_1 _) (by omega)
        rw [<- eo] at q
        exact q h9
      rw [itr_s, <- hc, bd_X3_ripeBy_4] at hs
      refine And.intro (And.left h) ?_
      have h := And.right h
      refine ae ?_
      have h := h _ rfl
      refine And.intro (fun c1 => ?_) (fun c1 => ?_)
      · have h := And.left h c1
        rw [if_pos c1] at hs
        rw [j_X3_ripeBy_28] at hs
        unfold ws_X3_ripeBy_28 at h ⊢
        refine ae ?_
        have h := h _ rfl
        have q9 := hs _ rfl
        exact q9 h
      · have h := And.right h c1
        rw [if_neg c1] at hs
        refine ae ?_
        have h := h _ rfl
        rw [j_X3_ripeBy_28] at hs
        unfold ws_X3_ripeBy_28 at h ⊢
        refine ae ?_
        have h := h _ rfl
        have q9 := hs _ rfl
        exact q9 h
noncomputable def F_X3_ripeBy (p0 dN : Int32) (qF : Nat -> Int32) : Int32 := ex_X3_ripeBy_4 (fun o0 => o0) dN qF p0 (nI (0 + (Int32.toInt dN - ((0 : Nat) : Int)).toNat)) (itr (bd_X3_ripeBy_4 dN qF p0) 0 0 (Int32.toInt dN - ((0 : Nat) : Int)).toNat)
set_option maxHeartbeats 200000 in
set_option maxRecDepth 10000 in
theorem dt_X3_ripeBy {P Q : Int32 -> Prop} {p0 dN : Int32} {qF : Nat -> Int32} (h : aZj P p0 dN qF) (hq : ∀ o : Int32, o = F_X3_ripeBy p0 dN qF -> P o -> Q o) : aZj Q p0 dN qF := by
  rw [F_X3_ripeBy] at hq
  obtain ⟨n1, h⟩ := h
  refine ⟨n1, dl_X3_ripeBy_4 (a := 0) (i := 0) (by decide) ?_ n1 0 0 (by decide) (Nat.zero_le _) h⟩
  intro cc2 s3 ec4 es5 h
  rw [<- ec4, <- es5, ex_X3_ripeBy_4] at hq
  have q9 := hq _ rfl
  exact q9 h
theorem du_X3_ripeBy {P Q : Int32 -> Prop} {p0 dN : Int32} {qF : Nat -> Int32} (h : aZj P p0 dN qF) (hq : P (F_X3_ripeBy p0 dN qF) -> Q (F_X3_ripeBy p0 dN qF)) : aZj Q p0 dN qF := dt_X3_ripeBy h (fun o eo => by rw [eo]; exact hq)
noncomputable def F_X0_readyHere (dN : Int32) (uU gF qF mX oE dY : Nat -> Int32) (jE eW eY fY gJ jG : Int32) : Int32 := if fY = (-1) then 0 else (((aVS dN jE eW eY) &&& (F_X3_ripeBy jG dN qF)) &&& (F_X3_within fY (F_X3_reach gJ 0 dY) dN uU gF mX oE))
set_option maxHeartbeats 200000 in
set_option maxRecDepth 10000 in
theorem dt_X0_readyHere {P Q : Int32 -> Prop} {dN : Int32} {uU gF qF mX oE dY : Nat -> Int32} {jE eW eY fY gJ jG : Int32} (h : wp_X0_readyHere P dN uU gF qF mX oE dY jE eW eY fY gJ jG) (hq : ∀ o : Int32, o = F_X0_readyHere dN uU gF qF mX oE dY jE eW eY fY gJ jG -> P o -> Q o) : wp_X0_readyHere Q dN uU gF qF mX oE dY jE eW eY fY gJ jG := by
  rw [F_X0_readyHere] at hq
  refine And.intro (fun c1 => ?_) (fun c1 => ?_)
  · have h := And.left h c1
    rw [if_neg c1] at hq
    refine du_X3_reach h ?_
    intro h
    refine du_X3_within h ?_
    intro h
    refine du_X0_hanging h ?_
    intro h
    refine du_X3_ripeBy h ?_
    intro h
    refine ae ?_
    have h := h _ rfl
    have q9 := hq _ rfl
    exact q9 h
  · have h := And.right h c1
    rw [if_pos c1] at hq
    have q9 := hq _ rfl
    exact q9 h
theorem du_X0_readyHere {P Q : Int32 -> Prop} {dN : Int32} {uU gF qF mX oE dY : Nat -> Int32} {jE eW eY fY gJ jG : Int32} (h : wp_X0_readyHere P dN uU gF qF mX oE dY jE eW eY fY gJ jG) (hq : P (F_X0_readyHere dN uU gF qF mX oE dY jE eW eY fY gJ jG) -> Q (F_X0_readyHere dN uU gF qF mX oE dY jE eW eY fY gJ jG)) : wp_X0_readyHere Q dN uU gF qF mX oE dY jE eW eY fY gJ jG := dt_X0_readyHere h (fun o eo => by rw [eo]; exact hq)
noncomputable def j_X0_shakeTree_63 {R : Type} (k29 : Int32 -> Int32 -> Int32 -> Int32 -> Int32 -> Int32 -> Int32 -> R) (dN : Int32) (uU gF qF mX oE dY : Nat -> Int32) (jE eW fY gJ jG x1 x2 x3 x4 eY dU nU : Int32) : R := k29 x1 x2 x3 (x4 + 1) eY dU nU
noncomputable def bd_X0_shakeTree_29 (dN : Int32) (uU gF qF mX oE dY : Nat -> Int32) (jE eW fY gJ jG x1 x2 eY dU nU c s : Int32) : Int32 := if ((x2 >>> (c &&& 31)) &&& 1) = 0 then (j_X0_shakeTree_63 (fun q0 q1 q2 q3 q4 q5 q6 => q2) dN uU gF qF mX oE dY jE eW fY gJ jG x1 x2 s c eY dU nU) else (j_X0_shakeTree_63 (fun q0 q1 q2 q3 q4 q5 q6 => q2) dN uU gF qF mX oE dY jE eW fY gJ jG x1 x2 (s ||| (F_X3_lowerThan c x1 dN uU gF)) c eY dU nU)
noncomputable def ex_X0_shakeTree_29 {R : Type} (po : Int32 -> Int32 -> Int32 -> Int32 -> R) (dN : Int32) (uU gF qF mX oE dY : Nat -> Int32) (jE eW fY gJ jG x1 x2 eY dU nU c s : Int32) : R := po (aLS x2) (eY ||| x2) (dU ||| s) (F_X2_spend 5 nU)
set_option maxHeartbeats 200000 in
set_option maxRecDepth 10000 in
theorem dl_X0_shakeTree_29 {P Q : Int32 -> Int32 -> Int32 -> Int32 -> Prop} {dN : Int32} {uU gF qF mX oE dY : Nat -> Int32} {jE eW fY gJ jG x1 x2 eY dU nU a : Int32} {i : Nat} (hi0 : i < 2147483648) (hE : ∀ (c : Int32) (s : Int32), c = nI (i + (Int32.toInt dN - ((i : Nat) : Int)).toNat) -> s = itr (bd_X0_shakeTree_29 dN uU gF qF mX oE dY jE eW fY gJ jG x1 x2 eY dU nU) a i (Int32.toInt dN - ((i : Nat) : Int)).toNat -> (∀ v_3 : Int32, v_3 = eY ||| x2 -> ∀ v_4 : Int32, v_4 = dU ||| s -> wp_X2_spend (fun aIm => aBb (fun r_6 => P r_6 v_3 v_4 aIm) x2) 5 nU) -> (∀ v_3 : Int32, v_3 = eY ||| x2 -> ∀ v_4 : Int32, v_4 = dU ||| s -> wp_X2_spend (fun aIm => aBb (fun r_6 => Q r_6 v_3 v_4 aIm) x2) 5 nU)) : ∀ (n k : Nat) (c : Int32), c = nI (i + k) -> k <= (Int32.toInt dN - ((i : Nat) : Int)).toNat -> wb_X0_shakeTree_29 P dN uU gF qF mX oE dY jE eW fY gJ jG n x1 x2 (itr (bd_X0_shakeTree_29 dN uU gF qF mX oE dY jE eW fY gJ jG x1 x2 eY dU nU) a i k) c eY dU nU -> wb_X0_shakeTree_29 Q dN uU gF qF mX oE dY jE eW fY gJ jG n x1 x2 (itr (bd_X0_shakeTree_29 dN uU gF qF mX oE dY jE eW fY gJ jG x1 x2 eY dU nU) a i k) c eY dU nU := by
  intro n
  induction n with
  | zero => intro k c hc hk h; exact False.elim h
  | succ n ih =>
    intro k c hc hk h
    have hr := aAT dN
    have hi : Int32.toInt c = ((i + k : Nat) : Int) := by rw [hc]; exact nI_toInt (by omega)
    refine And.intro (fun t0 => ?_) (fun t0 => ?_)
    · have h := And.left h t0
      have t1 := (aAO _ _).mp t0
      have hk2 : k = (Int32.toInt dN - ((i : Nat) : Int)).toNat := by omega
      subst hk2
      exact hE _ _ hc rfl h
    · have h := And.right h t0
      have t1 := mt (aAO _ _).mpr t0
      have hs : ∀ o : Int32, o = itr (bd_X0_shakeTree_29 dN uU gF qF mX oE dY jE eW fY gJ jG x1 x2 eY dU nU) a i (k + 1) -> wb_X0_shakeTree_29 P dN uU gF qF mX oE dY jE eW fY gJ jG n x1 x2 o (c + 1) eY dU nU -> wb_X0_shakeTree_29 Q dN uU gF qF mX oE dY jE eW fY gJ jG n x1 x2 o (c + 1) eY dU nU := by
        intro o eo h9
        have q := ih (k + 1) (c + 1) (by rw [hc]; exact nI_1 _) (by omega)
        rw [<- eo] at q
        exact q h9
      rw [itr_s, <- hc, bd_X0_shakeTree_29] at hs
      refine ae ?_
      have h := h _ rfl
      refine And.intro (fun c1 => ?_) (fun c1 => ?_)
      · have h := And.left h c1
        rw [if_pos c1] at hs
        rw [j_X0_shakeTree_63] at hs
        unfold ws_X0_shakeTree_63 at h ⊢
        refine ae ?_
        have h := h _ rfl
        have q9 := hs _ rfl
        exact q9 h
      · have h := And.right h c1
        rw [if_neg c1] at hs
        refine du_X3_lowerThan h ?_
        intro h
        refine ae ?_
        have h := h _ rfl
        rw [j_X0_shakeTree_63] at hs
        unfold ws_X0_shakeTree_63 at h ⊢
        refine ae ?_
        have h := h _ rfl
        have q9 := hs _ rfl
        exact q9 h
noncomputable def aMv (dN : Int32) (uU gF qF mX oE dY : Nat -> Int32) (jE eW eY dU fY gJ jG nU : Int32) : Int32 × Int32 × Int32 × Int32 := if fY = (-1) then ((-2), eY, dU, nU) else (ex_X0_shakeTree_29 (fun o0 o1 o2 o3 => (o0, o1, o2, o3)) dN uU gF qF mX oE dY jE eW fY gJ jG (aVS dN jE eW eY) (F_X0_readyHere dN uU gF qF mX oE dY jE eW eY fY gJ jG) eY dU nU (nI (0 + (Int32.toInt dN - ((0 : Nat) : Int)).toNat)) (itr (bd_X0_shakeTree_29 dN uU gF qF mX oE dY jE eW fY gJ jG (aVS dN jE eW eY) (F_X0_readyHere dN uU gF qF mX oE dY jE eW eY fY gJ jG) eY dU nU) (F_X0_readyHere dN uU gF qF mX oE dY jE eW eY fY gJ jG) 0 (Int32.toInt dN - ((0 : Nat) : Int)).toNat))
set_option maxHeartbeats 200000 in
set_option maxRecDepth 10000 in
theorem dt_X0_shakeTree {P Q : Int32 -> Int32 -> Int32 -> Int32 -> Prop} {dN : Int32} {uU gF qF mX oE dY : Nat -> Int32} {jE eW eY dU fY gJ jG nU : Int32} (h : wp_X0_shakeTree P dN uU gF qF mX oE dY jE eW eY dU fY gJ jG nU) (hq : ∀ o : Int32 × Int32 × Int32 × Int32, o = aMv dN uU gF qF mX oE dY jE eW eY dU fY gJ jG nU -> P o.1 o.2.1 o.2.2.1 o.2.2.2 -> Q o.1 o.2.1 o.2.2.1 o.2.2.2) : wp_X0_shakeTree Q dN uU gF qF mX oE dY jE eW eY dU fY gJ jG nU := by
  rw [aMv] at hq
  refine And.intro (fun c1 => ?_) (fun c1 => ?_)
  · have h := And.left h c1
    rw [if_neg c1] at hq
    refine du_X0_hanging h ?_
    intro h
    refine du_X0_readyHere h ?_
    intro h
    obtain ⟨n2, h⟩ := h
    refine ⟨n2, dl_X0_shakeTree_29 (a := (F_X0_readyHere dN uU gF qF mX oE dY jE eW eY fY gJ jG)) (i := 0) (by decide) ?_ n2 0 0 (by decide) (Nat.zero_le _) h⟩
    intro cc3 s4 ec5 es6 h
    rw [<- ec5, <- es6, ex_X0_shakeTree_29] at hq
    refine ae ?_
    have h := h _ rfl
    refine ae ?_
    have h := h _ rfl
    refine du_X2_spend h ?_
    intro h
    refine du_J6_bitCount_0f7a4 h ?_
    intro h
    have q9 := hq _ rfl
    dsimp only at q9
    exact q9 h
  · have h := And.right h c1
    rw [if_pos c1] at hq
    have q9 := hq _ rfl
    dsimp only at q9
    exact q9 h
theorem du_X0_shakeTree {P Q : Int32 -> Int32 -> Int32 -> Int32 -> Prop} {dN : Int32} {uU gF qF mX oE dY : Nat -> Int32} {jE eW eY dU fY gJ jG nU : Int32} (h : wp_X0_shakeTree P dN uU gF qF mX oE dY jE eW eY dU fY gJ jG nU) (hq : P (aMv dN uU gF qF mX oE dY jE eW eY dU fY gJ jG nU).1 (aMv dN uU gF qF mX oE dY jE eW eY dU fY gJ jG nU).2.1 (aMv dN uU gF qF mX oE dY jE eW eY dU fY gJ jG nU).2.2.1 (aMv dN uU gF qF mX oE dY jE eW eY dU fY gJ jG nU).2.2.2 -> Q (aMv dN uU gF qF mX oE dY jE eW eY dU fY gJ jG nU).1 (aMv dN uU gF qF mX oE dY jE eW eY dU fY gJ jG nU).2.1 (aMv dN uU gF qF mX oE dY jE eW eY dU fY gJ jG nU).2.2.1 (aMv dN uU gF qF mX oE dY jE eW eY dU fY gJ jG nU).2.2.2) : wp_X0_shakeTree Q dN uU gF qF mX oE dY jE eW eY dU fY gJ jG nU := dt_X0_shakeTree h (fun o eo => by rw [eo]; exact hq)
noncomputable def F_X9_shake (dN : Int32) (uU gF qF mX oE dY : Nat -> Int32) (jE eW eY dU fY gJ jG nU pR uM : Int32) (tD : Nat -> Int32) : Int32 × Int32 × Int32 × Int32 × Int32 × Int32 × (Nat -> Int32) := ((aIP (aMv dN uU gF qF mX oE dY jE eW eY dU fY gJ jG nU).1 pR uM).1, (aMv dN uU gF qF mX oE dY jE eW eY dU fY gJ jG nU).2.1, (aMv dN uU gF qF mX oE dY jE eW eY dU fY gJ jG nU).2.2.1, (aMv dN uU gF qF mX oE dY jE eW eY dU fY gJ jG nU).2.2.2, (aIP (aMv dN uU gF qF mX oE dY jE eW eY dU fY gJ jG nU).1 pR uM).2.1, (aIP (aMv dN uU gF qF mX oE dY jE eW eY dU fY gJ jG nU).1 pR uM).2.2, (F_X4_note jE eW eY dU fY gJ jG nU uM tD))
set_option maxHeartbeats 200000 in
set_option maxRecDepth 10000 in
theorem dt_X9_shake {P Q : Int32 -> Int32 -> Int32 -> Int32 -> Int32 -> Int32 -> (Nat -> Int32) -> Prop} {dN : Int32} {uU gF qF mX oE dY : Nat -> Int32} {jE eW eY dU fY gJ jG nU pR uM : Int32} {tD : Nat -> Int32} (h : wp_X9_shake P dN uU gF qF mX oE dY jE eW eY dU fY gJ jG nU pR uM tD) (hq : ∀ o : Int32 × Int32 × Int32 × Int32 × Int32 × Int32 × (Nat -> Int32), o = F_X9_shake dN uU gF qF mX oE dY jE eW eY dU fY gJ jG nU pR uM tD -> P o.1 o.2.1 o.2.2.1 o.2.2.2.1 o.2.2.2.2.1 o.2.2.2.2.2.1 o.2.2.2.2.2.2 -> Q o.1 o.2.1 o.2.2.1 o.2.2.2.1 o.2.2.2.2.1 o.2.2.2.2.2.1 o.2.2.2.2.2.2) : wp_X9_shake Q dN uU gF qF mX oE dY jE eW eY dU fY gJ jG nU pR uM tD := by
  rw [F_X9_shake] at hq
  refine du_X4_note h ?_
  intro h
  refine du_X0_shakeTree h ?_
  intro h
  refine du_X9_holdIfDone h ?_
  intro h
  have q9 := hq _ rfl
  dsimp only at q9
  exact q9 h
theorem du_X9_shake {P Q : Int32 -> Int32 -> Int32 -> Int32 -> Int32 -> Int32 -> (Nat -> Int32) -> Prop} {dN : Int32} {uU gF qF mX oE dY : Nat -> Int32} {jE eW eY dU fY gJ jG nU pR uM : Int32} {tD : Nat -> Int32} (h : wp_X9_shake P dN uU gF qF mX oE dY jE eW eY dU fY gJ jG nU pR uM tD) (hq : P (F_X9_shake dN uU gF qF mX oE dY jE eW eY dU fY gJ jG nU pR uM tD).1 (F_X9_shake dN uU gF qF mX oE dY jE eW eY dU fY gJ jG nU pR uM tD).2.1 (F_X9_shake dN uU gF qF mX oE dY jE eW eY dU fY gJ jG nU pR uM tD).2.2.1 (F_X9_shake dN uU gF qF mX oE dY jE eW eY dU fY gJ jG nU pR uM tD).2.2.2.1 (F_X9_shake dN uU gF qF mX oE dY jE eW eY dU fY gJ jG nU pR uM tD).2.2.2.2.1 (F_X9_shake dN uU gF qF mX oE dY jE eW eY dU fY gJ jG nU pR uM tD).2.2.2.2.2.1 (F_X9_shake dN uU gF qF mX oE dY jE eW eY dU fY gJ jG nU pR uM tD).2.2.2.2.2.2 -> Q (F_X9_shake dN uU gF qF mX oE dY jE eW eY dU fY gJ jG nU pR uM tD).1 (F_X9_shake dN uU gF qF mX oE dY jE eW eY dU fY gJ jG nU pR uM tD).2.1 (F_X9_shake dN uU gF qF mX oE dY jE eW eY dU fY gJ jG nU pR uM tD).2.2.1 (F_X9_shake dN uU gF qF mX oE dY jE eW eY dU fY gJ jG nU pR uM tD).2.2.2.1 (F_X9_shake dN uU gF qF mX oE dY jE eW eY dU fY gJ jG nU pR uM tD).2.2.2.2.1 (F_X9_shake dN uU gF qF mX oE dY jE eW eY dU fY gJ jG nU pR uM tD).2.2.2.2.2.1 (F_X9_shake dN uU gF qF mX oE dY jE eW eY dU fY gJ jG nU pR uM tD).2.2.2.2.2.2) : wp_X9_shake Q dN uU gF qF mX oE dY jE eW eY dU fY gJ jG nU pR uM tD := dt_X9_shake h (fun o eo => by rw [eo]; exact hq)
theorem dw_X9_shake {Q : Int32 -> Int32 -> Int32 -> Int32 -> Int32 -> Int32 -> (Nat -> Int32) -> Prop} {dN : Int32} {uU gF qF mX oE dY : Nat -> Int32} {jE eW eY dU fY gJ jG nU pR uM : Int32} {tD : Nat -> Int32} (h : wp_X9_shake (fun o0 o1 o2 o3 o4 o5 o6 => (o0, o1, o2, o3, o4, o5, o6) = F_X9_shake dN uU gF qF mX oE dY jE eW eY dU fY gJ jG nU pR uM tD -> Q o0 o1 o2 o3 o4 o5 o6) dN uU gF qF mX oE dY jE eW eY dU fY gJ jG nU pR uM tD) : wp_X9_shake Q dN uU gF qF mX oE dY jE eW eY dU fY gJ jG nU pR uM tD := dt_X9_shake h (fun o eo hp => hp eo)
noncomputable def aH2 (jE eW fY jG nU : Int32) : Int32 × Int32 × Int32 × Int32 × Int32 × Int32 := if jG < 9 then ((jG + 1), (F_X2_emptyApron jE eW).1, (F_X2_emptyApron jE eW).2, (-1), (jG + 1), 0) else ((-1), jE, eW, fY, jG, nU)
set_option maxHeartbeats 200000 in
set_option maxRecDepth 10000 in
theorem dt_X0_sleepOver {P Q : Int32 -> Int32 -> Int32 -> Int32 -> Int32 -> Int32 -> Prop} {jE eW fY jG nU : Int32} (h : wp_X0_sleepOver P jE eW fY jG nU) (hq : ∀ o : Int32 × Int32 × Int32 × Int32 × Int32 × Int32, o = aH2 jE eW fY jG nU -> P o.1 o.2.1 o.2.2.1 o.2.2.2.1 o.2.2.2.2.1 o.2.2.2.2.2 -> Q o.1 o.2.1 o.2.2.1 o.2.2.2.1 o.2.2.2.2.1 o.2.2.2.2.2) : wp_X0_sleepOver Q jE eW fY jG nU := by
  rw [aH2] at hq
  refine And.intro (fun c1 => ?_) (fun c1 => ?_)
  · have h := And.left h c1
    rw [if_pos c1] at hq
    refine ae ?_
    have h := h _ rfl
    refine du_X2_emptyApron h ?_
    intro h
    have q9 := hq _ rfl
    dsimp only at q9
    exact q9 h
  · have h := And.right h c1
    rw [if_neg c1] at hq
    have q9 := hq _ rfl
    dsimp only at q9
    exact q9 h
theorem du_X0_sleepOver {P Q : Int32 -> Int32 -> Int32 -> Int32 -> Int32 -> Int32 -> Prop} {jE eW fY jG nU : Int32} (h : wp_X0_sleepOver P jE eW fY jG nU) (hq : P (aH2 jE eW fY jG nU).1 (aH2 jE eW fY jG nU).2.1 (aH2 jE eW fY jG nU).2.2.1 (aH2 jE eW fY jG nU).2.2.2.1 (aH2 jE eW fY jG nU).2.2.2.2.1 (aH2 jE eW fY jG nU).2.2.2.2.2 -> Q (aH2 jE eW fY jG nU).1 (aH2 jE eW fY jG nU).2.1 (aH2 jE eW fY jG nU).2.2.1 (aH2 jE eW fY jG nU).2.2.2.1 (aH2 jE eW fY jG nU).2.2.2.2.1 (aH2 jE eW fY jG nU).2.2.2.2.2) : wp_X0_sleepOver Q jE eW fY jG nU := dt_X0_sleepOver h (fun o eo => by rw [eo]; exact hq)
noncomputable def F_X9_sleep (jE eW eY dU fY gJ jG nU pR uM : Int32) (tD : Nat -> Int32) : Int32 × Int32 × Int32 × Int32 × Int32 × Int32 × Int32 × Int32 × (Nat -> Int32) := ((aIP (aH2 jE eW fY jG nU).1 pR uM).1, (aH2 jE eW fY jG nU).2.1, (aH2 jE eW fY jG nU).2.2.1, (aH2 jE eW fY jG nU).2.2.2.1, (aH2 jE eW fY jG nU).2.2.2.2.1, (aH2 jE eW fY jG nU).2.2.2.2.2, (aIP (aH2 jE eW fY jG nU).1 pR uM).2.1, (aIP (aH2 jE eW fY jG nU).1 pR uM).2.2, (F_X4_note jE eW eY dU fY gJ jG nU uM tD))
set_option maxHeartbeats 200000 in
set_option maxRecDepth 10000 in
theorem dt_X9_sleep {P Q : Int32 -> Int32 -> Int32 -> Int32 -> Int32 -> Int32 -> Int32 -> Int32 -> (Nat -> Int32) -> Prop} {jE eW eY dU fY gJ jG nU pR uM : Int32} {tD : Nat -> Int32} (h : wp_X9_sleep P jE eW eY dU fY gJ jG nU pR uM tD) (hq : ∀ o : Int32 × Int32 × Int32 × Int32 × Int32 × Int32 × Int32 × Int32 × (Nat -> Int32), o = F_X9_sleep jE eW eY dU fY gJ jG nU pR uM tD -> P o.1 o.2.1 o.2.2.1 o.2.2.2.1 o.2.2.2.2.1 o.2.2.2.2.2.1 o.2.2.2.2.2.2.1 o.2.2.2.2.2.2.2.1 o.2.2.2.2.2.2.2.2 -> Q o.1 o.2.1 o.2.2.1 o.2.2.2.1 o.2.2.2.2.1 o.2.2.2.2.2.1 o.2.2.2.2.2.2.1 o.2.2.2.2.2.2.2.1 o.2.2.2.2.2.2.2.2) : wp_X9_sleep Q jE eW eY dU fY gJ jG nU pR uM tD := by
  rw [F_X9_sleep] at hq
  refine du_X4_note h ?_
  intro h
  refine du_X0_sleepOver h ?_
  intro h
  refine du_X9_holdIfDone h ?_
  intro h
  have q9 := hq _ rfl
  dsimp only at q9
  exact q9 h
theorem du_X9_sleep {P Q : Int32 -> Int32 -> Int32 -> Int32 -> Int32 -> Int32 -> Int32 -> Int32 -> (Nat -> Int32) -> Prop} {jE eW eY dU fY gJ jG nU pR uM : Int32} {tD : Nat -> Int32} (h : wp_X9_sleep P jE eW eY dU fY gJ jG nU pR uM tD) (hq : P (F_X9_sleep jE eW eY dU fY gJ jG nU pR uM tD).1 (F_X9_sleep jE eW eY dU fY gJ jG nU pR uM tD).2.1 (F_X9_sleep jE eW eY dU fY gJ jG nU pR uM tD).2.2.1 (F_X9_sleep jE eW eY dU fY gJ jG nU pR uM tD).2.2.2.1 (F_X9_sleep jE eW eY dU fY gJ jG nU pR uM tD).2.2.2.2.1 (F_X9_sleep jE eW eY dU fY gJ jG nU pR uM tD).2.2.2.2.2.1 (F_X9_sleep jE eW eY dU fY gJ jG nU pR uM tD).2.2.2.2.2.2.1 (F_X9_sleep jE eW eY dU fY gJ jG nU pR uM tD).2.2.2.2.2.2.2.1 (F_X9_sleep jE eW eY dU fY gJ jG nU pR uM tD).2.2.2.2.2.2.2.2 -> Q (F_X9_sleep jE eW eY dU fY gJ jG nU pR uM tD).1 (F_X9_sleep jE eW eY dU fY gJ jG nU pR uM tD).2.1 (F_X9_sleep jE eW eY dU fY gJ jG nU pR uM tD).2.2.1 (F_X9_sleep jE eW eY dU fY gJ jG nU pR uM tD).2.2.2.1 (F_X9_sleep jE eW eY dU fY gJ jG nU pR uM tD).2.2.2.2.1 (F_X9_sleep jE eW eY dU fY gJ jG nU pR uM tD).2.2.2.2.2.1 (F_X9_sleep jE eW eY dU fY gJ jG nU pR uM tD).2.2.2.2.2.2.1 (F_X9_sleep jE eW eY dU fY gJ jG nU pR uM tD).2.2.2.2.2.2.2.1 (F_X9_sleep jE eW eY dU fY gJ jG nU pR uM tD).2.2.2.2.2.2.2.2) : wp_X9_sleep Q jE eW eY dU fY gJ jG nU pR uM tD := dt_X9_sleep h (fun o eo => by rw [eo]; exact hq)
theorem dw_X9_sleep {Q : Int32 -> Int32 -> Int32 -> Int32 -> Int32 -> Int32 -> Int32 -> Int32 -> (Nat -> Int32) -> Prop} {jE eW eY dU fY gJ jG nU pR uM : Int32} {tD : Nat -> Int32} (h : wp_X9_sleep (fun o0 o1 o2 o3 o4 o5 o6 o7 o8 => (o0, o1, o2, o3, o4, o5, o6, o7, o8) = F_X9_sleep jE eW eY dU fY gJ jG nU pR uM tD -> Q o0 o1 o2 o3 o4 o5 o6 o7 o8) jE eW eY dU fY gJ jG nU pR uM tD) : wp_X9_sleep Q jE eW eY dU fY gJ jG nU pR uM tD := dt_X9_sleep h (fun o eo hp => hp eo)
noncomputable def j_X9_doAct_143 {R : Type} (po : Int32 -> Int32 -> Int32 -> Int32 -> Int32 -> Int32 -> Int32 -> Int32 -> Int32 -> (Nat -> Int32) -> (Nat -> Int32) -> R) (dN bD : Int32) (uU gF pL qF mX oE dY : Nat -> Int32) (pQ : Int32) (pN : Nat -> Int32) (jE eW eY dU fY gJ jG nU : Int32) (qY qU : Nat -> Int32) : R := po ((aH2 jE eW fY jG nU).1) ((aH2 jE eW fY jG nU).2.1) ((aH2 jE eW fY jG nU).2.2.1) eY dU ((aH2 jE eW fY jG nU).2.2.2.1) gJ ((aH2 jE eW fY jG nU).2.2.2.2.1) ((aH2 jE eW fY jG nU).2.2.2.2.2) qY qU
noncomputable def aCI (p0 p1 dN bD : Int32) (uU gF pL qF mX oE dY : Nat -> Int32) (jE eW eY dU fY gJ jG nU pQ : Int32) (qY qU pN : Nat -> Int32) : Int32 × Int32 × Int32 × Int32 × Int32 × Int32 × Int32 × Int32 × Int32 × (Nat -> Int32) × (Nat -> Int32) := if p0 = 97 then ((bBa 1 gJ).1, jE, eW, eY, dU, fY, (bBa 1 gJ).2, jG, nU, qY, qU) else (if p0 = 100 then ((aVR oE jE eW fY nU).1, (aVR oE jE eW fY nU).2.1, (aVR oE jE eW fY nU).2.2.1, eY, dU, fY, gJ, jG, (aVR oE jE eW fY nU).2.2.2, qY, qU) else (if p0 = 104 then ((aG4 p1 1 dN uU gF pL qF mX oE dY jE eW eY dU fY gJ jG nU pQ qY qU pN).1, (aG4 p1 1 dN uU gF pL qF mX oE dY jE eW eY dU fY gJ jG nU pQ qY qU pN).2.1, eW, eY, (aG4 p1 1 dN uU gF pL qF mX oE dY jE eW eY dU fY gJ jG nU pQ qY qU pN).2.2.1, fY, gJ, jG, (aG4 p1 1 dN uU gF pL qF mX oE dY jE eW eY dU fY gJ jG nU pQ qY qU pN).2.2.2.1, (aG4 p1 1 dN uU gF pL qF mX oE dY jE eW eY dU fY gJ jG nU pQ qY qU pN).2.2.2.2.1, (aG4 p1 1 dN uU gF pL qF mX oE dY jE eW eY dU fY gJ jG nU pQ qY qU pN).2.2.2.2.2) else (if p0 = 107 then ((aMv dN uU gF qF mX oE dY jE eW eY dU fY gJ jG nU).1, jE, eW, (aMv dN uU gF qF mX oE dY jE eW eY dU fY gJ jG nU).2.1, (aMv dN uU gF qF mX oE dY jE eW eY dU fY gJ jG nU).2.2.1, fY, gJ, jG, (aMv dN uU gF qF mX oE dY jE eW eY dU fY gJ jG nU).2.2.2, qY, qU) else (if p0 = 109 then ((aJn p1 bD mX oE dY jE eW fY nU).1, (aJn p1 bD mX oE dY jE eW fY nU).2.1, (aJn p1 bD mX oE dY jE eW fY nU).2.2.1, eY, dU, (aJn p1 bD mX oE dY jE eW fY nU).2.2.2.1, gJ, jG, (aJn p1 bD mX oE dY jE eW fY nU).2.2.2.2, qY, qU) else (if p0 = 111 then ((bBa 0 gJ).1, jE, eW, eY, dU, fY, (bBa 0 gJ).2, jG, nU, qY, qU) else (if p0 = 112 then ((aG4 p1 0 dN uU gF pL qF mX oE dY jE eW eY dU fY gJ jG nU pQ qY qU pN).1, (aG4 p1 0 dN uU gF pL qF mX oE dY jE eW eY dU fY gJ jG nU pQ qY qU pN).2.1, eW, eY, (aG4 p1 0 dN uU gF pL qF mX oE dY jE eW eY dU fY gJ jG nU pQ qY qU pN).2.2.1, fY, gJ, jG, (aG4 p1 0 dN uU gF pL qF mX oE dY jE eW eY dU fY gJ jG nU pQ qY qU pN).2.2.2.1, (aG4 p1 0 dN uU gF pL qF mX oE dY jE eW eY dU fY gJ jG nU pQ qY qU pN).2.2.2.2.1, (aG4 p1 0 dN uU gF pL qF mX oE dY jE eW eY dU fY gJ jG nU pQ qY qU pN).2.2.2.2.2) else (j_X9_doAct_143 (fun o0 o1 o2 o3 o4 o5 o6 o7 o8 o9 o10 => (o0, o1, o2, o3, o4, o5, o6, o7, o8, o9, o10)) dN bD uU gF pL qF mX oE dY pQ pN jE eW eY dU fY gJ jG nU qY qU)))))))
set_option maxHeartbeats 200000 in
set_option maxRecDepth 10000 in
theorem dt_X9_doAct {P Q : Int32 -> Int32 -> Int32 -> Int32 -> Int32 -> Int32 -> Int32 -> Int32 -> Int32 -> (Nat -> Int32) -> (Nat -> Int32) -> Prop} {p0 p1 dN bD : Int32} {uU gF pL qF mX oE dY : Nat -> Int32} {jE eW eY dU fY gJ jG nU pQ : Int32} {qY qU pN : Nat -> Int32} (h : wp_X9_doAct P p0 p1 dN bD uU gF pL qF mX oE dY jE eW eY dU fY gJ jG nU pQ qY qU pN) (hq : ∀ o : Int32 × Int32 × Int32 × Int32 × Int32 × Int32 × Int32 × Int32 × Int32 × (Nat -> Int32) × (Nat -> Int32), o = aCI p0 p1 dN bD uU gF pL qF mX oE dY jE eW eY dU fY gJ jG nU pQ qY qU pN -> P o.1 o.2.1 o.2.2.1 o.2.2.2.1 o.2.2.2.2.1 o.2.2.2.2.2.1 o.2.2.2.2.2.2.1 o.2.2.2.2.2.2.2.1 o.2.2.2.2.2.2.2.2.1 o.2.2.2.2.2.2.2.2.2.1 o.2.2.2.2.2.2.2.2.2.2 -> Q o.1 o.2.1 o.2.2.1 o.2.2.2.1 o.2.2.2.2.1 o.2.2.2.2.2.1 o.2.2.2.2.2.2.1 o.2.2.2.2.2.2.2.1 o.2.2.2.2.2.2.2.2.1 o.2.2.2.2.2.2.2.2.2.1 o.2.2.2.2.2.2.2.2.2.2) : wp_X9_doAct Q p0 p1 dN bD uU gF pL qF mX oE dY jE eW eY dU fY gJ jG nU pQ qY qU pN := by
  rw [aCI] at hq
  refine (And.intro (fun c1 => ?_) (And.intro (fun c2 => ?_) (And.intro (fun c3 => ?_) (And.intro (fun c4 => ?_) (And.intro (fun c5 => ?_) (And.intro (fun c6 => ?_) (And.intro (fun c7 => ?_) (fun c1 c2 c3 c4 c5 c6 c7 => ?_))))))))
  · have h := And.left h c1
    rw [if_pos c1] at hq
    refine du_X0_setHelper h ?_
    intro h
    have q9 := hq _ rfl
    dsimp only at q9
    exact q9 h
  · have h := And.left (And.right h) c2
    rw [if_neg (fun e9 => absurd (e9.symm.trans c2) (by decide)), if_pos c2] at hq
    refine du_X0_goDown h ?_
    intro h
    have q9 := hq _ rfl
    dsimp only at q9
    exact q9 h
  · have h := And.left (And.right (And.right h)) c3
    rw [if_neg (fun e9 => absurd (e9.symm.trans c3) (by decide)), if_neg (fun e9 => absurd (e9.symm.trans c3) (by decide)), if_pos c3] at hq
    refine du_X0_pickFruit h ?_
    intro h
    have q9 := hq _ rfl
    dsimp only at q9
    exact q9 h
  · have h := And.left (And.right (And.right (And.right h))) c4
    rw [if_neg (fun e9 => absurd (e9.symm.trans c4) (by decide)), if_neg (fun e9 => absurd (e9.symm.trans c4) (by decide)), if_neg (fun e9 => absurd (e9.symm.trans c4) (by decide)), if_pos c4] at hq
    refine du_X0_shakeTree h ?_
    intro h
    have q9 := hq _ rfl
    dsimp only at q9
    exact q9 h
  · have h := And.left (And.right (And.right (And.right (And.right h)))) c5
    rw [if_neg (fun e9 => absurd (e9.symm.trans c5) (by decide)), if_neg (fun e9 => absurd (e9.symm.trans c5) (by decide)), if_neg (fun e9 => absurd (e9.symm.trans c5) (by decide)), if_neg (fun e9 => absurd (e9.symm.trans c5) (by decide)), if_pos c5] at hq
    refine du_X0_setLadder h ?_
    intro h
    have q9 := hq _ rfl
    dsimp only at q9
    exact q9 h
  · have h := And.left (And.right (And.right (And.right (And.right (And.right h))))) c6
    rw [if_neg (fun e9 => absurd (e9.symm.trans c6) (by decide)), if_neg (fun e9 => absurd (e9.symm.trans c6) (by decide)), if_neg (fun e9 => absurd (e9.symm.trans c6) (by decide)), if_neg (fun e9 => absurd (e9.symm.trans c6) (by decide)), if_neg (fun e9 => absurd (e9.symm.trans c6) (by decide)), if_pos c6] at hq
    refine du_X0_setHelper h ?_
    intro h
    have q9 := hq _ rfl
    dsimp only at q9
    exact q9 h
  · have h := And.left (And.right (And.right (And.right (And.right (And.right (And.right h)))))) c7
    rw [if_neg (fun e9 => absurd (e9.symm.trans c7) (by decide)), if_neg (fun e9 => absurd (e9.symm.trans c7) (by decide)), if_neg (fun e9 => absurd (e9.symm.trans c7) (by decide)), if_neg (fun e9 => absurd (e9.symm.trans c7) (by decide)), if_neg (fun e9 => absurd (e9.symm.trans c7) (by decide)), if_neg (fun e9 => absurd (e9.symm.trans c7) (by decide)), if_pos c7] at hq
    refine du_X0_pickFruit h ?_
    intro h
    have q9 := hq _ rfl
    dsimp only at q9
    exact q9 h
  · have h := And.right (And.right (And.right (And.right (And.right (And.right (And.right h)))))) c1 c2 c3 c4 c5 c6 c7
    rw [if_neg c1, if_neg c2, if_neg c3, if_neg c4, if_neg c5, if_neg c6, if_neg c7] at hq
    rw [j_X9_doAct_143] at hq
    unfold ws_X9_doAct_143 at h ⊢
    refine du_X0_sleepOver h ?_
    intro h
    have q9 := hq _ rfl
    dsimp only at q9
    exact q9 h
theorem du_X9_doAct {P Q : Int32 -> Int32 -> Int32 -> Int32 -> Int32 -> Int32 -> Int32 -> Int32 -> Int32 -> (Nat -> Int32) -> (Nat -> Int32) -> Prop} {p0 p1 dN bD : Int32} {uU gF pL qF mX oE dY : Nat -> Int32} {jE eW eY dU fY gJ jG nU pQ : Int32} {qY qU pN : Nat -> Int32} (h : wp_X9_doAct P p0 p1 dN bD uU gF pL qF mX oE dY jE eW eY dU fY gJ jG nU pQ qY qU pN) (hq : P (aCI p0 p1 dN bD uU gF pL qF mX oE dY jE eW eY dU fY gJ jG nU pQ qY qU pN).1 (aCI p0 p1 dN bD uU gF pL qF mX oE dY jE eW eY dU fY gJ jG nU pQ qY qU pN).2.1 (aCI p0 p1 dN bD uU gF pL qF mX oE dY jE eW eY dU fY gJ jG nU pQ qY qU pN).2.2.1 (aCI p0 p1 dN bD uU gF pL qF mX oE dY jE eW eY dU fY gJ jG nU pQ qY qU pN).2.2.2.1 (aCI p0 p1 dN bD uU gF pL qF mX oE dY jE eW eY dU fY gJ jG nU pQ qY qU pN).2.2.2.2.1 (aCI p0 p1 dN bD uU gF pL qF mX oE dY jE eW eY dU fY gJ jG nU pQ qY qU pN).2.2.2.2.2.1 (aCI p0 p1 dN bD uU gF pL qF mX oE dY jE eW eY dU fY gJ jG nU pQ qY qU pN).2.2.2.2.2.2.1 (aCI p0 p1 dN bD uU gF pL qF mX oE dY jE eW eY dU fY gJ jG nU pQ qY qU pN).2.2.2.2.2.2.2.1 (aCI p0 p1 dN bD uU gF pL qF mX oE dY jE eW eY dU fY gJ jG nU pQ qY qU pN).2.2.2.2.2.2.2.2.1 (aCI p0 p1 dN bD uU gF pL qF mX oE dY jE eW eY dU fY gJ jG nU pQ qY qU pN).2.2.2.2.2.2.2.2.2.1 (aCI p0 p1 dN bD uU gF pL qF mX oE dY jE eW eY dU fY gJ jG nU pQ qY qU pN).2.2.2.2.2.2.2.2.2.2 -> Q (aCI p0 p1 dN bD uU gF pL qF mX oE dY jE eW eY dU fY gJ jG nU pQ qY qU pN).1 (aCI p0 p1 dN bD uU gF pL qF mX oE dY jE eW eY dU fY gJ jG nU pQ qY qU pN).2.1 (aCI p0 p1 dN bD uU gF pL qF mX oE dY jE eW eY dU fY gJ jG nU pQ qY qU pN).2.2.1 (aCI p0 p1 dN bD uU gF pL qF mX oE dY jE eW eY dU fY gJ jG nU pQ qY qU pN).2.2.2.1 (aCI p0 p1 dN bD uU gF pL qF mX oE dY jE eW eY dU fY gJ jG nU pQ qY qU pN).2.2.2.2.1 (aCI p0 p1 dN bD uU gF pL qF mX oE dY jE eW eY dU fY gJ jG nU pQ qY qU pN).2.2.2.2.2.1 (aCI p0 p1 dN bD uU gF pL qF mX oE dY jE eW eY dU fY gJ jG nU pQ qY qU pN).2.2.2.2.2.2.1 (aCI p0 p1 dN bD uU gF pL qF mX oE dY jE eW eY dU fY gJ jG nU pQ qY qU pN).2.2.2.2.2.2.2.1 (aCI p0 p1 dN bD uU gF pL qF mX oE dY jE eW eY dU fY gJ jG nU pQ qY qU pN).2.2.2.2.2.2.2.2.1 (aCI p0 p1 dN bD uU gF pL qF mX oE dY jE eW eY dU fY gJ jG nU pQ qY qU pN).2.2.2.2.2.2.2.2.2.1 (aCI p0 p1 dN bD uU gF pL qF mX oE dY jE eW eY dU fY gJ jG nU pQ qY qU pN).2.2.2.2.2.2.2.2.2.2) : wp_X9_doAct Q p0 p1 dN bD uU gF pL qF mX oE dY jE eW eY dU fY gJ jG nU pQ qY qU pN := dt_X9_doAct h (fun o eo => by rw [eo]; exact hq)
theorem dw_X9_doAct {Q : Int32 -> Int32 -> Int32 -> Int32 -> Int32 -> Int32 -> Int32 -> Int32 -> Int32 -> (Nat -> Int32) -> (Nat -> Int32) -> Prop} {p0 p1 dN bD : Int32} {uU gF pL qF mX oE dY : Nat -> Int32} {jE eW eY dU fY gJ jG nU pQ : Int32} {qY qU pN : Nat -> Int32} (h : wp_X9_doAct (fun o0 o1 o2 o3 o4 o5 o6 o7 o8 o9 o10 => (o0, o1, o2, o3, o4, o5, o6, o7, o8, o9, o10) = aCI p0 p1 dN bD uU gF pL qF mX oE dY jE eW eY dU fY gJ jG nU pQ qY qU pN -> Q o0 o1 o2 o3 o4 o5 o6 o7 o8 o9 o10) p0 p1 dN bD uU gF pL qF mX oE dY jE eW eY dU fY gJ jG nU pQ qY qU pN) : wp_X9_doAct Q p0 p1 dN bD uU gF pL qF mX oE dY jE eW eY dU fY gJ jG nU pQ qY qU pN := dt_X9_doAct h (fun o eo hp => hp eo)
noncomputable def j_X9_doActs_118 {R : Type} (po : Int32 -> Int32 -> Int32 -> Int32 -> Int32 -> Int32 -> Int32 -> Int32 -> Int32 -> (Nat -> Int32) -> (Nat -> Int32) -> Int32 -> Int32 -> (Nat -> Int32) -> Int32 -> (Nat -> Int32) -> R) (wE : Nat -> Int32) (dN bD : Int32) (uU gF pL qF mX oE dY : Nat -> Int32) (pQ : Int32) (pN : Nat -> Int32) (x2 x3 x4 jE eW eY dU fY gJ jG nU : Int32) (qY qU : Nat -> Int32) (pR uM : Int32) (tD : Nat -> Int32) (qB : Int32) (jK : Nat -> Int32) : R := po x2 jE eW eY dU fY gJ jG nU qY qU pR uM tD ((F_X9_tell_ x4 x3 qB jK).1) ((F_X9_tell_ x4 x3 qB jK).2)
noncomputable def j_X9_doActs_107 {R : Type} (po : Int32 -> Int32 -> Int32 -> Int32 -> Int32 -> Int32 -> Int32 -> Int32 -> Int32 -> (Nat -> Int32) -> (Nat -> Int32) -> Int32 -> Int32 -> (Nat -> Int32) -> Int32 -> (Nat -> Int32) -> R) (wE : Nat -> Int32) (dN bD : Int32) (uU gF pL qF mX oE dY : Nat -> Int32) (pQ : Int32) (pN : Nat -> Int32) (x2 x3 x4 jE eW eY dU fY gJ jG nU : Int32) (qY qU : Nat -> Int32) (pR uM : Int32) (tD : Nat -> Int32) (qB : Int32) (jK : Nat -> Int32) : R := if x2 <= 0 then (j_X9_doActs_118 po wE dN bD uU gF pL qF mX oE dY pQ pN x2 x3 x4 jE eW eY dU fY gJ jG nU qY qU pR uM tD qB jK) else (j_X9_doActs_118 po wE dN bD uU gF pL qF mX oE dY pQ pN x2 x3 x4 jE eW eY dU fY gJ jG nU qY qU ((F_X4_hold pR uM).1) ((F_X4_hold pR uM).2) tD qB jK)
noncomputable def j_X9_doActs_101 {R : Type} (k21 : Int32 -> Int32 -> Int32 -> Int32 -> Int32 -> Int32 -> Int32 -> Int32 -> Int32 -> Int32 -> Int32 -> Int32 -> Int32 -> (Nat -> Int32) -> (Nat -> Int32) -> Int32 -> Int32 -> (Nat -> Int32) -> Int32 -> (Nat -> Int32) -> R) (wE : Nat -> Int32) (dN bD : Int32) (uU gF pL qF mX oE dY : Nat -> Int32) (pQ : Int32) (pN : Nat -> Int32) (x1 x2 x3 x4 x5 jE eW eY dU fY gJ jG nU : Int32) (qY qU : Nat -> Int32) (pR uM : Int32) (tD : Nat -> Int32) (qB : Int32) (jK : Nat -> Int32) : R := k21 x1 x2 x3 x4 (x5 + 1) jE eW eY dU fY gJ jG nU qY qU pR uM tD qB jK
noncomputable def j_X9_doActs_99 {R : Type} (k21 : Int32 -> Int32 -> Int32 -> Int32 -> Int32 -> Int32 -> Int32 -> Int32 -> Int32 -> Int32 -> Int32 -> Int32 -> Int32 -> (Nat -> Int32) -> (Nat -> Int32) -> Int32 -> Int32 -> (Nat -> Int32) -> Int32 -> (Nat -> Int32) -> R) (wE : Nat -> Int32) (dN bD : Int32) (uU gF pL qF mX oE dY : Nat -> Int32) (pQ : Int32) (pN : Nat -> Int32) (x1 x2 x4 x5 k0 k1 jE eW eY dU fY gJ jG nU : Int32) (qY qU : Nat -> Int32) (pR uM : Int32) (tD : Nat -> Int32) (qB : Int32) (jK : Nat -> Int32) : R := j_X9_doActs_101 k21 wE dN bD uU gF pL qF mX oE dY pQ pN x1 x2 (k0 + k1) x4 x5 jE eW eY dU fY gJ jG nU qY qU pR uM tD qB jK
noncomputable def j_X9_doActs_94 {R : Type} (k21 : Int32 -> Int32 -> Int32 -> Int32 -> Int32 -> Int32 -> Int32 -> Int32 -> Int32 -> Int32 -> Int32 -> Int32 -> Int32 -> (Nat -> Int32) -> (Nat -> Int32) -> Int32 -> Int32 -> (Nat -> Int32) -> Int32 -> (Nat -> Int32) -> R) (wE : Nat -> Int32) (dN bD : Int32) (uU gF pL qF mX oE dY : Nat -> Int32) (pQ : Int32) (pN : Nat -> Int32) (x1 x2 x4 x5 k0 jE eW eY dU fY gJ jG nU : Int32) (qY qU : Nat -> Int32) (pR uM : Int32) (tD : Nat -> Int32) (qB : Int32) (jK : Nat -> Int32) : R := j_X9_doActs_99 k21 wE dN bD uU gF pL qF mX oE dY pQ pN x1 x2 x4 x5 k0 1 jE eW eY dU fY gJ jG nU qY qU pR uM tD qB jK
noncomputable def fs_X9_doActs_21 {R : Type} (po : Int32 -> Int32 -> Int32 -> Int32 -> Int32 -> Int32 -> Int32 -> Int32 -> Int32 -> (Nat -> Int32) -> (Nat -> Int32) -> Int32 -> Int32 -> (Nat -> Int32) -> Int32 -> (Nat -> Int32) -> R) (wE : Nat -> Int32) (dN bD : Int32) (uU gF pL qF mX oE dY : Nat -> Int32) (pQ : Int32) (pN : Nat -> Int32) (nx : Int32 -> Int32 -> Int32 -> Int32 -> Int32 -> Int32 -> Int32 -> Int32 -> Int32 -> Int32 -> Int32 -> Int32 -> Int32 -> (Nat -> Int32) -> (Nat -> Int32) -> Int32 -> Int32 -> (Nat -> Int32) -> Int32 -> (Nat -> Int32) -> R) (x1 x2 x3 x4 x5 jE eW eY dU fY gJ jG nU : Int32) (qY qU : Nat -> Int32) (pR uM : Int32) (tD : Nat -> Int32) (qB : Int32) (jK : Nat -> Int32) : R := if x1 <= x5 then (j_X9_doActs_107 po wE dN bD uU gF pL qF mX oE dY pQ pN x2 x3 x4 jE eW eY dU fY gJ jG nU qY qU pR uM tD qB jK) else (if 30 <= x5 then (j_X9_doActs_107 po wE dN bD uU gF pL qF mX oE dY pQ pN x2 x3 x4 jE eW eY dU fY gJ jG nU qY qU pR uM tD qB jK) else (if x4 = 0 then (if 0 <= (aCI ((wE x5.toNatClampNeg) / 100) ((wE x5.toNatClampNeg) - (wE x5.toNatClampNeg) / 100 * 100) dN bD uU gF pL qF mX oE dY jE eW eY dU fY gJ jG nU pQ qY qU pN).1 then (if ((wE x5.toNatClampNeg) / 100) = 112 then (j_X9_doActs_94 nx wE dN bD uU gF pL qF mX oE dY pQ pN x1 (x2 + 1) x4 x5 x3 ((aCI ((wE x5.toNatClampNeg) / 100) ((wE x5.toNatClampNeg) - (wE x5.toNatClampNeg) / 100 * 100) dN bD uU gF pL qF mX oE dY jE eW eY dU fY gJ jG nU pQ qY qU pN).2.1) ((aCI ((wE x5.toNatClampNeg) / 100) ((wE x5.toNatClampNeg) - (wE x5.toNatClampNeg) / 100 * 100) dN bD uU gF pL qF mX oE dY jE eW eY dU fY gJ jG nU pQ qY qU pN).2.2.1) ((aCI ((wE x5.toNatClampNeg) / 100) ((wE x5.toNatClampNeg) - (wE x5.toNatClampNeg) / 100 * 100) dN bD uU gF pL qF mX oE dY jE eW eY dU fY gJ jG nU pQ qY qU pN).2.2.2.1) ((aCI ((wE x5.toNatClampNeg) / 100) ((wE x5.toNatClampNeg) - (wE x5.toNatClampNeg) / 100 * 100) dN bD uU gF pL qF mX oE dY jE eW eY dU fY gJ jG nU pQ qY qU pN).2.2.2.2.1) ((aCI ((wE x5.toNatClampNeg) / 100) ((wE x5.toNatClampNeg) - (wE x5.toNatClampNeg) / 100 * 100) dN bD uU gF pL qF mX oE dY jE eW eY dU fY gJ jG nU pQ qY qU pN).2.2.2.2.2.1) ((aCI ((wE x5.toNatClampNeg) / 100) ((wE x5.toNatClampNeg) - (wE x5.toNatClampNeg) / 100 * 100) dN bD uU gF pL qF mX oE dY jE eW eY dU fY gJ jG nU pQ qY qU pN).2.2.2.2.2.2.1) ((aCI ((wE x5.toNatClampNeg) / 100) ((wE x5.toNatClampNeg) - (wE x5.toNatClampNeg) / 100 * 100) dN bD uU gF pL qF mX oE dY jE eW eY dU fY gJ jG nU pQ qY qU pN).2.2.2.2.2.2.2.1) ((aCI ((wE x5.toNatClampNeg) / 100) ((wE x5.toNatClampNeg) - (wE x5.toNatClampNeg) / 100 * 100) dN bD uU gF pL qF mX oE dY jE eW eY dU fY gJ jG nU pQ qY qU pN).2.2.2.2.2.2.2.2.1) ((aCI ((wE x5.toNatClampNeg) / 100) ((wE x5.toNatClampNeg) - (wE x5.toNatClampNeg) / 100 * 100) dN bD uU gF pL qF mX oE dY jE eW eY dU fY gJ jG nU pQ qY qU pN).2.2.2.2.2.2.2.2.2.1) ((aCI ((wE x5.toNatClampNeg) / 100) ((wE x5.toNatClampNeg) - (wE x5.toNatClampNeg) / 100 * 100) dN bD uU gF pL qF mX oE dY jE eW eY dU fY gJ jG nU pQ qY qU pN).2.2.2.2.2.2.2.2.2.2) pR uM tD qB jK) else (if ((wE x5.toNatClampNeg) / 100) = 104 then (j_X9_doActs_94 nx wE dN bD uU gF pL qF mX oE dY pQ pN x1 (x2 + 1) x4 x5 x3 ((aCI ((wE x5.toNatClampNeg) / 100) ((wE x5.toNatClampNeg) - (wE x5.toNatClampNeg) / 100 * 100) dN bD uU gF pL qF mX oE dY jE eW eY dU fY gJ jG nU pQ qY qU pN).2.1) ((aCI ((wE x5.toNatClampNeg) / 100) ((wE x5.toNatClampNeg) - (wE x5.toNatClampNeg) / 100 * 100) dN bD uU gF pL qF mX oE dY jE eW eY dU fY gJ jG nU pQ qY qU pN).2.2.1) ((aCI ((wE x5.toNatClampNeg) / 100) ((wE x5.toNatClampNeg) - (wE x5.toNatClampNeg) / 100 * 100) dN bD uU gF pL qF mX oE dY jE eW eY dU fY gJ jG nU pQ qY qU pN).2.2.2.1) ((aCI ((wE x5.toNatClampNeg) / 100) ((wE x5.toNatClampNeg) - (wE x5.toNatClampNeg) / 100 * 100) dN bD uU gF pL qF mX oE dY jE eW eY dU fY gJ jG nU pQ qY qU pN).2.2.2.2.1) ((aCI ((wE x5.toNatClampNeg) / 100) ((wE x5.toNatClampNeg) - (wE x5.toNatClampNeg) / 100 * 100) dN bD uU gF pL qF mX oE dY jE eW eY dU fY gJ jG nU pQ qY qU pN).2.2.2.2.2.1) ((aCI ((wE x5.toNatClampNeg) / 100) ((wE x5.toNatClampNeg) - (wE x5.toNatClampNeg) / 100 * 100) dN bD uU gF pL qF mX oE dY jE eW eY dU fY gJ jG nU pQ qY qU pN).2.2.2.2.2.2.1) ((aCI ((wE x5.toNatClampNeg) / 100) ((wE x5.toNatClampNeg) - (wE x5.toNatClampNeg) / 100 * 100) dN bD uU gF pL qF mX oE dY jE eW eY dU fY gJ jG nU pQ qY qU pN).2.2.2.2.2.2.2.1) ((aCI ((wE x5.toNatClampNeg) / 100) ((wE x5.toNatClampNeg) - (wE x5.toNatClampNeg) / 100 * 100) dN bD uU gF pL qF mX oE dY jE eW eY dU fY gJ jG nU pQ qY qU pN).2.2.2.2.2.2.2.2.1) ((aCI ((wE x5.toNatClampNeg) / 100) ((wE x5.toNatClampNeg) - (wE x5.toNatClampNeg) / 100 * 100) dN bD uU gF pL qF mX oE dY jE eW eY dU fY gJ jG nU pQ qY qU pN).2.2.2.2.2.2.2.2.2.1) ((aCI ((wE x5.toNatClampNeg) / 100) ((wE x5.toNatClampNeg) - (wE x5.toNatClampNeg) / 100 * 100) dN bD uU gF pL qF mX oE dY jE eW eY dU fY gJ jG nU pQ qY qU pN).2.2.2.2.2.2.2.2.2.2) pR uM tD qB jK) else (j_X9_doActs_99 nx wE dN bD uU gF pL qF mX oE dY pQ pN x1 (x2 + 1) x4 x5 x3 0 ((aCI ((wE x5.toNatClampNeg) / 100) ((wE x5.toNatClampNeg) - (wE x5.toNatClampNeg) / 100 * 100) dN bD uU gF pL qF mX oE dY jE eW eY dU fY gJ jG nU pQ qY qU pN).2.1) ((aCI ((wE x5.toNatClampNeg) / 100) ((wE x5.toNatClampNeg) - (wE x5.toNatClampNeg) / 100 * 100) dN bD uU gF pL qF mX oE dY jE eW eY dU fY gJ jG nU pQ qY qU pN).2.2.1) ((aCI ((wE x5.toNatClampNeg) / 100) ((wE x5.toNatClampNeg) - (wE x5.toNatClampNeg) / 100 * 100) dN bD uU gF pL qF mX oE dY jE eW eY dU fY gJ jG nU pQ qY qU pN).2.2.2.1) ((aCI ((wE x5.toNatClampNeg) / 100) ((wE x5.toNatClampNeg) - (wE x5.toNatClampNeg) / 100 * 100) dN bD uU gF pL qF mX oE dY jE eW eY dU fY gJ jG nU pQ qY qU pN).2.2.2.2.1) ((aCI ((wE x5.toNatClampNeg) / 100) ((wE x5.toNatClampNeg) - (wE x5.toNatClampNeg) / 100 * 100) dN bD uU gF pL qF mX oE dY jE eW eY dU fY gJ jG nU pQ qY qU pN).2.2.2.2.2.1) ((aCI ((wE x5.toNatClampNeg) / 100) ((wE x5.toNatClampNeg) - (wE x5.toNatClampNeg) / 100 * 100) dN bD uU gF pL qF mX oE dY jE eW eY dU fY gJ jG nU pQ qY qU pN).2.2.2.2.2.2.1) ((aCI ((wE x5.toNatClampNeg) / 100) ((wE x5.toNatClampNeg) - (wE x5.toNatClampNeg) / 100 * 100) dN bD uU gF pL qF mX oE dY jE eW eY dU fY gJ jG nU pQ qY qU pN).2.2.2.2.2.2.2.1) ((aCI ((wE x5.toNatClampNeg) / 100) ((wE x5.toNatClampNeg) - (wE x5.toNatClampNeg) / 100 * 100) dN bD uU gF pL qF mX oE dY jE eW eY dU fY gJ jG nU pQ qY qU pN).2.2.2.2.2.2.2.2.1) ((aCI ((wE x5.toNatClampNeg) / 100) ((wE x5.toNatClampNeg) - (wE x5.toNatClampNeg) / 100 * 100) dN bD uU gF pL qF mX oE dY jE eW eY dU fY gJ jG nU pQ qY qU pN).2.2.2.2.2.2.2.2.2.1) ((aCI ((wE x5.toNatClampNeg) / 100) ((wE x5.toNatClampNeg) - (wE x5.toNatClampNeg) / 100 * 100) dN bD uU gF pL qF mX oE dY jE eW eY dU fY gJ jG nU pQ qY qU pN).2.2.2.2.2.2.2.2.2.2) pR uM tD qB jK))) else (j_X9_doActs_101 nx wE dN bD uU gF pL qF mX oE dY pQ pN x1 x2 x3 1 x5 ((aCI ((wE x5.toNatClampNeg) / 100) ((wE x5.toNatClampNeg) - (wE x5.toNatClampNeg) / 100 * 100) dN bD uU gF pL qF mX oE dY jE eW eY dU fY gJ jG nU pQ qY qU pN).2.1) ((aCI ((wE x5.toNatClampNeg) / 100) ((wE x5.toNatClampNeg) - (wE x5.toNatClampNeg) / 100 * 100) dN bD uU gF pL qF mX oE dY jE eW eY dU fY gJ jG nU pQ qY qU pN).2.2.1) ((aCI ((wE x5.toNatClampNeg) / 100) ((wE x5.toNatClampNeg) - (wE x5.toNatClampNeg) / 100 * 100) dN bD uU gF pL qF mX oE dY jE eW eY dU fY gJ jG nU pQ qY qU pN).2.2.2.1) ((aCI ((wE x5.toNatClampNeg) / 100) ((wE x5.toNatClampNeg) - (wE x5.toNatClampNeg) / 100 * 100) dN bD uU gF pL qF mX oE dY jE eW eY dU fY gJ jG nU pQ qY qU pN).2.2.2.2.1) ((aCI ((wE x5.toNatClampNeg) / 100) ((wE x5.toNatClampNeg) - (wE x5.toNatClampNeg) / 100 * 100) dN bD uU gF pL qF mX oE dY jE eW eY dU fY gJ jG nU pQ qY qU pN).2.2.2.2.2.1) ((aCI ((wE x5.toNatClampNeg) / 100) ((wE x5.toNatClampNeg) - (wE x5.toNatClampNeg) / 100 * 100) dN bD uU gF pL qF mX oE dY jE eW eY dU fY gJ jG nU pQ qY qU pN).2.2.2.2.2.2.1) ((aCI ((wE x5.toNatClampNeg) / 100) ((wE x5.toNatClampNeg) - (wE x5.toNatClampNeg) / 100 * 100) dN bD uU gF pL qF mX oE dY jE eW eY dU fY gJ jG nU pQ qY qU pN).2.2.2.2.2.2.2.1) ((aCI ((wE x5.toNatClampNeg) / 100) ((wE x5.toNatClampNeg) - (wE x5.toNatClampNeg) / 100 * 100) dN bD uU gF pL qF mX oE dY jE eW eY dU fY gJ jG nU pQ qY qU pN).2.2.2.2.2.2.2.2.1) ((aCI ((wE x5.toNatClampNeg) / 100) ((wE x5.toNatClampNeg) - (wE x5.toNatClampNeg) / 100 * 100) dN bD uU gF pL qF mX oE dY jE eW eY dU fY gJ jG nU pQ qY qU pN).2.2.2.2.2.2.2.2.2.1) ((aCI ((wE x5.toNatClampNeg) / 100) ((wE x5.toNatClampNeg) - (wE x5.toNatClampNeg) / 100 * 100) dN bD uU gF pL qF mX oE dY jE eW eY dU fY gJ jG nU pQ qY qU pN).2.2.2.2.2.2.2.2.2.2) pR uM tD qB jK)) else (j_X9_doActs_107 po wE dN bD uU gF pL qF mX oE dY pQ pN x2 x3 x4 jE eW eY dU fY gJ jG nU qY qU pR uM tD qB jK)))
