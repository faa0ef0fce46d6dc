/-! functions out of the weakest starts -/
theorem ae {e : Int32} {A : Int32 → Prop} (h : A e) : ∀ v : Int32, v = e → A v := fun v ev => by rw [ev]; exact h
def itr {α : Type} (f : Int32 → α → α) (a : α) (i : Nat) : Nat → α := fun n => Nat.rec (motive := fun _ => α) a (fun k s => f (nI (i + k)) s) n
theorem itr_s {α : Type} (f : Int32 → α → α) (a : α) (i k : Nat) : itr f a i (k + 1) = f (nI (i + k)) (itr f a i k) := rfl
theorem itr_0 {α : Type} (f : Int32 → α → α) (a : α) (i : Nat) : itr f a i 0 = a := rfl
def flp {α : Type} (f : α → α) (z : α) : Nat → α := fun n => Nat.rec (motive := fun _ => α) z (fun _ s => f s) n
theorem flp_s {α : Type} (f : α → α) (z : α) (n : Nat) : flp f z (n + 1) = f (flp f z n) := rfl
theorem ad_lt {a b : Int32} (h : 0 ≤ b.toInt ∧ b.toInt ≤ 3) : (((Int32.toInt (a + b) - Int32.toInt a).toNat : Nat) : Int) < ((4 : Nat) : Int) := by
  have r := tp_r a
  by_cases hb : a.toInt + b.toInt ≤ 2147483647
  · rw [ta_add a b (by omega)]; omega
  · have e2 : ((2 ^ 32 : Nat) : Int) = 4294967296 := by decide
    rw [Int32.toInt_add, Int.bmod_def, e2]
    split <;> omega
theorem le30 {v : Int32} (h : ¬ 30 < v) : Int32.toInt v < 2147483647 := by
  have l : Int32.toInt (30 : Int32) = 30 := by decide
  have q := mt (fa_lt 30 v).mpr h
  omega
noncomputable def j_X8_digitHere_24 {R : Type} (po : Int32 → R) (tx_place : Int32) (tx_stop : Int32) (tx_signs : Nat → Int32) (k0 : Int32) : R := if k0 < 48 then (po (-1)) else (if 57 < k0 then (po (-1)) else (po (k0 - 48)))
noncomputable def F_X8_digitHere (tx_place : Int32) (tx_stop : Int32) (tx_signs : Nat → Int32) : Int32 := if tx_stop ≤ tx_place then (j_X8_digitHere_24 (fun o0 => o0) tx_place tx_stop tx_signs (-1)) else (j_X8_digitHere_24 (fun o0 => o0) tx_place tx_stop tx_signs (tx_signs tx_place.toNatClampNeg))
set_option maxHeartbeats 200000 in
set_option maxRecDepth 10000 in
theorem dt_X8_digitHere {P Q : Int32 → Prop} {tx_place : Int32} {tx_stop : Int32} {tx_signs : Nat → Int32} (h : wp_X8_digitHere P tx_place tx_stop tx_signs) (hq : ∀ o : Int32, o = F_X8_digitHere tx_place tx_stop tx_signs → P o → Q o) : wp_X8_digitHere Q tx_place tx_stop tx_signs := by
  rw [F_X8_digitHere] at hq
  refine And.intro (fun c1 => ?_) (fun c1 => ?_)
  · have h := And.left h c1
    rw [if_pos c1] at hq
    rw [j_X8_digitHere_24] at hq
    unfold ws_X8_digitHere_24 at h ⊢
    refine And.intro (fun c2 => ?_) (fun c2 => ?_)
    · have h := And.left h c2
      rw [if_pos c2] at hq
      have q9 := hq _ rfl
      exact q9 h
    · have h := And.right h c2
      rw [if_neg c2] at hq
      refine And.intro (fun c3 => ?_) (fun c3 => ?_)
      · have h := And.left h c3
        rw [if_pos c3] at hq
        have q9 := hq _ rfl
        exact q9 h
      · have h := And.right h c3
        rw [if_neg c3] at hq
        refine ae ?_
        have h := h _ rfl
        have q9 := hq _ rfl
        exact q9 h
  · have h := And.right h c1
    rw [if_neg c1] at hq
    refine And.intro (And.left h) ?_
    have h := And.right h
    refine ae ?_
    have h := h _ rfl
    rw [j_X8_digitHere_24] at hq
    unfold ws_X8_digitHere_24 at h ⊢
    refine And.intro (fun c4 => ?_) (fun c4 => ?_)
    · have h := And.left h c4
      rw [if_pos c4] at hq
      have q9 := hq _ rfl
      exact q9 h
    · have h := And.right h c4
      rw [if_neg c4] at hq
      refine And.intro (fun c5 => ?_) (fun c5 => ?_)
      · have h := And.left h c5
        rw [if_pos c5] at hq
        have q9 := hq _ rfl
        exact q9 h
      · have h := And.right h c5
        rw [if_neg c5] at hq
        refine ae ?_
        have h := h _ rfl
        have q9 := hq _ rfl
        exact q9 h
theorem du_X8_digitHere {P Q : Int32 → Prop} {tx_place : Int32} {tx_stop : Int32} {tx_signs : Nat → Int32} (h : wp_X8_digitHere P tx_place tx_stop tx_signs) (hq : P (F_X8_digitHere tx_place tx_stop tx_signs) → Q (F_X8_digitHere tx_place tx_stop tx_signs)) : wp_X8_digitHere Q tx_place tx_stop tx_signs := dt_X8_digitHere h (fun o eo => by rw [eo]; exact hq)
noncomputable def F_X8_skip (tx_place : Int32) (tx_stop : Int32) : Int32 := if tx_stop ≤ tx_place then tx_place else (tx_place + 1)
set_option maxHeartbeats 200000 in
set_option maxRecDepth 10000 in
theorem dt_X8_skip {P Q : Int32 → Prop} {tx_place : Int32} {tx_stop : Int32} (h : wp_X8_skip P tx_place tx_stop) (hq : ∀ o : Int32, o = F_X8_skip tx_place tx_stop → P o → Q o) : wp_X8_skip Q tx_place tx_stop := by
  rw [F_X8_skip] at hq
  refine And.intro (fun c1 => ?_) (fun c1 => ?_)
  · have h := And.left h c1
    rw [if_pos c1] at hq
    have q9 := hq _ rfl
    exact q9 h
  · have h := And.right h c1
    rw [if_neg c1] at hq
    refine ae ?_
    have h := h _ rfl
    have q9 := hq _ rfl
    exact q9 h
theorem du_X8_skip {P Q : Int32 → Prop} {tx_place : Int32} {tx_stop : Int32} (h : wp_X8_skip P tx_place tx_stop) (hq : P (F_X8_skip tx_place tx_stop) → Q (F_X8_skip tx_place tx_stop)) : wp_X8_skip Q tx_place tx_stop := dt_X8_skip h (fun o eo => by rw [eo]; exact hq)
noncomputable def fs_X8_readNumber_18 {R : Type} (po : Int32 → Int32 → R) (tx_stop : Int32) (tx_signs : Nat → Int32) (nx : Int32 → Int32 → Int32 → Int32 → R) (x1 : Int32) (x2 : Int32) (x3 : Int32) (tx_place : Int32) : R := if x1 ≤ x3 then (po x2 tx_place) else (if (F_X8_digitHere tx_place tx_stop tx_signs) = (-1) then (po x2 tx_place) else (nx x1 ((x2 * 10) + (F_X8_digitHere tx_place tx_stop tx_signs)) (x3 + 1) (F_X8_skip tx_place tx_stop)))
set_option maxHeartbeats 200000 in
set_option maxRecDepth 10000 in
theorem dl_X8_readNumber_18 {P Q : Int32 → Int32 → Prop} {tx_stop : Int32} {tx_signs : Nat → Int32} {R : Type} {po : Int32 → Int32 → R} {d : Int32 → Int32 → Int32 → Int32 → R} : ∀ (n m : Nat) (x1 : Int32) (x2 : Int32) (x3 : Int32) (tx_place : Int32), 0 ≤ Int32.toInt x3 ∧ Int32.toInt x3 ≤ 3 ∧ Int32.toInt x1 ≤ 3 → 3 - Int32.toInt x3 < (m : Int) → wb_X8_readNumber_18 P tx_stop tx_signs n x1 x2 x3 tx_place → (∀ (b0 : Int32) (b1 : Int32), po b0 b1 = flp (fs_X8_readNumber_18 po tx_stop tx_signs) d m x1 x2 x3 tx_place → P b0 b1 → Q b0 b1) → wb_X8_readNumber_18 Q tx_stop tx_signs n x1 x2 x3 tx_place := by
  have l1 : Int32.toInt (1 : Int32) = 1 := by decide
  intro n
  induction n with
  | zero => intro m x1 x2 x3 tx_place hv hm h hq; exact False.elim h
  | succ n ih =>
    intro m x1 x2 x3 tx_place hv hm h hq
    cases m with
    | zero => exfalso; omega
    | succ m =>
      rw [flp_s, fs_X8_readNumber_18] at hq
      have h : ws_X8_readNumber_18 P (wb_X8_readNumber_18 P tx_stop tx_signs n) tx_stop tx_signs x1 x2 x3 tx_place := h
      show ws_X8_readNumber_18 Q (wb_X8_readNumber_18 Q tx_stop tx_signs n) tx_stop tx_signs x1 x2 x3 tx_place
      unfold ws_X8_readNumber_18 at h ⊢
      refine And.intro (fun c1 => ?_) (fun c1 => ?_)
      · have h := And.left h c1
        rw [if_pos c1] at hq
        have dc1 := (fa_le _ _).mp c1
        exact hq _ _ rfl h
      · have h := And.right h c1
        rw [if_neg c1] at hq
        have dc1 := mt (fa_le _ _).mpr c1
        refine du_X8_digitHere h ?_
        intro h
        refine And.intro (fun c2 => ?_) (fun c2 => ?_)
        · have h := And.left h c2
          rw [if_neg c2] at hq
          have dc2 := mt (fa_eq _ _).mpr c2
          refine ae ?_
          have h := h _ rfl
          refine ae ?_
          have h := h _ rfl
          refine du_X8_skip h ?_
          intro h
          refine ae ?_
          have h := h _ rfl
          have f9 := ta_add x3 1 (by omega)
          exact ih m _ _ _ _ (by omega) (by omega) h hq
        · have h := And.right h c2
          rw [if_pos c2] at hq
          have dc2 := (fa_eq _ _).mp c2
          exact hq _ _ rfl h
noncomputable def F_X8_readNumber (p0 : Int32) (tx_place : Int32) (tx_stop : Int32) (tx_signs : Nat → Int32) : Int32 × Int32 := if (F_X8_digitHere tx_place tx_stop tx_signs) = (-1) then ((-1), tx_place) else (flp (fs_X8_readNumber_18 (fun o0 o1 => (o0, o1)) tx_stop tx_signs) (fun _ _ _ _ => (0, 0)) 4 p0 (F_X8_digitHere tx_place tx_stop tx_signs) 1 (F_X8_skip tx_place tx_stop))
set_option maxHeartbeats 200000 in
set_option maxRecDepth 10000 in
theorem dt_X8_readNumber {P Q : Int32 → Int32 → Prop} {p0 : Int32} {tx_place : Int32} {tx_stop : Int32} {tx_signs : Nat → Int32} (hy0 : Int32.toInt p0 ≤ 3) (h : wp_X8_readNumber P p0 tx_place tx_stop tx_signs) (hq : ∀ o : Int32 × Int32, o = F_X8_readNumber p0 tx_place tx_stop tx_signs → P o.1 o.2 → Q o.1 o.2) : wp_X8_readNumber Q p0 tx_place tx_stop tx_signs := by
  rw [F_X8_readNumber] at hq
  refine du_X8_digitHere h ?_
  intro h
  refine And.intro (fun c1 => ?_) (fun c1 => ?_)
  · have h := And.left h c1
    rw [if_neg c1] at hq
    refine du_X8_skip h ?_
    intro h
    obtain ⟨n2, h⟩ := h
    exact ⟨n2, dl_X8_readNumber_18 n2 4 _ _ _ _ ⟨by decide, by decide, hy0⟩ (by decide) h (fun b0 b1 e9 h9 => hq (b0, b1) e9 h9)⟩
  · have h := And.right h c1
    rw [if_pos c1] at hq
    have q9 := hq _ rfl
    dsimp only at q9
    exact q9 h
theorem du_X8_readNumber {P Q : Int32 → Int32 → Prop} {p0 : Int32} {tx_place : Int32} {tx_stop : Int32} {tx_signs : Nat → Int32} (hy0 : Int32.toInt p0 ≤ 3) (h : wp_X8_readNumber P p0 tx_place tx_stop tx_signs) (hq : P (F_X8_readNumber p0 tx_place tx_stop tx_signs).1 (F_X8_readNumber p0 tx_place tx_stop tx_signs).2 → Q (F_X8_readNumber p0 tx_place tx_stop tx_signs).1 (F_X8_readNumber p0 tx_place tx_stop tx_signs).2) : wp_X8_readNumber Q p0 tx_place tx_stop tx_signs := dt_X8_readNumber hy0 h (fun o eo => by rw [eo]; exact hq)
noncomputable def F_X8_here (tx_place : Int32) (tx_stop : Int32) (tx_signs : Nat → Int32) : Int32 := if tx_stop ≤ tx_place then (-1) else (tx_signs tx_place.toNatClampNeg)
set_option maxHeartbeats 200000 in
set_option maxRecDepth 10000 in
theorem dt_X8_here {P Q : Int32 → Prop} {tx_place : Int32} {tx_stop : Int32} {tx_signs : Nat → Int32} (h : wp_X8_here P tx_place tx_stop tx_signs) (hq : ∀ o : Int32, o = F_X8_here tx_place tx_stop tx_signs → P o → Q o) : wp_X8_here Q tx_place tx_stop tx_signs := by
  rw [F_X8_here] at hq
  refine And.intro (fun c1 => ?_) (fun c1 => ?_)
  · have h := And.left h c1
    rw [if_pos c1] at hq
    have q9 := hq _ rfl
    exact q9 h
  · have h := And.right h c1
    rw [if_neg c1] at hq
    refine And.intro (And.left h) ?_
    have h := And.right h
    refine ae ?_
    have h := h _ rfl
    have q9 := hq _ rfl
    exact q9 h
theorem du_X8_here {P Q : Int32 → Prop} {tx_place : Int32} {tx_stop : Int32} {tx_signs : Nat → Int32} (h : wp_X8_here P tx_place tx_stop tx_signs) (hq : P (F_X8_here tx_place tx_stop tx_signs) → Q (F_X8_here tx_place tx_stop tx_signs)) : wp_X8_here Q tx_place tx_stop tx_signs := dt_X8_here h (fun o eo => by rw [eo]; exact hq)
noncomputable def F_X8_take (p0 : Int32) (tx_place : Int32) (tx_stop : Int32) (tx_signs : Nat → Int32) : Int32 × Int32 := if (F_X8_here tx_place tx_stop tx_signs) = p0 then (1, (tx_place + 1)) else (0, tx_place)
set_option maxHeartbeats 200000 in
set_option maxRecDepth 10000 in
theorem dt_X8_take {P Q : Int32 → Int32 → Prop} {p0 : Int32} {tx_place : Int32} {tx_stop : Int32} {tx_signs : Nat → Int32} (h : wp_X8_take P p0 tx_place tx_stop tx_signs) (hq : ∀ o : Int32 × Int32, o = F_X8_take p0 tx_place tx_stop tx_signs → P o.1 o.2 → Q o.1 o.2) : wp_X8_take Q p0 tx_place tx_stop tx_signs := by
  rw [F_X8_take] at hq
  refine du_X8_here h ?_
  intro h
  refine And.intro (fun c1 => ?_) (fun c1 => ?_)
  · have h := And.left h c1
    rw [if_pos c1] at hq
    refine ae ?_
    have h := h _ rfl
    have q9 := hq _ rfl
    dsimp only at q9
    exact q9 h
  · have h := And.right h c1
    rw [if_neg c1] at hq
    have q9 := hq _ rfl
    dsimp only at q9
    exact q9 h
theorem du_X8_take {P Q : Int32 → Int32 → Prop} {p0 : Int32} {tx_place : Int32} {tx_stop : Int32} {tx_signs : Nat → Int32} (h : wp_X8_take P p0 tx_place tx_stop tx_signs) (hq : P (F_X8_take p0 tx_place tx_stop tx_signs).1 (F_X8_take p0 tx_place tx_stop tx_signs).2 → Q (F_X8_take p0 tx_place tx_stop tx_signs).1 (F_X8_take p0 tx_place tx_stop tx_signs).2) : wp_X8_take Q p0 tx_place tx_stop tx_signs := dt_X8_take h (fun o eo => by rw [eo]; exact hq)
noncomputable def F_X8_open (p0 : Int32) (tx_length : Int32) (tx_place : Int32) (tx_stop : Int32) : Int32 × Int32 := (0, (if p0 < tx_length then p0 else tx_length))
set_option maxHeartbeats 200000 in
set_option maxRecDepth 10000 in
theorem dt_X8_open {P Q : Int32 → Int32 → Prop} {p0 : Int32} {tx_length : Int32} {tx_place : Int32} {tx_stop : Int32} (h : wp_X8_open P p0 tx_length tx_place tx_stop) (hq : ∀ o : Int32 × Int32, o = F_X8_open p0 tx_length tx_place tx_stop → P o.1 o.2 → Q o.1 o.2) : wp_X8_open Q p0 tx_length tx_place tx_stop := by
  rw [F_X8_open] at hq
  refine ae ?_
  have h := h _ rfl
  have q9 := hq _ rfl
  dsimp only at q9
  exact q9 h
theorem du_X8_open {P Q : Int32 → Int32 → Prop} {p0 : Int32} {tx_length : Int32} {tx_place : Int32} {tx_stop : Int32} (h : wp_X8_open P p0 tx_length tx_place tx_stop) (hq : P (F_X8_open p0 tx_length tx_place tx_stop).1 (F_X8_open p0 tx_length tx_place tx_stop).2 → Q (F_X8_open p0 tx_length tx_place tx_stop).1 (F_X8_open p0 tx_length tx_place tx_stop).2) : wp_X8_open Q p0 tx_length tx_place tx_stop := dt_X8_open h (fun o eo => by rw [eo]; exact hq)
noncomputable def F_X8_isThrough (tx_length : Int32) (tx_place : Int32) : Int32 := if tx_place = tx_length then 1 else 0
set_option maxHeartbeats 200000 in
set_option maxRecDepth 10000 in
theorem dt_X8_isThrough {P Q : Int32 → Prop} {tx_length : Int32} {tx_place : Int32} (h : wp_X8_isThrough P tx_length tx_place) (hq : ∀ o : Int32, o = F_X8_isThrough tx_length tx_place → P o → Q o) : wp_X8_isThrough Q tx_length tx_place := by
  rw [F_X8_isThrough] at hq
  refine And.intro (fun c1 => ?_) (fun c1 => ?_)
  · have h := And.left h c1
    rw [if_neg c1] at hq
    have q9 := hq _ rfl
    exact q9 h
  · have h := And.right h c1
    rw [if_pos c1] at hq
    have q9 := hq _ rfl
    exact q9 h
theorem du_X8_isThrough {P Q : Int32 → Prop} {tx_length : Int32} {tx_place : Int32} (h : wp_X8_isThrough P tx_length tx_place) (hq : P (F_X8_isThrough tx_length tx_place) → Q (F_X8_isThrough tx_length tx_place)) : wp_X8_isThrough Q tx_length tx_place := dt_X8_isThrough h (fun o eo => by rw [eo]; exact hq)
noncomputable def F_X8_clear (tx_length : Int32) : Int32 := 0
set_option maxHeartbeats 200000 in
set_option maxRecDepth 10000 in
theorem dt_X8_clear {P Q : Int32 → Prop} {tx_length : Int32} (h : wp_X8_clear P tx_length) (hq : ∀ o : Int32, o = F_X8_clear tx_length → P o → Q o) : wp_X8_clear Q tx_length := by
  rw [F_X8_clear] at hq
  have q9 := hq _ rfl
  exact q9 h
theorem du_X8_clear {P Q : Int32 → Prop} {tx_length : Int32} (h : wp_X8_clear P tx_length) (hq : P (F_X8_clear tx_length) → Q (F_X8_clear tx_length)) : wp_X8_clear Q tx_length := dt_X8_clear h (fun o eo => by rw [eo]; exact hq)
noncomputable def F_X8_wrong (tx_place : Int32) : Int32 := ((-1) - tx_place)
set_option maxHeartbeats 200000 in
set_option maxRecDepth 10000 in
theorem dt_X8_wrong {P Q : Int32 → Prop} {tx_place : Int32} (h : wp_X8_wrong P tx_place) (hq : ∀ o : Int32, o = F_X8_wrong tx_place → P o → Q o) : wp_X8_wrong Q tx_place := by
  rw [F_X8_wrong] at hq
  have q9 := hq _ rfl
  exact q9 h
theorem du_X8_wrong {P Q : Int32 → Prop} {tx_place : Int32} (h : wp_X8_wrong P tx_place) (hq : P (F_X8_wrong tx_place) → Q (F_X8_wrong tx_place)) : wp_X8_wrong Q tx_place := dt_X8_wrong h (fun o eo => by rw [eo]; exact hq)
noncomputable def F_X3_readPair (p3 : Int32) (tx_place : Int32) (tx_stop : Int32) (tx_signs : Nat → Int32) (tr_x : Nat → Int32) (tr_height : Nat → Int32) : Int32 × Int32 × (Nat → Int32) × (Nat → Int32) := if (F_X8_readNumber 2 tx_place tx_stop tx_signs).1 = (-1) then (0, (F_X8_readNumber 2 tx_place tx_stop tx_signs).2, tr_x, tr_height) else (if (F_X8_take 44 (F_X8_readNumber 2 tx_place tx_stop tx_signs).2 tx_stop tx_signs).1 = 0 then (0, (F_X8_take 44 (F_X8_readNumber 2 tx_place tx_stop tx_signs).2 tx_stop tx_signs).2, tr_x, tr_height) else (if (F_X8_readNumber 2 (F_X8_take 44 (F_X8_readNumber 2 tx_place tx_stop tx_signs).2 tx_stop tx_signs).2 tx_stop tx_signs).1 = (-1) then (0, (F_X8_readNumber 2 (F_X8_take 44 (F_X8_readNumber 2 tx_place tx_stop tx_signs).2 tx_stop tx_signs).2 tx_stop tx_signs).2, tr_x, tr_height) else (if p3 < 0 then (0, (F_X8_readNumber 2 (F_X8_take 44 (F_X8_readNumber 2 tx_place tx_stop tx_signs).2 tx_stop tx_signs).2 tx_stop tx_signs).2, tr_x, tr_height) else (if 16 ≤ p3 then (0, (F_X8_readNumber 2 (F_X8_take 44 (F_X8_readNumber 2 tx_place tx_stop tx_signs).2 tx_stop tx_signs).2 tx_stop tx_signs).2, tr_x, tr_height) else (if p3 < 16 then (1, (F_X8_readNumber 2 (F_X8_take 44 (F_X8_readNumber 2 tx_place tx_stop tx_signs).2 tx_stop tx_signs).2 tx_stop tx_signs).2, (upd tr_x p3.toNatClampNeg (F_X8_readNumber 2 tx_place tx_stop tx_signs).1), (upd tr_height p3.toNatClampNeg (F_X8_readNumber 2 (F_X8_take 44 (F_X8_readNumber 2 tx_place tx_stop tx_signs).2 tx_stop tx_signs).2 tx_stop tx_signs).1)) else (0, (F_X8_readNumber 2 (F_X8_take 44 (F_X8_readNumber 2 tx_place tx_stop tx_signs).2 tx_stop tx_signs).2 tx_stop tx_signs).2, tr_x, tr_height))))))
set_option maxHeartbeats 200000 in
set_option maxRecDepth 10000 in
theorem dt_X3_readPair {P Q : Int32 → Int32 → (Nat → Int32) → (Nat → Int32) → Prop} {p3 : Int32} {tx_place : Int32} {tx_stop : Int32} {tx_signs : Nat → Int32} {tr_x : Nat → Int32} {tr_height : Nat → Int32} (h : wp_X3_readPair P p3 tx_place tx_stop tx_signs tr_x tr_height) (hq : ∀ o : Int32 × Int32 × (Nat → Int32) × (Nat → Int32), o = F_X3_readPair p3 tx_place tx_stop tx_signs tr_x tr_height → P o.1 o.2.1 o.2.2.1 o.2.2.2 → Q o.1 o.2.1 o.2.2.1 o.2.2.2) : wp_X3_readPair Q p3 tx_place tx_stop tx_signs tr_x tr_height := by
  rw [F_X3_readPair] at hq
  refine du_X8_readNumber (by decide) h ?_
  intro h
  refine And.intro (fun c1 => ?_) (fun c1 => ?_)
  · have h := And.left h c1
    rw [if_pos c1] at hq
    have q9 := hq _ rfl
    dsimp only at q9
    exact q9 h
  · have h := And.right h c1
    rw [if_neg c1] at hq
    refine du_X8_take h ?_
    intro h
    refine And.intro (fun c2 => ?_) (fun c2 => ?_)
    · have h := And.left h c2
      rw [if_neg c2] at hq
      refine du_X8_readNumber (by decide) h ?_
      intro h
      refine And.intro (fun c3 => ?_) (fun c3 => ?_)
      · have h := And.left h c3
        rw [if_pos c3] at hq
        have q9 := hq _ rfl
        dsimp only at q9
        exact q9 h
      · have h := And.right h c3
        rw [if_neg c3] at hq
        refine And.intro (fun c4 => ?_) (fun c4 => ?_)
        · have h := And.left h c4
          rw [if_pos c4] at hq
          have q9 := hq _ rfl
          dsimp only at q9
          exact q9 h
        · have h := And.right h c4
          rw [if_neg c4] at hq
          refine And.intro (fun c5 => ?_) (fun c5 => ?_)
          · have h := And.left h c5
            rw [if_pos c5] at hq
            have q9 := hq _ rfl
            dsimp only at q9
            exact q9 h
          · have h := And.right h c5
            rw [if_neg c5] at hq
            refine And.intro (fun c6 => ?_) (fun c6 => ?_)
            · have h := And.left h c6
              rw [if_pos c6] at hq
              refine And.intro (And.left h) ?_
              have h := And.right h
              refine And.intro (And.left h) ?_
              have h := And.right h
              have q9 := hq _ rfl
              dsimp only at q9
              exact q9 h
            · have h := And.right h c6
              rw [if_neg c6] at hq
              have q9 := hq _ rfl
              dsimp only at q9
              exact q9 h
    · have h := And.right h c2
      rw [if_pos c2] at hq
      have q9 := hq _ rfl
      dsimp only at q9
      exact q9 h
theorem du_X3_readPair {P Q : Int32 → Int32 → (Nat → Int32) → (Nat → Int32) → Prop} {p3 : Int32} {tx_place : Int32} {tx_stop : Int32} {tx_signs : Nat → Int32} {tr_x : Nat → Int32} {tr_height : Nat → Int32} (h : wp_X3_readPair P p3 tx_place tx_stop tx_signs tr_x tr_height) (hq : P (F_X3_readPair p3 tx_place tx_stop tx_signs tr_x tr_height).1 (F_X3_readPair p3 tx_place tx_stop tx_signs tr_x tr_height).2.1 (F_X3_readPair p3 tx_place tx_stop tx_signs tr_x tr_height).2.2.1 (F_X3_readPair p3 tx_place tx_stop tx_signs tr_x tr_height).2.2.2 → Q (F_X3_readPair p3 tx_place tx_stop tx_signs tr_x tr_height).1 (F_X3_readPair p3 tx_place tx_stop tx_signs tr_x tr_height).2.1 (F_X3_readPair p3 tx_place tx_stop tx_signs tr_x tr_height).2.2.1 (F_X3_readPair p3 tx_place tx_stop tx_signs tr_x tr_height).2.2.2) : wp_X3_readPair Q p3 tx_place tx_stop tx_signs tr_x tr_height := dt_X3_readPair h (fun o eo => by rw [eo]; exact hq)
noncomputable def j_X3_readFruit_82 {R : Type} (po : Int32 → Int32 → Int32 → (Nat → Int32) → (Nat → Int32) → (Nat → Int32) → (Nat → Int32) → R) (tx_stop : Int32) (tx_signs : Nat → Int32) (x2 : Int32) (k1 : Int32) (k2 : Int32) (tx_place : Int32) (tr_comingFruits : Int32) (tr_x : Nat → Int32) (tr_height : Nat → Int32) (tr_worth : Nat → Int32) (tr_ripe : Nat → Int32) : R := if ((upd tr_ripe k1.toNatClampNeg k2) x2.toNatClampNeg) = (-1) then (po 0 tx_place tr_comingFruits tr_x tr_height tr_worth (upd tr_ripe k1.toNatClampNeg k2)) else (po 1 tx_place (tr_comingFruits + 1) tr_x tr_height tr_worth (upd tr_ripe k1.toNatClampNeg k2))
noncomputable def j_X3_readFruit_46 {R : Type} (po : Int32 → Int32 → Int32 → (Nat → Int32) → (Nat → Int32) → (Nat → Int32) → (Nat → Int32) → R) (tx_stop : Int32) (tx_signs : Nat → Int32) (x2 : Int32) (k1 : Int32) (k2 : Int32) (tx_place : Int32) (tr_comingFruits : Int32) (tr_x : Nat → Int32) (tr_height : Nat → Int32) (tr_worth : Nat → Int32) (tr_ripe : Nat → Int32) : R := if ((upd tr_worth k1.toNatClampNeg k2) x2.toNatClampNeg) = (-1) then (po 0 tx_place tr_comingFruits tr_x tr_height (upd tr_worth k1.toNatClampNeg k2) tr_ripe) else (if (F_X8_take 64 tx_place tx_stop tx_signs).1 = 0 then (j_X3_readFruit_82 po tx_stop tx_signs x2 x2 0 ((F_X8_take 64 tx_place tx_stop tx_signs).2) tr_comingFruits tr_x tr_height (upd tr_worth k1.toNatClampNeg k2) tr_ripe) else (j_X3_readFruit_82 po tx_stop tx_signs x2 x2 ((F_X8_readNumber 1 (F_X8_take 64 tx_place tx_stop tx_signs).2 tx_stop tx_signs).1) ((F_X8_readNumber 1 (F_X8_take 64 tx_place tx_stop tx_signs).2 tx_stop tx_signs).2) tr_comingFruits tr_x tr_height (upd tr_worth k1.toNatClampNeg k2) tr_ripe))
noncomputable def F_X3_readFruit (tx_place : Int32) (tx_stop : Int32) (tx_signs : Nat → Int32) (tr_comingFruits : Int32) (tr_x : Nat → Int32) (tr_height : Nat → Int32) (tr_worth : Nat → Int32) (tr_ripe : Nat → Int32) : Int32 × Int32 × Int32 × (Nat → Int32) × (Nat → Int32) × (Nat → Int32) × (Nat → Int32) := if (F_X3_readPair tr_comingFruits tx_place tx_stop tx_signs tr_x tr_height).1 = 0 then (0, (F_X3_readPair tr_comingFruits tx_place tx_stop tx_signs tr_x tr_height).2.1, tr_comingFruits, (F_X3_readPair tr_comingFruits tx_place tx_stop tx_signs tr_x tr_height).2.2.1, (F_X3_readPair tr_comingFruits tx_place tx_stop tx_signs tr_x tr_height).2.2.2, tr_worth, tr_ripe) else (if (F_X8_take 42 (F_X3_readPair tr_comingFruits tx_place tx_stop tx_signs tr_x tr_height).2.1 tx_stop tx_signs).1 = 0 then (j_X3_readFruit_46 (fun o0 o1 o2 o3 o4 o5 o6 => (o0, o1, o2, o3, o4, o5, o6)) tx_stop tx_signs tr_comingFruits tr_comingFruits 1 ((F_X8_take 42 (F_X3_readPair tr_comingFruits tx_place tx_stop tx_signs tr_x tr_height).2.1 tx_stop tx_signs).2) tr_comingFruits ((F_X3_readPair tr_comingFruits tx_place tx_stop tx_signs tr_x tr_height).2.2.1) ((F_X3_readPair tr_comingFruits tx_place tx_stop tx_signs tr_x tr_height).2.2.2) tr_worth tr_ripe) else (j_X3_readFruit_46 (fun o0 o1 o2 o3 o4 o5 o6 => (o0, o1, o2, o3, o4, o5, o6)) tx_stop tx_signs tr_comingFruits tr_comingFruits ((F_X8_readNumber 1 (F_X8_take 42 (F_X3_readPair tr_comingFruits tx_place tx_stop tx_signs tr_x tr_height).2.1 tx_stop tx_signs).2 tx_stop tx_signs).1) ((F_X8_readNumber 1 (F_X8_take 42 (F_X3_readPair tr_comingFruits tx_place tx_stop tx_signs tr_x tr_height).2.1 tx_stop tx_signs).2 tx_stop tx_signs).2) tr_comingFruits ((F_X3_readPair tr_comingFruits tx_place tx_stop tx_signs tr_x tr_height).2.2.1) ((F_X3_readPair tr_comingFruits tx_place tx_stop tx_signs tr_x tr_height).2.2.2) tr_worth tr_ripe))
set_option maxHeartbeats 200000 in
set_option maxRecDepth 10000 in
theorem dt_X3_readFruit {P Q : Int32 → Int32 → Int32 → (Nat → Int32) → (Nat → Int32) → (Nat → Int32) → (Nat → Int32) → Prop} {tx_place : Int32} {tx_stop : Int32} {tx_signs : Nat → Int32} {tr_comingFruits : Int32} {tr_x : Nat → Int32} {tr_height : Nat → Int32} {tr_worth : Nat → Int32} {tr_ripe : Nat → Int32} (h : wp_X3_readFruit P tx_place tx_stop tx_signs tr_comingFruits tr_x tr_height tr_worth tr_ripe) (hq : ∀ o : Int32 × Int32 × Int32 × (Nat → Int32) × (Nat → Int32) × (Nat → Int32) × (Nat → Int32), o = F_X3_readFruit tx_place tx_stop tx_signs tr_comingFruits tr_x tr_height tr_worth tr_ripe → P o.1 o.2.1 o.2.2.1 o.2.2.2.1 o.2.2.2.2.1 o.2.2.2.2.2.1 o.2.2.2.2.2.2 → Q o.1 o.2.1 o.2.2.1 o.2.2.2.1 o.2.2.2.2.1 o.2.2.2.2.2.1 o.2.2.2.2.2.2) : wp_X3_readFruit Q tx_place tx_stop tx_signs tr_comingFruits tr_x tr_height tr_worth tr_ripe := by
  rw [F_X3_readFruit] at hq
  refine du_X3_readPair h ?_
  intro h
  refine And.intro (fun c1 => ?_) (fun c1 => ?_)
  · have h := And.left h c1
    rw [if_neg c1] at hq
    refine du_X8_take h ?_
    intro h
    refine And.intro (fun c2 => ?_) (fun c2 => ?_)
    · have h := And.left h c2
      rw [if_pos c2] at hq
      rw [j_X3_readFruit_46] at hq
      unfold ws_X3_readFruit_46 at h ⊢
      refine And.intro (And.left h) ?_
      have h := And.right h
      refine And.intro (And.left h) ?_
      have h := And.right h
      refine ae ?_
      have h := h _ rfl
      refine And.intro (fun c3 => ?_) (fun c3 => ?_)
      · have h := And.left h c3
        rw [if_neg c3] at hq
        refine du_X8_take h ?_
        intro h
        refine And.intro (fun c4 => ?_) (fun c4 => ?_)
        · have h := And.left h c4
          rw [if_pos c4] at hq
          rw [j_X3_readFruit_82] at hq
          unfold ws_X3_readFruit_82 at h ⊢
          refine And.intro (And.left h) ?_
          have h := And.right h
          refine And.intro (And.left h) ?_
          have h := And.right h
          refine ae ?_
          have h := h _ rfl
          refine And.intro (fun c5 => ?_) (fun c5 => ?_)
          · have h := And.left h c5
            rw [if_neg c5] at hq
            refine ae ?_
            have h := h _ rfl
            have q9 := hq _ rfl
            dsimp only at q9
            exact q9 h
          · have h := And.right h c5
            rw [if_pos c5] at hq
            have q9 := hq _ rfl
            dsimp only at q9
            exact q9 h
        · have h := And.right h c4
          rw [if_neg c4] at hq
          refine du_X8_readNumber (by decide) h ?_
          intro h
          rw [j_X3_readFruit_82] at hq
          unfold ws_X3_readFruit_82 at h ⊢
          refine And.intro (And.left h) ?_
          have h := And.right h
          refine And.intro (And.left h) ?_
          have h := And.right h
          refine ae ?_
          have h := h _ rfl
          refine And.intro (fun c6 => ?_) (fun c6 => ?_)
          · have h := And.left h c6
            rw [if_neg c6] at hq
            refine ae ?_
            have h := h _ rfl
            have q9 := hq _ rfl
            dsimp only at q9
            exact q9 h
          · have h := And.right h c6
            rw [if_pos c6] at hq
            have q9 := hq _ rfl
            dsimp only at q9
            exact q9 h
      · have h := And.right h c3
        rw [if_pos c3] at hq
        have q9 := hq _ rfl
        dsimp only at q9
        exact q9 h
    · have h := And.right h c2
      rw [if_neg c2] at hq
      refine du_X8_readNumber (by decide) h ?_
      intro h
      rw [j_X3_readFruit_46] at hq
      unfold ws_X3_readFruit_46 at h ⊢
      refine And.intro (And.left h) ?_
      have h := And.right h
      refine And.intro (And.left h) ?_
      have h := And.right h
      refine ae ?_
      have h := h _ rfl
      refine And.intro (fun c7 => ?_) (fun c7 => ?_)
      · have h := And.left h c7
        rw [if_neg c7] at hq
        refine du_X8_take h ?_
        intro h
        refine And.intro (fun c8 => ?_) (fun c8 => ?_)
        · have h := And.left h c8
          rw [if_pos c8] at hq
          rw [j_X3_readFruit_82] at hq
          unfold ws_X3_readFruit_82 at h ⊢
          refine And.intro (And.left h) ?_
          have h := And.right h
          refine And.intro (And.left h) ?_
          have h := And.right h
          refine ae ?_
          have h := h _ rfl
          refine And.intro (fun c9 => ?_) (fun c9 => ?_)
          · have h := And.left h c9
            rw [if_neg c9] at hq
            refine ae ?_
            have h := h _ rfl
            have q9 := hq _ rfl
            dsimp only at q9
            exact q9 h
          · have h := And.right h c9
            rw [if_pos c9] at hq
            have q9 := hq _ rfl
            dsimp only at q9
            exact q9 h
        · have h := And.right h c8
          rw [if_neg c8] at hq
          refine du_X8_readNumber (by decide) h ?_
          intro h
          rw [j_X3_readFruit_82] at hq
          unfold ws_X3_readFruit_82 at h ⊢
          refine And.intro (And.left h) ?_
          have h := And.right h
          refine And.intro (And.left h) ?_
          have h := And.right h
          refine ae ?_
          have h := h _ rfl
          refine And.intro (fun c10 => ?_) (fun c10 => ?_)
          · have h := And.left h c10
            rw [if_neg c10] at hq
            refine ae ?_
            have h := h _ rfl
            have q9 := hq _ rfl
            dsimp only at q9
            exact q9 h
          · have h := And.right h c10
            rw [if_pos c10] at hq
            have q9 := hq _ rfl
            dsimp only at q9
            exact q9 h
      · have h := And.right h c7
        rw [if_pos c7] at hq
        have q9 := hq _ rfl
        dsimp only at q9
        exact q9 h
  · have h := And.right h c1
    rw [if_pos c1] at hq
    have q9 := hq _ rfl
    dsimp only at q9
    exact q9 h
theorem du_X3_readFruit {P Q : Int32 → Int32 → Int32 → (Nat → Int32) → (Nat → Int32) → (Nat → Int32) → (Nat → Int32) → Prop} {tx_place : Int32} {tx_stop : Int32} {tx_signs : Nat → Int32} {tr_comingFruits : Int32} {tr_x : Nat → Int32} {tr_height : Nat → Int32} {tr_worth : Nat → Int32} {tr_ripe : Nat → Int32} (h : wp_X3_readFruit P tx_place tx_stop tx_signs tr_comingFruits tr_x tr_height tr_worth tr_ripe) (hq : P (F_X3_readFruit tx_place tx_stop tx_signs tr_comingFruits tr_x tr_height tr_worth tr_ripe).1 (F_X3_readFruit tx_place tx_stop tx_signs tr_comingFruits tr_x tr_height tr_worth tr_ripe).2.1 (F_X3_readFruit tx_place tx_stop tx_signs tr_comingFruits tr_x tr_height tr_worth tr_ripe).2.2.1 (F_X3_readFruit tx_place tx_stop tx_signs tr_comingFruits tr_x tr_height tr_worth tr_ripe).2.2.2.1 (F_X3_readFruit tx_place tx_stop tx_signs tr_comingFruits tr_x tr_height tr_worth tr_ripe).2.2.2.2.1 (F_X3_readFruit tx_place tx_stop tx_signs tr_comingFruits tr_x tr_height tr_worth tr_ripe).2.2.2.2.2.1 (F_X3_readFruit tx_place tx_stop tx_signs tr_comingFruits tr_x tr_height tr_worth tr_ripe).2.2.2.2.2.2 → Q (F_X3_readFruit tx_place tx_stop tx_signs tr_comingFruits tr_x tr_height tr_worth tr_ripe).1 (F_X3_readFruit tx_place tx_stop tx_signs tr_comingFruits tr_x tr_height tr_worth tr_ripe).2.1 (F_X3_readFruit tx_place tx_stop tx_signs tr_comingFruits tr_x tr_height tr_worth tr_ripe).2.2.1 (F_X3_readFruit tx_place tx_stop tx_signs tr_comingFruits tr_x tr_height tr_worth tr_ripe).2.2.2.1 (F_X3_readFruit tx_place tx_stop tx_signs tr_comingFruits tr_x tr_height tr_worth tr_ripe).2.2.2.2.1 (F_X3_readFruit tx_place tx_stop tx_signs tr_comingFruits tr_x tr_height tr_worth tr_ripe).2.2.2.2.2.1 (F_X3_readFruit tx_place tx_stop tx_signs tr_comingFruits tr_x tr_height tr_worth tr_ripe).2.2.2.2.2.2) : wp_X3_readFruit Q tx_place tx_stop tx_signs tr_comingFruits tr_x tr_height tr_worth tr_ripe := dt_X3_readFruit h (fun o eo => by rw [eo]; exact hq)
noncomputable def F_X3_readPair_b2 (p3 : Int32) (tx_place : Int32) (tx_stop : Int32) (tx_signs : Nat → Int32) (tr_foot : Nat → Int32) (tr_fork : Nat → Int32) : Int32 × Int32 × (Nat → Int32) × (Nat → Int32) := if (F_X8_readNumber 2 tx_place tx_stop tx_signs).1 = (-1) then (0, (F_X8_readNumber 2 tx_place tx_stop tx_signs).2, tr_foot, tr_fork) else (if (F_X8_take 44 (F_X8_readNumber 2 tx_place tx_stop tx_signs).2 tx_stop tx_signs).1 = 0 then (0, (F_X8_take 44 (F_X8_readNumber 2 tx_place tx_stop tx_signs).2 tx_stop tx_signs).2, tr_foot, tr_fork) else (if (F_X8_readNumber 2 (F_X8_take 44 (F_X8_readNumber 2 tx_place tx_stop tx_signs).2 tx_stop tx_signs).2 tx_stop tx_signs).1 = (-1) then (0, (F_X8_readNumber 2 (F_X8_take 44 (F_X8_readNumber 2 tx_place tx_stop tx_signs).2 tx_stop tx_signs).2 tx_stop tx_signs).2, tr_foot, tr_fork) else (if p3 < 0 then (0, (F_X8_readNumber 2 (F_X8_take 44 (F_X8_readNumber 2 tx_place tx_stop tx_signs).2 tx_stop tx_signs).2 tx_stop tx_signs).2, tr_foot, tr_fork) else (if 8 ≤ p3 then (0, (F_X8_readNumber 2 (F_X8_take 44 (F_X8_readNumber 2 tx_place tx_stop tx_signs).2 tx_stop tx_signs).2 tx_stop tx_signs).2, tr_foot, tr_fork) else (if p3 < 8 then (1, (F_X8_readNumber 2 (F_X8_take 44 (F_X8_readNumber 2 tx_place tx_stop tx_signs).2 tx_stop tx_signs).2 tx_stop tx_signs).2, (upd tr_foot p3.toNatClampNeg (F_X8_readNumber 2 tx_place tx_stop tx_signs).1), (upd tr_fork p3.toNatClampNeg (F_X8_readNumber 2 (F_X8_take 44 (F_X8_readNumber 2 tx_place tx_stop tx_signs).2 tx_stop tx_signs).2 tx_stop tx_signs).1)) else (0, (F_X8_readNumber 2 (F_X8_take 44 (F_X8_readNumber 2 tx_place tx_stop tx_signs).2 tx_stop tx_signs).2 tx_stop tx_signs).2, tr_foot, tr_fork))))))
set_option maxHeartbeats 200000 in
set_option maxRecDepth 10000 in
theorem dt_X3_readPair_b2 {P Q : Int32 → Int32 → (Nat → Int32) → (Nat → Int32) → Prop} {p3 : Int32} {tx_place : Int32} {tx_stop : Int32} {tx_signs : Nat → Int32} {tr_foot : Nat → Int32} {tr_fork : Nat → Int32} (h : wp_X3_readPair_b2 P p3 tx_place tx_stop tx_signs tr_foot tr_fork) (hq : ∀ o : Int32 × Int32 × (Nat → Int32) × (Nat → Int32), o = F_X3_readPair_b2 p3 tx_place tx_stop tx_signs tr_foot tr_fork → P o.1 o.2.1 o.2.2.1 o.2.2.2 → Q o.1 o.2.1 o.2.2.1 o.2.2.2) : wp_X3_readPair_b2 Q p3 tx_place tx_stop tx_signs tr_foot tr_fork := by
  rw [F_X3_readPair_b2] at hq
  refine du_X8_readNumber (by decide) h ?_
  intro h
  refine And.intro (fun c1 => ?_) (fun c1 => ?_)
  · have h := And.left h c1
    rw [if_pos c1] at hq
    have q9 := hq _ rfl
    dsimp only at q9
    exact q9 h
  · have h := And.right h c1
    rw [if_neg c1] at hq
    refine du_X8_take h ?_
    intro h
    refine And.intro (fun c2 => ?_) (fun c2 => ?_)
    · have h := And.left h c2
      rw [if_neg c2] at hq
      refine du_X8_readNumber (by decide) h ?_
      intro h
      refine And.intro (fun c3 => ?_) (fun c3 => ?_)
      · have h := And.left h c3
        rw [if_pos c3] at hq
        have q9 := hq _ rfl
        dsimp only at q9
        exact q9 h
      · have h := And.right h c3
        rw [if_neg c3] at hq
        refine And.intro (fun c4 => ?_) (fun c4 => ?_)
        · have h := And.left h c4
          rw [if_pos c4] at hq
          have q9 := hq _ rfl
          dsimp only at q9
          exact q9 h
        · have h := And.right h c4
          rw [if_neg c4] at hq
          refine And.intro (fun c5 => ?_) (fun c5 => ?_)
          · have h := And.left h c5
            rw [if_pos c5] at hq
            have q9 := hq _ rfl
            dsimp only at q9
            exact q9 h
          · have h := And.right h c5
            rw [if_neg c5] at hq
            refine And.intro (fun c6 => ?_) (fun c6 => ?_)
            · have h := And.left h c6
              rw [if_pos c6] at hq
              refine And.intro (And.left h) ?_
              have h := And.right h
              refine And.intro (And.left h) ?_
              have h := And.right h
              have q9 := hq _ rfl
              dsimp only at q9
              exact q9 h
            · have h := And.right h c6
              rw [if_neg c6] at hq
              have q9 := hq _ rfl
              dsimp only at q9
              exact q9 h
    · have h := And.right h c2
      rw [if_pos c2] at hq
      have q9 := hq _ rfl
      dsimp only at q9
      exact q9 h
theorem du_X3_readPair_b2 {P Q : Int32 → Int32 → (Nat → Int32) → (Nat → Int32) → Prop} {p3 : Int32} {tx_place : Int32} {tx_stop : Int32} {tx_signs : Nat → Int32} {tr_foot : Nat → Int32} {tr_fork : Nat → Int32} (h : wp_X3_readPair_b2 P p3 tx_place tx_stop tx_signs tr_foot tr_fork) (hq : P (F_X3_readPair_b2 p3 tx_place tx_stop tx_signs tr_foot tr_fork).1 (F_X3_readPair_b2 p3 tx_place tx_stop tx_signs tr_foot tr_fork).2.1 (F_X3_readPair_b2 p3 tx_place tx_stop tx_signs tr_foot tr_fork).2.2.1 (F_X3_readPair_b2 p3 tx_place tx_stop tx_signs tr_foot tr_fork).2.2.2 → Q (F_X3_readPair_b2 p3 tx_place tx_stop tx_signs tr_foot tr_fork).1 (F_X3_readPair_b2 p3 tx_place tx_stop tx_signs tr_foot tr_fork).2.1 (F_X3_readPair_b2 p3 tx_place tx_stop tx_signs tr_foot tr_fork).2.2.1 (F_X3_readPair_b2 p3 tx_place tx_stop tx_signs tr_foot tr_fork).2.2.2) : wp_X3_readPair_b2 Q p3 tx_place tx_stop tx_signs tr_foot tr_fork := dt_X3_readPair_b2 h (fun o eo => by rw [eo]; exact hq)
noncomputable def F_X3_readStanding (tx_place : Int32) (tx_stop : Int32) (tx_signs : Nat → Int32) (tr_comingStandings : Int32) (tr_foot : Nat → Int32) (tr_fork : Nat → Int32) : Int32 × Int32 × Int32 × (Nat → Int32) × (Nat → Int32) := if (F_X3_readPair_b2 tr_comingStandings tx_place tx_stop tx_signs tr_foot tr_fork).1 = 0 then (0, (F_X3_readPair_b2 tr_comingStandings tx_place tx_stop tx_signs tr_foot tr_fork).2.1, tr_comingStandings, (F_X3_readPair_b2 tr_comingStandings tx_place tx_stop tx_signs tr_foot tr_fork).2.2.1, (F_X3_readPair_b2 tr_comingStandings tx_place tx_stop tx_signs tr_foot tr_fork).2.2.2) else (1, (F_X3_readPair_b2 tr_comingStandings tx_place tx_stop tx_signs tr_foot tr_fork).2.1, (tr_comingStandings + 1), (F_X3_readPair_b2 tr_comingStandings tx_place tx_stop tx_signs tr_foot tr_fork).2.2.1, (F_X3_readPair_b2 tr_comingStandings tx_place tx_stop tx_signs tr_foot tr_fork).2.2.2)
set_option maxHeartbeats 200000 in
set_option maxRecDepth 10000 in
theorem dt_X3_readStanding {P Q : Int32 → Int32 → Int32 → (Nat → Int32) → (Nat → Int32) → Prop} {tx_place : Int32} {tx_stop : Int32} {tx_signs : Nat → Int32} {tr_comingStandings : Int32} {tr_foot : Nat → Int32} {tr_fork : Nat → Int32} (h : wp_X3_readStanding P tx_place tx_stop tx_signs tr_comingStandings tr_foot tr_fork) (hq : ∀ o : Int32 × Int32 × Int32 × (Nat → Int32) × (Nat → Int32), o = F_X3_readStanding tx_place tx_stop tx_signs tr_comingStandings tr_foot tr_fork → P o.1 o.2.1 o.2.2.1 o.2.2.2.1 o.2.2.2.2 → Q o.1 o.2.1 o.2.2.1 o.2.2.2.1 o.2.2.2.2) : wp_X3_readStanding Q tx_place tx_stop tx_signs tr_comingStandings tr_foot tr_fork := by
  rw [F_X3_readStanding] at hq
  refine du_X3_readPair_b2 h ?_
  intro h
  refine And.intro (fun c1 => ?_) (fun c1 => ?_)
  · have h := And.left h c1
    rw [if_neg c1] at hq
    refine ae ?_
    have h := h _ rfl
    have q9 := hq _ rfl
    dsimp only at q9
    exact q9 h
  · have h := And.right h c1
    rw [if_pos c1] at hq
    have q9 := hq _ rfl
    dsimp only at q9
    exact q9 h
theorem du_X3_readStanding {P Q : Int32 → Int32 → Int32 → (Nat → Int32) → (Nat → Int32) → Prop} {tx_place : Int32} {tx_stop : Int32} {tx_signs : Nat → Int32} {tr_comingStandings : Int32} {tr_foot : Nat → Int32} {tr_fork : Nat → Int32} (h : wp_X3_readStanding P tx_place tx_stop tx_signs tr_comingStandings tr_foot tr_fork) (hq : P (F_X3_readStanding tx_place tx_stop tx_signs tr_comingStandings tr_foot tr_fork).1 (F_X3_readStanding tx_place tx_stop tx_signs tr_comingStandings tr_foot tr_fork).2.1 (F_X3_readStanding tx_place tx_stop tx_signs tr_comingStandings tr_foot tr_fork).2.2.1 (F_X3_readStanding tx_place tx_stop tx_signs tr_comingStandings tr_foot tr_fork).2.2.2.1 (F_X3_readStanding tx_place tx_stop tx_signs tr_comingStandings tr_foot tr_fork).2.2.2.2 → Q (F_X3_readStanding tx_place tx_stop tx_signs tr_comingStandings tr_foot tr_fork).1 (F_X3_readStanding tx_place tx_stop tx_signs tr_comingStandings tr_foot tr_fork).2.1 (F_X3_readStanding tx_place tx_stop tx_signs tr_comingStandings tr_foot tr_fork).2.2.1 (F_X3_readStanding tx_place tx_stop tx_signs tr_comingStandings tr_foot tr_fork).2.2.2.1 (F_X3_readStanding tx_place tx_stop tx_signs tr_comingStandings tr_foot tr_fork).2.2.2.2) : wp_X3_readStanding Q tx_place tx_stop tx_signs tr_comingStandings tr_foot tr_fork := dt_X3_readStanding h (fun o eo => by rw [eo]; exact hq)
noncomputable def j_X3_readLine_28 {R : Type} (po : Int32 → Int32 → Int32 → Int32 → (Nat → Int32) → (Nat → Int32) → (Nat → Int32) → (Nat → Int32) → (Nat → Int32) → (Nat → Int32) → R) (tx_stop : Int32) (tx_signs : Nat → Int32) (tx_place : Int32) (tr_comingFruits : Int32) (tr_comingStandings : Int32) (tr_x : Nat → Int32) (tr_height : Nat → Int32) (tr_worth : Nat → Int32) (tr_ripe : Nat → Int32) (tr_foot : Nat → Int32) (tr_fork : Nat → Int32) : R := if (F_X8_here tx_place tx_stop tx_signs) = 115 then (if 8 ≤ tr_comingStandings then (po 0 tx_place tr_comingFruits tr_comingStandings tr_x tr_height tr_worth tr_ripe tr_foot tr_fork) else (po ((F_X3_readStanding (F_X8_skip tx_place tx_stop) tx_stop tx_signs tr_comingStandings tr_foot tr_fork).1) ((F_X3_readStanding (F_X8_skip tx_place tx_stop) tx_stop tx_signs tr_comingStandings tr_foot tr_fork).2.1) tr_comingFruits ((F_X3_readStanding (F_X8_skip tx_place tx_stop) tx_stop tx_signs tr_comingStandings tr_foot tr_fork).2.2.1) tr_x tr_height tr_worth tr_ripe ((F_X3_readStanding (F_X8_skip tx_place tx_stop) tx_stop tx_signs tr_comingStandings tr_foot tr_fork).2.2.2.1) ((F_X3_readStanding (F_X8_skip tx_place tx_stop) tx_stop tx_signs tr_comingStandings tr_foot tr_fork).2.2.2.2))) else (po 0 tx_place tr_comingFruits tr_comingStandings tr_x tr_height tr_worth tr_ripe tr_foot tr_fork)
noncomputable def F_X3_readLine (tx_place : Int32) (tx_stop : Int32) (tx_signs : Nat → Int32) (tr_comingFruits : Int32) (tr_comingStandings : Int32) (tr_x : Nat → Int32) (tr_height : Nat → Int32) (tr_worth : Nat → Int32) (tr_ripe : Nat → Int32) (tr_foot : Nat → Int32) (tr_fork : Nat → Int32) : Int32 × Int32 × Int32 × Int32 × (Nat → Int32) × (Nat → Int32) × (Nat → Int32) × (Nat → Int32) × (Nat → Int32) × (Nat → Int32) := if (F_X8_here tx_place tx_stop tx_signs) = 102 then (if 16 ≤ tr_comingFruits then (j_X3_readLine_28 (fun o0 o1 o2 o3 o4 o5 o6 o7 o8 o9 => (o0, o1, o2, o3, o4, o5, o6, o7, o8, o9)) tx_stop tx_signs tx_place tr_comingFruits tr_comingStandings tr_x tr_height tr_worth tr_ripe tr_foot tr_fork) else ((F_X3_readFruit (F_X8_skip tx_place tx_stop) tx_stop tx_signs tr_comingFruits tr_x tr_height tr_worth tr_ripe).1, (F_X3_readFruit (F_X8_skip tx_place tx_stop) tx_stop tx_signs tr_comingFruits tr_x tr_height tr_worth tr_ripe).2.1, (F_X3_readFruit (F_X8_skip tx_place tx_stop) tx_stop tx_signs tr_comingFruits tr_x tr_height tr_worth tr_ripe).2.2.1, tr_comingStandings, (F_X3_readFruit (F_X8_skip tx_place tx_stop) tx_stop tx_signs tr_comingFruits tr_x tr_height tr_worth tr_ripe).2.2.2.1, (F_X3_readFruit (F_X8_skip tx_place tx_stop) tx_stop tx_signs tr_comingFruits tr_x tr_height tr_worth tr_ripe).2.2.2.2.1, (F_X3_readFruit (F_X8_skip tx_place tx_stop) tx_stop tx_signs tr_comingFruits tr_x tr_height tr_worth tr_ripe).2.2.2.2.2.1, (F_X3_readFruit (F_X8_skip tx_place tx_stop) tx_stop tx_signs tr_comingFruits tr_x tr_height tr_worth tr_ripe).2.2.2.2.2.2, tr_foot, tr_fork)) else (j_X3_readLine_28 (fun o0 o1 o2 o3 o4 o5 o6 o7 o8 o9 => (o0, o1, o2, o3, o4, o5, o6, o7, o8, o9)) tx_stop tx_signs tx_place tr_comingFruits tr_comingStandings tr_x tr_height tr_worth tr_ripe tr_foot tr_fork)
set_option maxHeartbeats 200000 in
set_option maxRecDepth 10000 in
theorem dt_X3_readLine {P Q : Int32 → Int32 → Int32 → Int32 → (Nat → Int32) → (Nat → Int32) → (Nat → Int32) → (Nat → Int32) → (Nat → Int32) → (Nat → Int32) → Prop} {tx_place : Int32} {tx_stop : Int32} {tx_signs : Nat → Int32} {tr_comingFruits : Int32} {tr_comingStandings : Int32} {tr_x : Nat → Int32} {tr_height : Nat → Int32} {tr_worth : Nat → Int32} {tr_ripe : Nat → Int32} {tr_foot : Nat → Int32} {tr_fork : Nat → Int32} (h : wp_X3_readLine P tx_place tx_stop tx_signs tr_comingFruits tr_comingStandings tr_x tr_height tr_worth tr_ripe tr_foot tr_fork) (hq : ∀ o : Int32 × Int32 × Int32 × Int32 × (Nat → Int32) × (Nat → Int32) × (Nat → Int32) × (Nat → Int32) × (Nat → Int32) × (Nat → Int32), o = F_X3_readLine tx_place tx_stop tx_signs tr_comingFruits tr_comingStandings tr_x tr_height tr_worth tr_ripe tr_foot tr_fork → P o.1 o.2.1 o.2.2.1 o.2.2.2.1 o.2.2.2.2.1 o.2.2.2.2.2.1 o.2.2.2.2.2.2.1 o.2.2.2.2.2.2.2.1 o.2.2.2.2.2.2.2.2.1 o.2.2.2.2.2.2.2.2.2 → Q o.1 o.2.1 o.2.2.1 o.2.2.2.1 o.2.2.2.2.1 o.2.2.2.2.2.1 o.2.2.2.2.2.2.1 o.2.2.2.2.2.2.2.1 o.2.2.2.2.2.2.2.2.1 o.2.2.2.2.2.2.2.2.2) : wp_X3_readLine Q tx_place tx_stop tx_signs tr_comingFruits tr_comingStandings tr_x tr_height tr_worth tr_ripe tr_foot tr_fork := by
  rw [F_X3_readLine] at hq
  refine du_X8_here h ?_
  intro h
  refine And.intro (fun c1 => ?_) (fun c1 => ?_)
  · have h := And.left h c1
    rw [if_neg c1] at hq
    rw [j_X3_readLine_28] at hq
    unfold ws_X3_readLine_28 at h ⊢
    refine du_X8_here h ?_
    intro h
    refine And.intro (fun c2 => ?_) (fun c2 => ?_)
    · have h := And.left h c2
      rw [if_neg c2] at hq
      have q9 := hq _ rfl
      dsimp only at q9
      exact q9 h
    · have h := And.right h c2
      rw [if_pos c2] at hq
      refine And.intro (fun c3 => ?_) (fun c3 => ?_)
      · have h := And.left h c3
        rw [if_pos c3] at hq
        have q9 := hq _ rfl
        dsimp only at q9
        exact q9 h
      · have h := And.right h c3
        rw [if_neg c3] at hq
        refine du_X8_skip h ?_
        intro h
        refine du_X3_readStanding h ?_
        intro h
        refine And.intro (And.left h) ?_
        have h := And.right h
        have q9 := hq _ rfl
        dsimp only at q9
        exact q9 h
  · have h := And.right h c1
    rw [if_pos c1] at hq
    refine And.intro (fun c4 => ?_) (fun c4 => ?_)
    · have h := And.left h c4
      rw [if_pos c4] at hq
      rw [j_X3_readLine_28] at hq
      unfold ws_X3_readLine_28 at h ⊢
      refine du_X8_here h ?_
      intro h
      refine And.intro (fun c5 => ?_) (fun c5 => ?_)
      · have h := And.left h c5
        rw [if_neg c5] at hq
        have q9 := hq _ rfl
        dsimp only at q9
        exact q9 h
      · have h := And.right h c5
        rw [if_pos c5] at hq
        refine And.intro (fun c6 => ?_) (fun c6 => ?_)
        · have h := And.left h c6
          rw [if_pos c6] at hq
          have q9 := hq _ rfl
          dsimp only at q9
          exact q9 h
        · have h := And.right h c6
          rw [if_neg c6] at hq
          refine du_X8_skip h ?_
          intro h
          refine du_X3_readStanding h ?_
          intro h
          refine And.intro (And.left h) ?_
          have h := And.right h
          have q9 := hq _ rfl
          dsimp only at q9
          exact q9 h
    · have h := And.right h c4
      rw [if_neg c4] at hq
      refine du_X8_skip h ?_
      intro h
      refine du_X3_readFruit h ?_
      intro h
      refine And.intro (And.left h) ?_
      have h := And.right h
      have q9 := hq _ rfl
      dsimp only at q9
      exact q9 h
theorem du_X3_readLine {P Q : Int32 → Int32 → Int32 → Int32 → (Nat → Int32) → (Nat → Int32) → (Nat → Int32) → (Nat → Int32) → (Nat → Int32) → (Nat → Int32) → Prop} {tx_place : Int32} {tx_stop : Int32} {tx_signs : Nat → Int32} {tr_comingFruits : Int32} {tr_comingStandings : Int32} {tr_x : Nat → Int32} {tr_height : Nat → Int32} {tr_worth : Nat → Int32} {tr_ripe : Nat → Int32} {tr_foot : Nat → Int32} {tr_fork : Nat → Int32} (h : wp_X3_readLine P tx_place tx_stop tx_signs tr_comingFruits tr_comingStandings tr_x tr_height tr_worth tr_ripe tr_foot tr_fork) (hq : P (F_X3_readLine tx_place tx_stop tx_signs tr_comingFruits tr_comingStandings tr_x tr_height tr_worth tr_ripe tr_foot tr_fork).1 (F_X3_readLine tx_place tx_stop tx_signs tr_comingFruits tr_comingStandings tr_x tr_height tr_worth tr_ripe tr_foot tr_fork).2.1 (F_X3_readLine tx_place tx_stop tx_signs tr_comingFruits tr_comingStandings tr_x tr_height tr_worth tr_ripe tr_foot tr_fork).2.2.1 (F_X3_readLine tx_place tx_stop tx_signs tr_comingFruits tr_comingStandings tr_x tr_height tr_worth tr_ripe tr_foot tr_fork).2.2.2.1 (F_X3_readLine tx_place tx_stop tx_signs tr_comingFruits tr_comingStandings tr_x tr_height tr_worth tr_ripe tr_foot tr_fork).2.2.2.2.1 (F_X3_readLine tx_place tx_stop tx_signs tr_comingFruits tr_comingStandings tr_x tr_height tr_worth tr_ripe tr_foot tr_fork).2.2.2.2.2.1 (F_X3_readLine tx_place tx_stop tx_signs tr_comingFruits tr_comingStandings tr_x tr_height tr_worth tr_ripe tr_foot tr_fork).2.2.2.2.2.2.1 (F_X3_readLine tx_place tx_stop tx_signs tr_comingFruits tr_comingStandings tr_x tr_height tr_worth tr_ripe tr_foot tr_fork).2.2.2.2.2.2.2.1 (F_X3_readLine tx_place tx_stop tx_signs tr_comingFruits tr_comingStandings tr_x tr_height tr_worth tr_ripe tr_foot tr_fork).2.2.2.2.2.2.2.2.1 (F_X3_readLine tx_place tx_stop tx_signs tr_comingFruits tr_comingStandings tr_x tr_height tr_worth tr_ripe tr_foot tr_fork).2.2.2.2.2.2.2.2.2 → Q (F_X3_readLine tx_place tx_stop tx_signs tr_comingFruits tr_comingStandings tr_x tr_height tr_worth tr_ripe tr_foot tr_fork).1 (F_X3_readLine tx_place tx_stop tx_signs tr_comingFruits tr_comingStandings tr_x tr_height tr_worth tr_ripe tr_foot tr_fork).2.1 (F_X3_readLine tx_place tx_stop tx_signs tr_comingFruits tr_comingStandings tr_x tr_height tr_worth tr_ripe tr_foot tr_fork).2.2.1 (F_X3_readLine tx_place tx_stop tx_signs tr_comingFruits tr_comingStandings tr_x tr_height tr_worth tr_ripe tr_foot tr_fork).2.2.2.1 (F_X3_readLine tx_place tx_stop tx_signs tr_comingFruits tr_comingStandings tr_x tr_height tr_worth tr_ripe tr_foot tr_fork).2.2.2.2.1 (F_X3_readLine tx_place tx_stop tx_signs tr_comingFruits tr_comingStandings tr_x tr_height tr_worth tr_ripe tr_foot tr_fork).2.2.2.2.2.1 (F_X3_readLine tx_place tx_stop tx_signs tr_comingFruits tr_comingStandings tr_x tr_height tr_worth tr_ripe tr_foot tr_fork).2.2.2.2.2.2.1 (F_X3_readLine tx_place tx_stop tx_signs tr_comingFruits tr_comingStandings tr_x tr_height tr_worth tr_ripe tr_foot tr_fork).2.2.2.2.2.2.2.1 (F_X3_readLine tx_place tx_stop tx_signs tr_comingFruits tr_comingStandings tr_x tr_height tr_worth tr_ripe tr_foot tr_fork).2.2.2.2.2.2.2.2.1 (F_X3_readLine tx_place tx_stop tx_signs tr_comingFruits tr_comingStandings tr_x tr_height tr_worth tr_ripe tr_foot tr_fork).2.2.2.2.2.2.2.2.2) : wp_X3_readLine Q tx_place tx_stop tx_signs tr_comingFruits tr_comingStandings tr_x tr_height tr_worth tr_ripe tr_foot tr_fork := dt_X3_readLine h (fun o eo => by rw [eo]; exact hq)
noncomputable def fs_X3_readLines_18 {R : Type} (po : Int32 → Int32 → Int32 → Int32 → (Nat → Int32) → (Nat → Int32) → (Nat → Int32) → (Nat → Int32) → (Nat → Int32) → (Nat → Int32) → R) (tx_stop : Int32) (tx_signs : Nat → Int32) (tr_fruits : Int32) (tr_standings : Int32) (nx : Int32 → Int32 → Int32 → Int32 → (Nat → Int32) → (Nat → Int32) → (Nat → Int32) → (Nat → Int32) → (Nat → Int32) → (Nat → Int32) → R) (x2 : Int32) (tx_place : Int32) (tr_comingFruits : Int32) (tr_comingStandings : Int32) (tr_x : Nat → Int32) (tr_height : Nat → Int32) (tr_worth : Nat → Int32) (tr_ripe : Nat → Int32) (tr_foot : Nat → Int32) (tr_fork : Nat → Int32) : R := if 76 < x2 then (po (-1) tx_place tr_comingFruits tr_comingStandings tr_x tr_height tr_worth tr_ripe tr_foot tr_fork) else (if (F_X3_readLine tx_place tx_stop tx_signs tr_comingFruits tr_comingStandings tr_x tr_height tr_worth tr_ripe tr_foot tr_fork).1 = 0 then (po (-1) ((F_X3_readLine tx_place tx_stop tx_signs tr_comingFruits tr_comingStandings tr_x tr_height tr_worth tr_ripe tr_foot tr_fork).2.1) ((F_X3_readLine tx_place tx_stop tx_signs tr_comingFruits tr_comingStandings tr_x tr_height tr_worth tr_ripe tr_foot tr_fork).2.2.1) ((F_X3_readLine tx_place tx_stop tx_signs tr_comingFruits tr_comingStandings tr_x tr_height tr_worth tr_ripe tr_foot tr_fork).2.2.2.1) ((F_X3_readLine tx_place tx_stop tx_signs tr_comingFruits tr_comingStandings tr_x tr_height tr_worth tr_ripe tr_foot tr_fork).2.2.2.2.1) ((F_X3_readLine tx_place tx_stop tx_signs tr_comingFruits tr_comingStandings tr_x tr_height tr_worth tr_ripe tr_foot tr_fork).2.2.2.2.2.1) ((F_X3_readLine tx_place tx_stop tx_signs tr_comingFruits tr_comingStandings tr_x tr_height tr_worth tr_ripe tr_foot tr_fork).2.2.2.2.2.2.1) ((F_X3_readLine tx_place tx_stop tx_signs tr_comingFruits tr_comingStandings tr_x tr_height tr_worth tr_ripe tr_foot tr_fork).2.2.2.2.2.2.2.1) ((F_X3_readLine tx_place tx_stop tx_signs tr_comingFruits tr_comingStandings tr_x tr_height tr_worth tr_ripe tr_foot tr_fork).2.2.2.2.2.2.2.2.1) ((F_X3_readLine tx_place tx_stop tx_signs tr_comingFruits tr_comingStandings tr_x tr_height tr_worth tr_ripe tr_foot tr_fork).2.2.2.2.2.2.2.2.2)) else (if (F_X8_take 59 (F_X3_readLine tx_place tx_stop tx_signs tr_comingFruits tr_comingStandings tr_x tr_height tr_worth tr_ripe tr_foot tr_fork).2.1 tx_stop tx_signs).1 = 0 then (po x2 ((F_X8_take 59 (F_X3_readLine tx_place tx_stop tx_signs tr_comingFruits tr_comingStandings tr_x tr_height tr_worth tr_ripe tr_foot tr_fork).2.1 tx_stop tx_signs).2) ((F_X3_readLine tx_place tx_stop tx_signs tr_comingFruits tr_comingStandings tr_x tr_height tr_worth tr_ripe tr_foot tr_fork).2.2.1) ((F_X3_readLine tx_place tx_stop tx_signs tr_comingFruits tr_comingStandings tr_x tr_height tr_worth tr_ripe tr_foot tr_fork).2.2.2.1) ((F_X3_readLine tx_place tx_stop tx_signs tr_comingFruits tr_comingStandings tr_x tr_height tr_worth tr_ripe tr_foot tr_fork).2.2.2.2.1) ((F_X3_readLine tx_place tx_stop tx_signs tr_comingFruits tr_comingStandings tr_x tr_height tr_worth tr_ripe tr_foot tr_fork).2.2.2.2.2.1) ((F_X3_readLine tx_place tx_stop tx_signs tr_comingFruits tr_comingStandings tr_x tr_height tr_worth tr_ripe tr_foot tr_fork).2.2.2.2.2.2.1) ((F_X3_readLine tx_place tx_stop tx_signs tr_comingFruits tr_comingStandings tr_x tr_height tr_worth tr_ripe tr_foot tr_fork).2.2.2.2.2.2.2.1) ((F_X3_readLine tx_place tx_stop tx_signs tr_comingFruits tr_comingStandings tr_x tr_height tr_worth tr_ripe tr_foot tr_fork).2.2.2.2.2.2.2.2.1) ((F_X3_readLine tx_place tx_stop tx_signs tr_comingFruits tr_comingStandings tr_x tr_height tr_worth tr_ripe tr_foot tr_fork).2.2.2.2.2.2.2.2.2)) else (nx (x2 + 1) ((F_X8_take 59 (F_X3_readLine tx_place tx_stop tx_signs tr_comingFruits tr_comingStandings tr_x tr_height tr_worth tr_ripe tr_foot tr_fork).2.1 tx_stop tx_signs).2) ((F_X3_readLine tx_place tx_stop tx_signs tr_comingFruits tr_comingStandings tr_x tr_height tr_worth tr_ripe tr_foot tr_fork).2.2.1) ((F_X3_readLine tx_place tx_stop tx_signs tr_comingFruits tr_comingStandings tr_x tr_height tr_worth tr_ripe tr_foot tr_fork).2.2.2.1) ((F_X3_readLine tx_place tx_stop tx_signs tr_comingFruits tr_comingStandings tr_x tr_height tr_worth tr_ripe tr_foot tr_fork).2.2.2.2.1) ((F_X3_readLine tx_place tx_stop tx_signs tr_comingFruits tr_comingStandings tr_x tr_height tr_worth tr_ripe tr_foot tr_fork).2.2.2.2.2.1) ((F_X3_readLine tx_place tx_stop tx_signs tr_comingFruits tr_comingStandings tr_x tr_height tr_worth tr_ripe tr_foot tr_fork).2.2.2.2.2.2.1) ((F_X3_readLine tx_place tx_stop tx_signs tr_comingFruits tr_comingStandings tr_x tr_height tr_worth tr_ripe tr_foot tr_fork).2.2.2.2.2.2.2.1) ((F_X3_readLine tx_place tx_stop tx_signs tr_comingFruits tr_comingStandings tr_x tr_height tr_worth tr_ripe tr_foot tr_fork).2.2.2.2.2.2.2.2.1) ((F_X3_readLine tx_place tx_stop tx_signs tr_comingFruits tr_comingStandings tr_x tr_height tr_worth tr_ripe tr_foot tr_fork).2.2.2.2.2.2.2.2.2))))
set_option maxHeartbeats 200000 in
set_option maxRecDepth 10000 in
theorem dl_X3_readLines_18 {P Q : Int32 → Int32 → Int32 → Int32 → (Nat → Int32) → (Nat → Int32) → (Nat → Int32) → (Nat → Int32) → (Nat → Int32) → (Nat → Int32) → Prop} {tx_stop : Int32} {tx_signs : Nat → Int32} {tr_fruits : Int32} {tr_standings : Int32} {R : Type} {po : Int32 → Int32 → Int32 → Int32 → (Nat → Int32) → (Nat → Int32) → (Nat → Int32) → (Nat → Int32) → (Nat → Int32) → (Nat → Int32) → R} {d : Int32 → Int32 → Int32 → Int32 → (Nat → Int32) → (Nat → Int32) → (Nat → Int32) → (Nat → Int32) → (Nat → Int32) → (Nat → Int32) → R} : ∀ (n m : Nat) (x2 : Int32) (tx_place : Int32) (tr_comingFruits : Int32) (tr_comingStandings : Int32) (tr_x : Nat → Int32) (tr_height : Nat → Int32) (tr_worth : Nat → Int32) (tr_ripe : Nat → Int32) (tr_foot : Nat → Int32) (tr_fork : Nat → Int32), 1 ≤ Int32.toInt x2 ∧ Int32.toInt x2 ≤ 77 → 77 - Int32.toInt x2 < (m : Int) → wb_X3_readLines_18 P tx_stop tx_signs tr_fruits tr_standings n x2 tx_place tr_comingFruits tr_comingStandings tr_x tr_height tr_worth tr_ripe tr_foot tr_fork → (∀ (b0 : Int32) (b1 : Int32) (b2 : Int32) (b3 : Int32) (b4 : Nat → Int32) (b5 : Nat → Int32) (b6 : Nat → Int32) (b7 : Nat → Int32) (b8 : Nat → Int32) (b9 : Nat → Int32), po b0 b1 b2 b3 b4 b5 b6 b7 b8 b9 = flp (fs_X3_readLines_18 po tx_stop tx_signs tr_fruits tr_standings) d m x2 tx_place tr_comingFruits tr_comingStandings tr_x tr_height tr_worth tr_ripe tr_foot tr_fork → P b0 b1 b2 b3 b4 b5 b6 b7 b8 b9 → Q b0 b1 b2 b3 b4 b5 b6 b7 b8 b9) → wb_X3_readLines_18 Q tx_stop tx_signs tr_fruits tr_standings n x2 tx_place tr_comingFruits tr_comingStandings tr_x tr_height tr_worth tr_ripe tr_foot tr_fork := by
  have l1 : Int32.toInt (1 : Int32) = 1 := by decide
  have l76 : Int32.toInt (76 : Int32) = 76 := by decide
  intro n
  induction n with
  | zero => intro m x2 tx_place tr_comingFruits tr_comingStandings tr_x tr_height tr_worth tr_ripe tr_foot tr_fork hv hm h hq; exact False.elim h
  | succ n ih =>
    intro m x2 tx_place tr_comingFruits tr_comingStandings tr_x tr_height tr_worth tr_ripe tr_foot tr_fork hv hm h hq
    cases m with
    | zero => exfalso; omega
    | succ m =>
      rw [flp_s, fs_X3_readLines_18] at hq
      have h : ws_X3_readLines_18 P (wb_X3_readLines_18 P tx_stop tx_signs tr_fruits tr_standings n) tx_stop tx_signs tr_fruits tr_standings x2 tx_place tr_comingFruits tr_comingStandings tr_x tr_height tr_worth tr_ripe tr_foot tr_fork := h
      show ws_X3_readLines_18 Q (wb_X3_readLines_18 Q tx_stop tx_signs tr_fruits tr_standings n) tx_stop tx_signs tr_fruits tr_standings x2 tx_place tr_comingFruits tr_comingStandings tr_x tr_height tr_worth tr_ripe tr_foot tr_fork
      unfold ws_X3_readLines_18 at h ⊢
      refine And.intro (fun c1 => ?_) (fun c1 => ?_)
      · have h := And.left h c1
        rw [if_pos c1] at hq
        have dc1 := (fa_lt _ _).mp c1
        exact hq _ _ _ _ _ _ _ _ _ _ rfl h
      · have h := And.right h c1
        rw [if_neg c1] at hq
        have dc1 := mt (fa_lt _ _).mpr c1
        refine du_X3_readLine h ?_
        intro h
        refine And.intro (fun c2 => ?_) (fun c2 => ?_)
        · have h := And.left h c2
          rw [if_neg c2] at hq
          have dc2 := mt (fa_eq _ _).mpr c2
          refine du_X8_take h ?_
          intro h
          refine And.intro (fun c3 => ?_) (fun c3 => ?_)
          · have h := And.left h c3
            rw [if_neg c3] at hq
            have dc3 := mt (fa_eq _ _).mpr c3
            refine ae ?_
            have h := h _ rfl
            have f9 := ta_add x2 1 (by omega)
            exact ih m _ _ _ _ _ _ _ _ _ _ (by omega) (by omega) h hq
          · have h := And.right h c3
            rw [if_pos c3] at hq
            have dc3 := (fa_eq _ _).mp c3
            exact hq _ _ _ _ _ _ _ _ _ _ rfl h
        · have h := And.right h c2
          rw [if_pos c2] at hq
          have dc2 := (fa_eq _ _).mp c2
          exact hq _ _ _ _ _ _ _ _ _ _ rfl h
noncomputable def F_X3_readLines (tx_place : Int32) (tx_stop : Int32) (tx_signs : Nat → Int32) (tr_fruits : Int32) (tr_standings : Int32) (tr_comingFruits : Int32) (tr_comingStandings : Int32) (tr_x : Nat → Int32) (tr_height : Nat → Int32) (tr_worth : Nat → Int32) (tr_ripe : Nat → Int32) (tr_foot : Nat → Int32) (tr_fork : Nat → Int32) : Int32 × Int32 × Int32 × Int32 × (Nat → Int32) × (Nat → Int32) × (Nat → Int32) × (Nat → Int32) × (Nat → Int32) × (Nat → Int32) := flp (fs_X3_readLines_18 (fun o0 o1 o2 o3 o4 o5 o6 o7 o8 o9 => (o0, o1, o2, o3, o4, o5, o6, o7, o8, o9)) tx_stop tx_signs tr_fruits tr_standings) (fun _ _ _ _ _ _ _ _ _ _ => (0, 0, 0, 0, (fun _ => 0), (fun _ => 0), (fun _ => 0), (fun _ => 0), (fun _ => 0), (fun _ => 0))) 77 1 tx_place tr_fruits tr_standings tr_x tr_height tr_worth tr_ripe tr_foot tr_fork
set_option maxHeartbeats 200000 in
set_option maxRecDepth 10000 in
theorem dt_X3_readLines {P Q : Int32 → Int32 → Int32 → Int32 → (Nat → Int32) → (Nat → Int32) → (Nat → Int32) → (Nat → Int32) → (Nat → Int32) → (Nat → Int32) → Prop} {tx_place : Int32} {tx_stop : Int32} {tx_signs : Nat → Int32} {tr_fruits : Int32} {tr_standings : Int32} {tr_comingFruits : Int32} {tr_comingStandings : Int32} {tr_x : Nat → Int32} {tr_height : Nat → Int32} {tr_worth : Nat → Int32} {tr_ripe : Nat → Int32} {tr_foot : Nat → Int32} {tr_fork : Nat → Int32} (h : wp_X3_readLines P tx_place tx_stop tx_signs tr_fruits tr_standings tr_comingFruits tr_comingStandings tr_x tr_height tr_worth tr_ripe tr_foot tr_fork) (hq : ∀ o : Int32 × Int32 × Int32 × Int32 × (Nat → Int32) × (Nat → Int32) × (Nat → Int32) × (Nat → Int32) × (Nat → Int32) × (Nat → Int32), o = F_X3_readLines tx_place tx_stop tx_signs tr_fruits tr_standings tr_comingFruits tr_comingStandings tr_x tr_height tr_worth tr_ripe tr_foot tr_fork → P o.1 o.2.1 o.2.2.1 o.2.2.2.1 o.2.2.2.2.1 o.2.2.2.2.2.1 o.2.2.2.2.2.2.1 o.2.2.2.2.2.2.2.1 o.2.2.2.2.2.2.2.2.1 o.2.2.2.2.2.2.2.2.2 → Q o.1 o.2.1 o.2.2.1 o.2.2.2.1 o.2.2.2.2.1 o.2.2.2.2.2.1 o.2.2.2.2.2.2.1 o.2.2.2.2.2.2.2.1 o.2.2.2.2.2.2.2.2.1 o.2.2.2.2.2.2.2.2.2) : wp_X3_readLines Q tx_place tx_stop tx_signs tr_fruits tr_standings tr_comingFruits tr_comingStandings tr_x tr_height tr_worth tr_ripe tr_foot tr_fork := by
  rw [F_X3_readLines] at hq
  obtain ⟨n1, h⟩ := h
  exact ⟨n1, dl_X3_readLines_18 n1 77 _ _ _ _ _ _ _ _ _ _ (by decide) (by decide) h (fun b0 b1 b2 b3 b4 b5 b6 b7 b8 b9 e9 h9 => hq (b0, b1, b2, b3, b4, b5, b6, b7, b8, b9) e9 h9)⟩
theorem du_X3_readLines {P Q : Int32 → Int32 → Int32 → Int32 → (Nat → Int32) → (Nat → Int32) → (Nat → Int32) → (Nat → Int32) → (Nat → Int32) → (Nat → Int32) → Prop} {tx_place : Int32} {tx_stop : Int32} {tx_signs : Nat → Int32} {tr_fruits : Int32} {tr_standings : Int32} {tr_comingFruits : Int32} {tr_comingStandings : Int32} {tr_x : Nat → Int32} {tr_height : Nat → Int32} {tr_worth : Nat → Int32} {tr_ripe : Nat → Int32} {tr_foot : Nat → Int32} {tr_fork : Nat → Int32} (h : wp_X3_readLines P tx_place tx_stop tx_signs tr_fruits tr_standings tr_comingFruits tr_comingStandings tr_x tr_height tr_worth tr_ripe tr_foot tr_fork) (hq : P (F_X3_readLines tx_place tx_stop tx_signs tr_fruits tr_standings tr_comingFruits tr_comingStandings tr_x tr_height tr_worth tr_ripe tr_foot tr_fork).1 (F_X3_readLines tx_place tx_stop tx_signs tr_fruits tr_standings tr_comingFruits tr_comingStandings tr_x tr_height tr_worth tr_ripe tr_foot tr_fork).2.1 (F_X3_readLines tx_place tx_stop tx_signs tr_fruits tr_standings tr_comingFruits tr_comingStandings tr_x tr_height tr_worth tr_ripe tr_foot tr_fork).2.2.1 (F_X3_readLines tx_place tx_stop tx_signs tr_fruits tr_standings tr_comingFruits tr_comingStandings tr_x tr_height tr_worth tr_ripe tr_foot tr_fork).2.2.2.1 (F_X3_readLines tx_place tx_stop tx_signs tr_fruits tr_standings tr_comingFruits tr_comingStandings tr_x tr_height tr_worth tr_ripe tr_foot tr_fork).2.2.2.2.1 (F_X3_readLines tx_place tx_stop tx_signs tr_fruits tr_standings tr_comingFruits tr_comingStandings tr_x tr_height tr_worth tr_ripe tr_foot tr_fork).2.2.2.2.2.1 (F_X3_readLines tx_place tx_stop tx_signs tr_fruits tr_standings tr_comingFruits tr_comingStandings tr_x tr_height tr_worth tr_ripe tr_foot tr_fork).2.2.2.2.2.2.1 (F_X3_readLines tx_place tx_stop tx_signs tr_fruits tr_standings tr_comingFruits tr_comingStandings tr_x tr_height tr_worth tr_ripe tr_foot tr_fork).2.2.2.2.2.2.2.1 (F_X3_readLines tx_place tx_stop tx_signs tr_fruits tr_standings tr_comingFruits tr_comingStandings tr_x tr_height tr_worth tr_ripe tr_foot tr_fork).2.2.2.2.2.2.2.2.1 (F_X3_readLines tx_place tx_stop tx_signs tr_fruits tr_standings tr_comingFruits tr_comingStandings tr_x tr_height tr_worth tr_ripe tr_foot tr_fork).2.2.2.2.2.2.2.2.2 → Q (F_X3_readLines tx_place tx_stop tx_signs tr_fruits tr_standings tr_comingFruits tr_comingStandings tr_x tr_height tr_worth tr_ripe tr_foot tr_fork).1 (F_X3_readLines tx_place tx_stop tx_signs tr_fruits tr_standings tr_comingFruits tr_comingStandings tr_x tr_height tr_worth tr_ripe tr_foot tr_fork).2.1 (F_X3_readLines tx_place tx_stop tx_signs tr_fruits tr_standings tr_comingFruits tr_comingStandings tr_x tr_height tr_worth tr_ripe tr_foot tr_fork).2.2.1 (F_X3_readLines tx_place tx_stop tx_signs tr_fruits tr_standings tr_comingFruits tr_comingStandings tr_x tr_height tr_worth tr_ripe tr_foot tr_fork).2.2.2.1 (F_X3_readLines tx_place tx_stop tx_signs tr_fruits tr_standings tr_comingFruits tr_comingStandings tr_x tr_height tr_worth tr_ripe tr_foot tr_fork).2.2.2.2.1 (F_X3_readLines tx_place tx_stop tx_signs tr_fruits tr_standings tr_comingFruits tr_comingStandings tr_x tr_height tr_worth tr_ripe tr_foot tr_fork).2.2.2.2.2.1 (F_X3_readLines tx_place tx_stop tx_signs tr_fruits tr_standings tr_comingFruits tr_comingStandings tr_x tr_height tr_worth tr_ripe tr_foot tr_fork).2.2.2.2.2.2.1 (F_X3_readLines tx_place tx_stop tx_signs tr_fruits tr_standings tr_comingFruits tr_comingStandings tr_x tr_height tr_worth tr_ripe tr_foot tr_fork).2.2.2.2.2.2.2.1 (F_X3_readLines tx_place tx_stop tx_signs tr_fruits tr_standings tr_comingFruits tr_comingStandings tr_x tr_height tr_worth tr_ripe tr_foot tr_fork).2.2.2.2.2.2.2.2.1 (F_X3_readLines tx_place tx_stop tx_signs tr_fruits tr_standings tr_comingFruits tr_comingStandings tr_x tr_height tr_worth tr_ripe tr_foot tr_fork).2.2.2.2.2.2.2.2.2) : wp_X3_readLines Q tx_place tx_stop tx_signs tr_fruits tr_standings tr_comingFruits tr_comingStandings tr_x tr_height tr_worth tr_ripe tr_foot tr_fork := dt_X3_readLines h (fun o eo => by rw [eo]; exact hq)
noncomputable def F_X3_takeLines (tr_fruits : Int32) (tr_standings : Int32) (tr_comingFruits : Int32) (tr_comingStandings : Int32) : Int32 × Int32 := (tr_comingFruits, tr_comingStandings)
set_option maxHeartbeats 200000 in
set_option maxRecDepth 10000 in
theorem dt_X3_takeLines {P Q : Int32 → Int32 → Prop} {tr_fruits : Int32} {tr_standings : Int32} {tr_comingFruits : Int32} {tr_comingStandings : Int32} (h : wp_X3_takeLines P tr_fruits tr_standings tr_comingFruits tr_comingStandings) (hq : ∀ o : Int32 × Int32, o = F_X3_takeLines tr_fruits tr_standings tr_comingFruits tr_comingStandings → P o.1 o.2 → Q o.1 o.2) : wp_X3_takeLines Q tr_fruits tr_standings tr_comingFruits tr_comingStandings := by
  rw [F_X3_takeLines] at hq
  have q9 := hq _ rfl
  dsimp only at q9
  exact q9 h
theorem du_X3_takeLines {P Q : Int32 → Int32 → Prop} {tr_fruits : Int32} {tr_standings : Int32} {tr_comingFruits : Int32} {tr_comingStandings : Int32} (h : wp_X3_takeLines P tr_fruits tr_standings tr_comingFruits tr_comingStandings) (hq : P (F_X3_takeLines tr_fruits tr_standings tr_comingFruits tr_comingStandings).1 (F_X3_takeLines tr_fruits tr_standings tr_comingFruits tr_comingStandings).2 → Q (F_X3_takeLines tr_fruits tr_standings tr_comingFruits tr_comingStandings).1 (F_X3_takeLines tr_fruits tr_standings tr_comingFruits tr_comingStandings).2) : wp_X3_takeLines Q tr_fruits tr_standings tr_comingFruits tr_comingStandings := dt_X3_takeLines h (fun o eo => by rw [eo]; exact hq)
noncomputable def bd_X4_forgetAll_7 (pa_undoable : Int32) (c : Int32) (s : (Nat → Int32)) : (Nat → Int32) := (upd s c.toNatClampNeg (vp_nar .boolean 0))
noncomputable def ex_X4_forgetAll_7 {R : Type} (po : Int32 → (Nat → Int32) → R) (pa_undoable : Int32) (c : Int32) (s : (Nat → Int32)) : R := po pa_undoable s
set_option maxHeartbeats 200000 in
set_option maxRecDepth 10000 in
theorem dl_X4_forgetAll_7 {P Q : Int32 → (Nat → Int32) → Prop} {pa_undoable : Int32} {a : (Nat → Int32)} {i : Nat} (hi0 : i < 2147483648) (hE : ∀ (c : Int32) (s : (Nat → Int32)), c = nI (i + (Int32.toInt 2 - ((i : Nat) : Int)).toNat) → s = itr (bd_X4_forgetAll_7 pa_undoable) a i (Int32.toInt 2 - ((i : Nat) : Int)).toNat → (P pa_undoable s) → (Q pa_undoable s)) : ∀ (n k : Nat) (c : Int32), c = nI (i + k) → k ≤ (Int32.toInt 2 - ((i : Nat) : Int)).toNat → wb_X4_forgetAll_7 P n c pa_undoable (itr (bd_X4_forgetAll_7 pa_undoable) a i k) → wb_X4_forgetAll_7 Q n c pa_undoable (itr (bd_X4_forgetAll_7 pa_undoable) a i k) := by
  intro n
  induction n with
  | zero => intro k c hc hk h; exact False.elim h
  | succ n ih =>
    intro k c hc hk h
    have hr := tp_r 2
    have hi : Int32.toInt c = ((i + k : Nat) : Int) := by rw [hc]; exact nI_toInt (by omega)
    refine And.intro (fun t0 => ?_) (fun t0 => ?_)
    · have h := And.left h t0
      have t1 := (fa_le _ _).mp t0
      have hk2 : k = (Int32.toInt 2 - ((i : Nat) : Int)).toNat := by omega
      subst hk2
      exact hE _ _ hc rfl h
    · have h := And.right h t0
      have t1 := mt (fa_le _ _).mpr t0
      have hs : ∀ o : (Nat → Int32), o = itr (bd_X4_forgetAll_7 pa_undoable) a i (k + 1) → wb_X4_forgetAll_7 P n (c + 1) pa_undoable o → wb_X4_forgetAll_7 Q n (c + 1) pa_undoable o := by
        intro o eo h9
        have q := ih (k + 1) (c + 1) (by rw [hc]; exact nI_1 _) (by omega)
        rw [← eo] at q
        exact q h9
      rw [itr_s, ← hc, bd_X4_forgetAll_7] at hs
      refine And.intro (And.left h) ?_
      have h := And.right h
      refine ae ?_
      have h := h _ rfl
      have q9 := hs _ rfl
      exact q9 h
noncomputable def F_X4_forgetAll (pa_undoable : Int32) (pa_isKept : Nat → Int32) : Int32 × (Nat → Int32) := ex_X4_forgetAll_7 (fun o0 o1 => (o0, o1)) 0 (nI (0 + (Int32.toInt 2 - ((0 : Nat) : Int)).toNat)) (itr (bd_X4_forgetAll_7 0) pa_isKept 0 (Int32.toInt 2 - ((0 : Nat) : Int)).toNat)
set_option maxHeartbeats 200000 in
set_option maxRecDepth 10000 in
theorem dt_X4_forgetAll {P Q : Int32 → (Nat → Int32) → Prop} {pa_undoable : Int32} {pa_isKept : Nat → Int32} (h : wp_X4_forgetAll P pa_undoable pa_isKept) (hq : ∀ o : Int32 × (Nat → Int32), o = F_X4_forgetAll pa_undoable pa_isKept → P o.1 o.2 → Q o.1 o.2) : wp_X4_forgetAll Q pa_undoable pa_isKept := by
  rw [F_X4_forgetAll] at hq
  obtain ⟨n1, h⟩ := h
  refine ⟨n1, dl_X4_forgetAll_7 (a := pa_isKept) (i := 0) (by decide) ?_ n1 0 0 (by decide) (Nat.zero_le _) h⟩
  intro cc2 s3 ec4 es5 h
  rw [← ec4, ← es5, ex_X4_forgetAll_7] at hq
  have q9 := hq _ rfl
  dsimp only at q9
  exact q9 h
theorem du_X4_forgetAll {P Q : Int32 → (Nat → Int32) → Prop} {pa_undoable : Int32} {pa_isKept : Nat → Int32} (h : wp_X4_forgetAll P pa_undoable pa_isKept) (hq : P (F_X4_forgetAll pa_undoable pa_isKept).1 (F_X4_forgetAll pa_undoable pa_isKept).2 → Q (F_X4_forgetAll pa_undoable pa_isKept).1 (F_X4_forgetAll pa_undoable pa_isKept).2) : wp_X4_forgetAll Q pa_undoable pa_isKept := dt_X4_forgetAll h (fun o eo => by rw [eo]; exact hq)
noncomputable def j_X9_orchard_94 {R : Type} (po : Int32 → Int32 → Int32 → Int32 → Int32 → Int32 → Int32 → Int32 → (Nat → Int32) → (Nat → Int32) → (Nat → Int32) → (Nat → Int32) → (Nat → Int32) → (Nat → Int32) → Int32 → (Nat → Int32) → R) (tx_signs : Nat → Int32) (x3 : Int32) (tx_length : Int32) (tx_place : Int32) (tx_stop : Int32) (tr_fruits : Int32) (tr_standings : Int32) (tr_comingFruits : Int32) (tr_comingStandings : Int32) (tr_x : Nat → Int32) (tr_height : Nat → Int32) (tr_worth : Nat → Int32) (tr_ripe : Nat → Int32) (tr_foot : Nat → Int32) (tr_fork : Nat → Int32) (pa_undoable : Int32) (pa_isKept : Nat → Int32) : R := po x3 (F_X8_clear tx_length) tx_place tx_stop tr_fruits tr_standings tr_comingFruits tr_comingStandings tr_x tr_height tr_worth tr_ripe tr_foot tr_fork pa_undoable pa_isKept
noncomputable def j_X9_orchard_71 {R : Type} (po : Int32 → Int32 → Int32 → Int32 → Int32 → Int32 → Int32 → Int32 → (Nat → Int32) → (Nat → Int32) → (Nat → Int32) → (Nat → Int32) → (Nat → Int32) → (Nat → Int32) → Int32 → (Nat → Int32) → R) (tx_signs : Nat → Int32) (x1 : Int32) (x2 : Int32) (k0 : Int32) (tx_length : Int32) (tx_place : Int32) (tx_stop : Int32) (tr_fruits : Int32) (tr_standings : Int32) (tr_comingFruits : Int32) (tr_comingStandings : Int32) (tr_x : Nat → Int32) (tr_height : Nat → Int32) (tr_worth : Nat → Int32) (tr_ripe : Nat → Int32) (tr_foot : Nat → Int32) (tr_fork : Nat → Int32) (pa_undoable : Int32) (pa_isKept : Nat → Int32) : R := if x2 = 0 then (j_X9_orchard_94 po tx_signs k0 tx_length tx_place tx_stop tr_fruits tr_standings tr_comingFruits tr_comingStandings tr_x tr_height tr_worth tr_ripe tr_foot tr_fork pa_undoable pa_isKept) else (if x1 ≤ 0 then (j_X9_orchard_94 po tx_signs k0 tx_length tx_place tx_stop tr_fruits tr_standings tr_comingFruits tr_comingStandings tr_x tr_height tr_worth tr_ripe tr_foot tr_fork pa_undoable pa_isKept) else (j_X9_orchard_94 po tx_signs k0 tx_length tx_place tx_stop ((F_X3_takeLines tr_fruits tr_standings tr_comingFruits tr_comingStandings).1) ((F_X3_takeLines tr_fruits tr_standings tr_comingFruits tr_comingStandings).2) tr_comingFruits tr_comingStandings tr_x tr_height tr_worth tr_ripe tr_foot tr_fork ((F_X4_forgetAll pa_undoable pa_isKept).1) ((F_X4_forgetAll pa_undoable pa_isKept).2)))
noncomputable def j_X9_orchard_55 {R : Type} (po : Int32 → Int32 → Int32 → Int32 → Int32 → Int32 → Int32 → Int32 → (Nat → Int32) → (Nat → Int32) → (Nat → Int32) → (Nat → Int32) → (Nat → Int32) → (Nat → Int32) → Int32 → (Nat → Int32) → R) (tx_signs : Nat → Int32) (x1 : Int32) (k0 : Int32) (tx_length : Int32) (tx_place : Int32) (tx_stop : Int32) (tr_fruits : Int32) (tr_standings : Int32) (tr_comingFruits : Int32) (tr_comingStandings : Int32) (tr_x : Nat → Int32) (tr_height : Nat → Int32) (tr_worth : Nat → Int32) (tr_ripe : Nat → Int32) (tr_foot : Nat → Int32) (tr_fork : Nat → Int32) (pa_undoable : Int32) (pa_isKept : Nat → Int32) : R := if k0 = 0 then (j_X9_orchard_71 po tx_signs x1 k0 (F_X8_wrong tx_place) tx_length tx_place tx_stop tr_fruits tr_standings tr_comingFruits tr_comingStandings tr_x tr_height tr_worth tr_ripe tr_foot tr_fork pa_undoable pa_isKept) else (j_X9_orchard_71 po tx_signs x1 k0 x1 tx_length tx_place tx_stop tr_fruits tr_standings tr_comingFruits tr_comingStandings tr_x tr_height tr_worth tr_ripe tr_foot tr_fork pa_undoable pa_isKept)
noncomputable def j_X9_orchard_54 {R : Type} (po : Int32 → Int32 → Int32 → Int32 → Int32 → Int32 → Int32 → Int32 → (Nat → Int32) → (Nat → Int32) → (Nat → Int32) → (Nat → Int32) → (Nat → Int32) → (Nat → Int32) → Int32 → (Nat → Int32) → R) (tx_signs : Nat → Int32) (x1 : Int32) (tx_length : Int32) (tx_place : Int32) (tx_stop : Int32) (tr_fruits : Int32) (tr_standings : Int32) (tr_comingFruits : Int32) (tr_comingStandings : Int32) (tr_x : Nat → Int32) (tr_height : Nat → Int32) (tr_worth : Nat → Int32) (tr_ripe : Nat → Int32) (tr_foot : Nat → Int32) (tr_fork : Nat → Int32) (pa_undoable : Int32) (pa_isKept : Nat → Int32) : R := j_X9_orchard_55 po tx_signs x1 0 tx_length tx_place tx_stop tr_fruits tr_standings tr_comingFruits tr_comingStandings tr_x tr_height tr_worth tr_ripe tr_foot tr_fork pa_undoable pa_isKept
noncomputable def j_X9_orchard_34 {R : Type} (po : Int32 → Int32 → Int32 → Int32 → Int32 → Int32 → Int32 → Int32 → (Nat → Int32) → (Nat → Int32) → (Nat → Int32) → (Nat → Int32) → (Nat → Int32) → (Nat → Int32) → Int32 → (Nat → Int32) → R) (tx_signs : Nat → Int32) (k0 : Int32) (tx_length : Int32) (tx_place : Int32) (tx_stop : Int32) (tr_fruits : Int32) (tr_standings : Int32) (tr_comingFruits : Int32) (tr_comingStandings : Int32) (tr_x : Nat → Int32) (tr_height : Nat → Int32) (tr_worth : Nat → Int32) (tr_ripe : Nat → Int32) (tr_foot : Nat → Int32) (tr_fork : Nat → Int32) (pa_undoable : Int32) (pa_isKept : Nat → Int32) : R := if k0 = (-1) then (j_X9_orchard_54 po tx_signs k0 tx_length tx_place tx_stop tr_fruits tr_standings tr_comingFruits tr_comingStandings tr_x tr_height tr_worth tr_ripe tr_foot tr_fork pa_undoable pa_isKept) else (if (F_X8_isThrough tx_length tx_place) = 0 then (j_X9_orchard_54 po tx_signs k0 tx_length tx_place tx_stop tr_fruits tr_standings tr_comingFruits tr_comingStandings tr_x tr_height tr_worth tr_ripe tr_foot tr_fork pa_undoable pa_isKept) else (j_X9_orchard_55 po tx_signs k0 1 tx_length tx_place tx_stop tr_fruits tr_standings tr_comingFruits tr_comingStandings tr_x tr_height tr_worth tr_ripe tr_foot tr_fork pa_undoable pa_isKept))
noncomputable def F_X9_orchard (tx_length : Int32) (tx_place : Int32) (tx_stop : Int32) (tx_signs : Nat → Int32) (tr_fruits : Int32) (tr_standings : Int32) (tr_comingFruits : Int32) (tr_comingStandings : Int32) (tr_x : Nat → Int32) (tr_height : Nat → Int32) (tr_worth : Nat → Int32) (tr_ripe : Nat → Int32) (tr_foot : Nat → Int32) (tr_fork : Nat → Int32) (pa_undoable : Int32) (pa_isKept : Nat → Int32) : Int32 × Int32 × Int32 × Int32 × Int32 × Int32 × Int32 × Int32 × (Nat → Int32) × (Nat → Int32) × (Nat → Int32) × (Nat → Int32) × (Nat → Int32) × (Nat → Int32) × Int32 × (Nat → Int32) := if tx_length = 0 then (j_X9_orchard_34 (fun o0 o1 o2 o3 o4 o5 o6 o7 o8 o9 o10 o11 o12 o13 o14 o15 => (o0, o1, o2, o3, o4, o5, o6, o7, o8, o9, o10, o11, o12, o13, o14, o15)) tx_signs 0 tx_length ((F_X8_open 76 tx_length tx_place tx_stop).1) ((F_X8_open 76 tx_length tx_place tx_stop).2) tr_fruits tr_standings tr_comingFruits tr_comingStandings tr_x tr_height tr_worth tr_ripe tr_foot tr_fork pa_undoable pa_isKept) else (j_X9_orchard_34 (fun o0 o1 o2 o3 o4 o5 o6 o7 o8 o9 o10 o11 o12 o13 o14 o15 => (o0, o1, o2, o3, o4, o5, o6, o7, o8, o9, o10, o11, o12, o13, o14, o15)) tx_signs ((F_X3_readLines (F_X8_open 76 tx_length tx_place tx_stop).1 (F_X8_open 76 tx_length tx_place tx_stop).2 tx_signs tr_fruits tr_standings tr_comingFruits tr_comingStandings tr_x tr_height tr_worth tr_ripe tr_foot tr_fork).1) tx_length ((F_X3_readLines (F_X8_open 76 tx_length tx_place tx_stop).1 (F_X8_open 76 tx_length tx_place tx_stop).2 tx_signs tr_fruits tr_standings tr_comingFruits tr_comingStandings tr_x tr_height tr_worth tr_ripe tr_foot tr_fork).2.1) ((F_X8_open 76 tx_length tx_place tx_stop).2) tr_fruits tr_standings ((F_X3_readLines (F_X8_open 76 tx_length tx_place tx_stop).1 (F_X8_open 76 tx_length tx_place tx_stop).2 tx_signs tr_fruits tr_standings tr_comingFruits tr_comingStandings tr_x tr_height tr_worth tr_ripe tr_foot tr_fork).2.2.1) ((F_X3_readLines (F_X8_open 76 tx_length tx_place tx_stop).1 (F_X8_open 76 tx_length tx_place tx_stop).2 tx_signs tr_fruits tr_standings tr_comingFruits tr_comingStandings tr_x tr_height tr_worth tr_ripe tr_foot tr_fork).2.2.2.1) ((F_X3_readLines (F_X8_open 76 tx_length tx_place tx_stop).1 (F_X8_open 76 tx_length tx_place tx_stop).2 tx_signs tr_fruits tr_standings tr_comingFruits tr_comingStandings tr_x tr_height tr_worth tr_ripe tr_foot tr_fork).2.2.2.2.1) ((F_X3_readLines (F_X8_open 76 tx_length tx_place tx_stop).1 (F_X8_open 76 tx_length tx_place tx_stop).2 tx_signs tr_fruits tr_standings tr_comingFruits tr_comingStandings tr_x tr_height tr_worth tr_ripe tr_foot tr_fork).2.2.2.2.2.1) ((F_X3_readLines (F_X8_open 76 tx_length tx_place tx_stop).1 (F_X8_open 76 tx_length tx_place tx_stop).2 tx_signs tr_fruits tr_standings tr_comingFruits tr_comingStandings tr_x tr_height tr_worth tr_ripe tr_foot tr_fork).2.2.2.2.2.2.1) ((F_X3_readLines (F_X8_open 76 tx_length tx_place tx_stop).1 (F_X8_open 76 tx_length tx_place tx_stop).2 tx_signs tr_fruits tr_standings tr_comingFruits tr_comingStandings tr_x tr_height tr_worth tr_ripe tr_foot tr_fork).2.2.2.2.2.2.2.1) ((F_X3_readLines (F_X8_open 76 tx_length tx_place tx_stop).1 (F_X8_open 76 tx_length tx_place tx_stop).2 tx_signs tr_fruits tr_standings tr_comingFruits tr_comingStandings tr_x tr_height tr_worth tr_ripe tr_foot tr_fork).2.2.2.2.2.2.2.2.1) ((F_X3_readLines (F_X8_open 76 tx_length tx_place tx_stop).1 (F_X8_open 76 tx_length tx_place tx_stop).2 tx_signs tr_fruits tr_standings tr_comingFruits tr_comingStandings tr_x tr_height tr_worth tr_ripe tr_foot tr_fork).2.2.2.2.2.2.2.2.2) pa_undoable pa_isKept)
set_option maxHeartbeats 200000 in
set_option maxRecDepth 10000 in
theorem dt_X9_orchard {P Q : Int32 → Int32 → Int32 → Int32 → Int32 → Int32 → Int32 → Int32 → (Nat → Int32) → (Nat → Int32) → (Nat → Int32) → (Nat → Int32) → (Nat → Int32) → (Nat → Int32) → Int32 → (Nat → Int32) → Prop} {tx_length : Int32} {tx_place : Int32} {tx_stop : Int32} {tx_signs : Nat → Int32} {tr_fruits : Int32} {tr_standings : Int32} {tr_comingFruits : Int32} {tr_comingStandings : Int32} {tr_x : Nat → Int32} {tr_height : Nat → Int32} {tr_worth : Nat → Int32} {tr_ripe : Nat → Int32} {tr_foot : Nat → Int32} {tr_fork : Nat → Int32} {pa_undoable : Int32} {pa_isKept : Nat → Int32} (h : wp_X9_orchard P tx_length tx_place tx_stop tx_signs tr_fruits tr_standings tr_comingFruits tr_comingStandings tr_x tr_height tr_worth tr_ripe tr_foot tr_fork pa_undoable pa_isKept) (hq : ∀ o : Int32 × Int32 × Int32 × Int32 × Int32 × Int32 × Int32 × Int32 × (Nat → Int32) × (Nat → Int32) × (Nat → Int32) × (Nat → Int32) × (Nat → Int32) × (Nat → Int32) × Int32 × (Nat → Int32), o = F_X9_orchard tx_length tx_place tx_stop tx_signs tr_fruits tr_standings tr_comingFruits tr_comingStandings tr_x tr_height tr_worth tr_ripe tr_foot tr_fork pa_undoable pa_isKept → P o.1 o.2.1 o.2.2.1 o.2.2.2.1 o.2.2.2.2.1 o.2.2.2.2.2.1 o.2.2.2.2.2.2.1 o.2.2.2.2.2.2.2.1 o.2.2.2.2.2.2.2.2.1 o.2.2.2.2.2.2.2.2.2.1 o.2.2.2.2.2.2.2.2.2.2.1 o.2.2.2.2.2.2.2.2.2.2.2.1 o.2.2.2.2.2.2.2.2.2.2.2.2.1 o.2.2.2.2.2.2.2.2.2.2.2.2.2.1 o.2.2.2.2.2.2.2.2.2.2.2.2.2.2.1 o.2.2.2.2.2.2.2.2.2.2.2.2.2.2.2 → Q o.1 o.2.1 o.2.2.1 o.2.2.2.1 o.2.2.2.2.1 o.2.2.2.2.2.1 o.2.2.2.2.2.2.1 o.2.2.2.2.2.2.2.1 o.2.2.2.2.2.2.2.2.1 o.2.2.2.2.2.2.2.2.2.1 o.2.2.2.2.2.2.2.2.2.2.1 o.2.2.2.2.2.2.2.2.2.2.2.1 o.2.2.2.2.2.2.2.2.2.2.2.2.1 o.2.2.2.2.2.2.2.2.2.2.2.2.2.1 o.2.2.2.2.2.2.2.2.2.2.2.2.2.2.1 o.2.2.2.2.2.2.2.2.2.2.2.2.2.2.2) : wp_X9_orchard Q tx_length tx_place tx_stop tx_signs tr_fruits tr_standings tr_comingFruits tr_comingStandings tr_x tr_height tr_worth tr_ripe tr_foot tr_fork pa_undoable pa_isKept := by
  rw [F_X9_orchard] at hq
  refine du_X8_open h ?_
  intro h
  refine And.intro (fun c1 => ?_) (fun c1 => ?_)
  · have h := And.left h c1
    rw [if_neg c1] at hq
    refine du_X3_readLines h ?_
    intro h
    rw [j_X9_orchard_34] at hq
    unfold ws_X9_orchard_34 at h ⊢
    refine And.intro (fun c2 => ?_) (fun c2 => ?_)
    · have h := And.left h c2
      rw [if_pos c2] at hq
      rw [j_X9_orchard_54] at hq
      unfold ws_X9_orchard_54 at h ⊢
      rw [j_X9_orchard_55] at hq
      unfold ws_X9_orchard_55 at h ⊢
      refine And.intro (fun c3 => ?_) (fun c3 => ?_)
      · have h := And.left h c3
        rw [if_pos c3] at hq
        refine du_X8_wrong h ?_
        intro h
        rw [j_X9_orchard_71] at hq
        unfold ws_X9_orchard_71 at h ⊢
        refine And.intro (fun c4 => ?_) (fun c4 => ?_)
        · have h := And.left h c4
          rw [if_pos c4] at hq
          rw [j_X9_orchard_94] at hq
          unfold ws_X9_orchard_94 at h ⊢
          refine du_X8_clear h ?_
          intro h
          have q9 := hq _ rfl
          dsimp only at q9
          exact q9 h
        · have h := And.right h c4
          rw [if_neg c4] at hq
          refine And.intro (fun c5 => ?_) (fun c5 => ?_)
          · have h := And.left h c5
            rw [if_pos c5] at hq
            rw [j_X9_orchard_94] at hq
            unfold ws_X9_orchard_94 at h ⊢
            refine du_X8_clear h ?_
            intro h
            have q9 := hq _ rfl
            dsimp only at q9
            exact q9 h
          · have h := And.right h c5
            rw [if_neg c5] at hq
            refine du_X3_takeLines h ?_
            intro h
            refine du_X4_forgetAll h ?_
            intro h
            rw [j_X9_orchard_94] at hq
            unfold ws_X9_orchard_94 at h ⊢
            refine du_X8_clear h ?_
            intro h
            have q9 := hq _ rfl
            dsimp only at q9
            exact q9 h
      · have h := And.right h c3
        rw [if_neg c3] at hq
        rw [j_X9_orchard_71] at hq
        unfold ws_X9_orchard_71 at h ⊢
        refine And.intro (fun c6 => ?_) (fun c6 => ?_)
        · have h := And.left h c6
          rw [if_pos c6] at hq
          rw [j_X9_orchard_94] at hq
          unfold ws_X9_orchard_94 at h ⊢
          refine du_X8_clear h ?_
          intro h
          have q9 := hq _ rfl
          dsimp only at q9
          exact q9 h
        · have h := And.right h c6
          rw [if_neg c6] at hq
          refine And.intro (fun c7 => ?_) (fun c7 => ?_)
          · have h := And.left h c7
            rw [if_pos c7] at hq
            rw [j_X9_orchard_94] at hq
            unfold ws_X9_orchard_94 at h ⊢
            refine du_X8_clear h ?_
            intro h
            have q9 := hq _ rfl
            dsimp only at q9
            exact q9 h
          · have h := And.right h c7
            rw [if_neg c7] at hq
            refine du_X3_takeLines h ?_
            intro h
            refine du_X4_forgetAll h ?_
            intro h
            rw [j_X9_orchard_94] at hq
            unfold ws_X9_orchard_94 at h ⊢
            refine du_X8_clear h ?_
            intro h
            have q9 := hq _ rfl
            dsimp only at q9
            exact q9 h
    · have h := And.right h c2
      rw [if_neg c2] at hq
      refine du_X8_isThrough h ?_
      intro h
      refine And.intro (fun c8 => ?_) (fun c8 => ?_)
      · have h := And.left h c8
        rw [if_pos c8] at hq
        rw [j_X9_orchard_54] at hq
        unfold ws_X9_orchard_54 at h ⊢
        rw [j_X9_orchard_55] at hq
        unfold ws_X9_orchard_55 at h ⊢
        refine And.intro (fun c9 => ?_) (fun c9 => ?_)
        · have h := And.left h c9
          rw [if_pos c9] at hq
          refine du_X8_wrong h ?_
          intro h
          rw [j_X9_orchard_71] at hq
          unfold ws_X9_orchard_71 at h ⊢
          refine And.intro (fun c10 => ?_) (fun c10 => ?_)
          · have h := And.left h c10
            rw [if_pos c10] at hq
            rw [j_X9_orchard_94] at hq
            unfold ws_X9_orchard_94 at h ⊢
            refine du_X8_clear h ?_
            intro h
            have q9 := hq _ rfl
            dsimp only at q9
            exact q9 h
          · have h := And.right h c10
            rw [if_neg c10] at hq
            refine And.intro (fun c11 => ?_) (fun c11 => ?_)
            · have h := And.left h c11
              rw [if_pos c11] at hq
              rw [j_X9_orchard_94] at hq
              unfold ws_X9_orchard_94 at h ⊢
              refine du_X8_clear h ?_
              intro h
              have q9 := hq _ rfl
              dsimp only at q9
              exact q9 h
            · have h := And.right h c11
              rw [if_neg c11] at hq
              refine du_X3_takeLines h ?_
              intro h
              refine du_X4_forgetAll h ?_
              intro h
              rw [j_X9_orchard_94] at hq
              unfold ws_X9_orchard_94 at h ⊢
              refine du_X8_clear h ?_
              intro h
              have q9 := hq _ rfl
              dsimp only at q9
              exact q9 h
        · have h := And.right h c9
          rw [if_neg c9] at hq
          rw [j_X9_orchard_71] at hq
          unfold ws_X9_orchard_71 at h ⊢
          refine And.intro (fun c12 => ?_) (fun c12 => ?_)
          · have h := And.left h c12
            rw [if_pos c12] at hq
            rw [j_X9_orchard_94] at hq
            unfold ws_X9_orchard_94 at h ⊢
            refine du_X8_clear h ?_
            intro h
            have q9 := hq _ rfl
            dsimp only at q9
            exact q9 h
          · have h := And.right h c12
            rw [if_neg c12] at hq
            refine And.intro (fun c13 => ?_) (fun c13 => ?_)
            · have h := And.left h c13
              rw [if_pos c13] at hq
              rw [j_X9_orchard_94] at hq
              unfold ws_X9_orchard_94 at h ⊢
              refine du_X8_clear h ?_
              intro h
              have q9 := hq _ rfl
              dsimp only at q9
              exact q9 h
            · have h := And.right h c13
              rw [if_neg c13] at hq
              refine du_X3_takeLines h ?_
              intro h
              refine du_X4_forgetAll h ?_
              intro h
              rw [j_X9_orchard_94] at hq
              unfold ws_X9_orchard_94 at h ⊢
              refine du_X8_clear h ?_
              intro h
              have q9 := hq _ rfl
              dsimp only at q9
              exact q9 h
      · have h := And.right h c8
        rw [if_neg c8] at hq
        rw [j_X9_orchard_55] at hq
        unfold ws_X9_orchard_55 at h ⊢
        refine And.intro (fun c14 => ?_) (fun c14 => ?_)
        · have h := And.left h c14
          rw [if_pos c14] at hq
          refine du_X8_wrong h ?_
          intro h
          rw [j_X9_orchard_71] at hq
          unfold ws_X9_orchard_71 at h ⊢
          refine And.intro (fun c15 => ?_) (fun c15 => ?_)
          · have h := And.left h c15
            rw [if_pos c15] at hq
            rw [j_X9_orchard_94] at hq
            unfold ws_X9_orchard_94 at h ⊢
            refine du_X8_clear h ?_
            intro h
            have q9 := hq _ rfl
            dsimp only at q9
            exact q9 h
          · have h := And.right h c15
            rw [if_neg c15] at hq
            refine And.intro (fun c16 => ?_) (fun c16 => ?_)
            · have h := And.left h c16
              rw [if_pos c16] at hq
              rw [j_X9_orchard_94] at hq
              unfold ws_X9_orchard_94 at h ⊢
              refine du_X8_clear h ?_
              intro h
              have q9 := hq _ rfl
              dsimp only at q9
              exact q9 h
            · have h := And.right h c16
              rw [if_neg c16] at hq
              refine du_X3_takeLines h ?_
              intro h
              refine du_X4_forgetAll h ?_
              intro h
              rw [j_X9_orchard_94] at hq
              unfold ws_X9_orchard_94 at h ⊢
              refine du_X8_clear h ?_
              intro h
              have q9 := hq _ rfl
              dsimp only at q9
              exact q9 h
        · have h := And.right h c14
          rw [if_neg c14] at hq
          rw [j_X9_orchard_71] at hq
          unfold ws_X9_orchard_71 at h ⊢
          refine And.intro (fun c17 => ?_) (fun c17 => ?_)
          · have h := And.left h c17
            rw [if_pos c17] at hq
            rw [j_X9_orchard_94] at hq
            unfold ws_X9_orchard_94 at h ⊢
            refine du_X8_clear h ?_
            intro h
            have q9 := hq _ rfl
            dsimp only at q9
            exact q9 h
          · have h := And.right h c17
            rw [if_neg c17] at hq
            refine And.intro (fun c18 => ?_) (fun c18 => ?_)
            · have h := And.left h c18
              rw [if_pos c18] at hq
              rw [j_X9_orchard_94] at hq
              unfold ws_X9_orchard_94 at h ⊢
              refine du_X8_clear h ?_
              intro h
              have q9 := hq _ rfl
              dsimp only at q9
              exact q9 h
            · have h := And.right h c18
              rw [if_neg c18] at hq
              refine du_X3_takeLines h ?_
              intro h
              refine du_X4_forgetAll h ?_
              intro h
              rw [j_X9_orchard_94] at hq
              unfold ws_X9_orchard_94 at h ⊢
              refine du_X8_clear h ?_
              intro h
              have q9 := hq _ rfl
              dsimp only at q9
              exact q9 h
  · have h := And.right h c1
    rw [if_pos c1] at hq
    rw [j_X9_orchard_34] at hq
    unfold ws_X9_orchard_34 at h ⊢
    refine And.intro (fun c19 => ?_) (fun c19 => ?_)
    · have h := And.left h c19
      rw [if_pos c19] at hq
      rw [j_X9_orchard_54] at hq
      unfold ws_X9_orchard_54 at h ⊢
      rw [j_X9_orchard_55] at hq
      unfold ws_X9_orchard_55 at h ⊢
      refine And.intro (fun c20 => ?_) (fun c20 => ?_)
      · have h := And.left h c20
        rw [if_pos c20] at hq
        refine du_X8_wrong h ?_
        intro h
        rw [j_X9_orchard_71] at hq
        unfold ws_X9_orchard_71 at h ⊢
        refine And.intro (fun c21 => ?_) (fun c21 => ?_)
        · have h := And.left h c21
          rw [if_pos c21] at hq
          rw [j_X9_orchard_94] at hq
          unfold ws_X9_orchard_94 at h ⊢
          refine du_X8_clear h ?_
          intro h
          have q9 := hq _ rfl
          dsimp only at q9
          exact q9 h
        · have h := And.right h c21
          rw [if_neg c21] at hq
          refine And.intro (fun c22 => ?_) (fun c22 => ?_)
          · have h := And.left h c22
            rw [if_pos c22] at hq
            rw [j_X9_orchard_94] at hq
            unfold ws_X9_orchard_94 at h ⊢
            refine du_X8_clear h ?_
            intro h
            have q9 := hq _ rfl
            dsimp only at q9
            exact q9 h
          · have h := And.right h c22
            rw [if_neg c22] at hq
            refine du_X3_takeLines h ?_
            intro h
            refine du_X4_forgetAll h ?_
            intro h
            rw [j_X9_orchard_94] at hq
            unfold ws_X9_orchard_94 at h ⊢
            refine du_X8_clear h ?_
            intro h
            have q9 := hq _ rfl
            dsimp only at q9
            exact q9 h
      · have h := And.right h c20
        rw [if_neg c20] at hq
        rw [j_X9_orchard_71] at hq
        unfold ws_X9_orchard_71 at h ⊢
        refine And.intro (fun c23 => ?_) (fun c23 => ?_)
        · have h := And.left h c23
          rw [if_pos c23] at hq
          rw [j_X9_orchard_94] at hq
          unfold ws_X9_orchard_94 at h ⊢
          refine du_X8_clear h ?_
          intro h
          have q9 := hq _ rfl
          dsimp only at q9
          exact q9 h
        · have h := And.right h c23
          rw [if_neg c23] at hq
          refine And.intro (fun c24 => ?_) (fun c24 => ?_)
          · have h := And.left h c24
            rw [if_pos c24] at hq
            rw [j_X9_orchard_94] at hq
            unfold ws_X9_orchard_94 at h ⊢
            refine du_X8_clear h ?_
            intro h
            have q9 := hq _ rfl
            dsimp only at q9
            exact q9 h
          · have h := And.right h c24
            rw [if_neg c24] at hq
            refine du_X3_takeLines h ?_
            intro h
            refine du_X4_forgetAll h ?_
            intro h
            rw [j_X9_orchard_94] at hq
            unfold ws_X9_orchard_94 at h ⊢
            refine du_X8_clear h ?_
            intro h
            have q9 := hq _ rfl
            dsimp only at q9
            exact q9 h
    · have h := And.right h c19
      rw [if_neg c19] at hq
      refine du_X8_isThrough h ?_
      intro h
      refine And.intro (fun c25 => ?_) (fun c25 => ?_)
      · have h := And.left h c25
        rw [if_pos c25] at hq
        rw [j_X9_orchard_54] at hq
        unfold ws_X9_orchard_54 at h ⊢
        rw [j_X9_orchard_55] at hq
        unfold ws_X9_orchard_55 at h ⊢
        refine And.intro (fun c26 => ?_) (fun c26 => ?_)
        · have h := And.left h c26
          rw [if_pos c26] at hq
          refine du_X8_wrong h ?_
          intro h
          rw [j_X9_orchard_71] at hq
          unfold ws_X9_orchard_71 at h ⊢
          refine And.intro (fun c27 => ?_) (fun c27 => ?_)
          · have h := And.left h c27
            rw [if_pos c27] at hq
            rw [j_X9_orchard_94] at hq
            unfold ws_X9_orchard_94 at h ⊢
            refine du_X8_clear h ?_
            intro h
            have q9 := hq _ rfl
            dsimp only at q9
            exact q9 h
          · have h := And.right h c27
            rw [if_neg c27] at hq
            refine And.intro (fun c28 => ?_) (fun c28 => ?_)
            · have h := And.left h c28
              rw [if_pos c28] at hq
              rw [j_X9_orchard_94] at hq
              unfold ws_X9_orchard_94 at h ⊢
              refine du_X8_clear h ?_
              intro h
              have q9 := hq _ rfl
              dsimp only at q9
              exact q9 h
            · have h := And.right h c28
              rw [if_neg c28] at hq
              refine du_X3_takeLines h ?_
              intro h
              refine du_X4_forgetAll h ?_
              intro h
              rw [j_X9_orchard_94] at hq
              unfold ws_X9_orchard_94 at h ⊢
              refine du_X8_clear h ?_
              intro h
              have q9 := hq _ rfl
              dsimp only at q9
              exact q9 h
        · have h := And.right h c26
          rw [if_neg c26] at hq
          rw [j_X9_orchard_71] at hq
          unfold ws_X9_orchard_71 at h ⊢
          refine And.intro (fun c29 => ?_) (fun c29 => ?_)
          · have h := And.left h c29
            rw [if_pos c29] at hq
            rw [j_X9_orchard_94] at hq
            unfold ws_X9_orchard_94 at h ⊢
            refine du_X8_clear h ?_
            intro h
            have q9 := hq _ rfl
            dsimp only at q9
            exact q9 h
          · have h := And.right h c29
            rw [if_neg c29] at hq
            refine And.intro (fun c30 => ?_) (fun c30 => ?_)
            · have h := And.left h c30
              rw [if_pos c30] at hq
              rw [j_X9_orchard_94] at hq
              unfold ws_X9_orchard_94 at h ⊢
              refine du_X8_clear h ?_
              intro h
              have q9 := hq _ rfl
              dsimp only at q9
              exact q9 h
            · have h := And.right h c30
              rw [if_neg c30] at hq
              refine du_X3_takeLines h ?_
              intro h
              refine du_X4_forgetAll h ?_
              intro h
              rw [j_X9_orchard_94] at hq
              unfold ws_X9_orchard_94 at h ⊢
              refine du_X8_clear h ?_
              intro h
              have q9 := hq _ rfl
              dsimp only at q9
              exact q9 h
      · have h := And.right h c25
        rw [if_neg c25] at hq
        rw [j_X9_orchard_55] at hq
        unfold ws_X9_orchard_55 at h ⊢
        refine And.intro (fun c31 => ?_) (fun c31 => ?_)
        · have h := And.left h c31
          rw [if_pos c31] at hq
          refine du_X8_wrong h ?_
          intro h
          rw [j_X9_orchard_71] at hq
          unfold ws_X9_orchard_71 at h ⊢
          refine And.intro (fun c32 => ?_) (fun c32 => ?_)
          · have h := And.left h c32
            rw [if_pos c32] at hq
            rw [j_X9_orchard_94] at hq
            unfold ws_X9_orchard_94 at h ⊢
            refine du_X8_clear h ?_
            intro h
            have q9 := hq _ rfl
            dsimp only at q9
            exact q9 h
          · have h := And.right h c32
            rw [if_neg c32] at hq
            refine And.intro (fun c33 => ?_) (fun c33 => ?_)
            · have h := And.left h c33
              rw [if_pos c33] at hq
              rw [j_X9_orchard_94] at hq
              unfold ws_X9_orchard_94 at h ⊢
              refine du_X8_clear h ?_
              intro h
              have q9 := hq _ rfl
              dsimp only at q9
              exact q9 h
            · have h := And.right h c33
              rw [if_neg c33] at hq
              refine du_X3_takeLines h ?_
              intro h
              refine du_X4_forgetAll h ?_
              intro h
              rw [j_X9_orchard_94] at hq
              unfold ws_X9_orchard_94 at h ⊢
              refine du_X8_clear h ?_
              intro h
              have q9 := hq _ rfl
              dsimp only at q9
              exact q9 h
        · have h := And.right h c31
          rw [if_neg c31] at hq
          rw [j_X9_orchard_71] at hq
          unfold ws_X9_orchard_71 at h ⊢
          refine And.intro (fun c34 => ?_) (fun c34 => ?_)
          · have h := And.left h c34
            rw [if_pos c34] at hq
            rw [j_X9_orchard_94] at hq
            unfold ws_X9_orchard_94 at h ⊢
            refine du_X8_clear h ?_
            intro h
            have q9 := hq _ rfl
            dsimp only at q9
            exact q9 h
          · have h := And.right h c34
            rw [if_neg c34] at hq
            refine And.intro (fun c35 => ?_) (fun c35 => ?_)
            · have h := And.left h c35
              rw [if_pos c35] at hq
              rw [j_X9_orchard_94] at hq
              unfold ws_X9_orchard_94 at h ⊢
              refine du_X8_clear h ?_
              intro h
              have q9 := hq _ rfl
              dsimp only at q9
              exact q9 h
            · have h := And.right h c35
              rw [if_neg c35] at hq
              refine du_X3_takeLines h ?_
              intro h
              refine du_X4_forgetAll h ?_
              intro h
              rw [j_X9_orchard_94] at hq
              unfold ws_X9_orchard_94 at h ⊢
              refine du_X8_clear h ?_
              intro h
              have q9 := hq _ rfl
              dsimp only at q9
              exact q9 h
theorem du_X9_orchard {P Q : Int32 → Int32 → Int32 → Int32 → Int32 → Int32 → Int32 → Int32 → (Nat → Int32) → (Nat → Int32) → (Nat → Int32) → (Nat → Int32) → (Nat → Int32) → (Nat → Int32) → Int32 → (Nat → Int32) → Prop} {tx_length : Int32} {tx_place : Int32} {tx_stop : Int32} {tx_signs : Nat → Int32} {tr_fruits : Int32} {tr_standings : Int32} {tr_comingFruits : Int32} {tr_comingStandings : Int32} {tr_x : Nat → Int32} {tr_height : Nat → Int32} {tr_worth : Nat → Int32} {tr_ripe : Nat → Int32} {tr_foot : Nat → Int32} {tr_fork : Nat → Int32} {pa_undoable : Int32} {pa_isKept : Nat → Int32} (h : wp_X9_orchard P tx_length tx_place tx_stop tx_signs tr_fruits tr_standings tr_comingFruits tr_comingStandings tr_x tr_height tr_worth tr_ripe tr_foot tr_fork pa_undoable pa_isKept) (hq : P (F_X9_orchard tx_length tx_place tx_stop tx_signs tr_fruits tr_standings tr_comingFruits tr_comingStandings tr_x tr_height tr_worth tr_ripe tr_foot tr_fork pa_undoable pa_isKept).1 (F_X9_orchard tx_length tx_place tx_stop tx_signs tr_fruits tr_standings tr_comingFruits tr_comingStandings tr_x tr_height tr_worth tr_ripe tr_foot tr_fork pa_undoable pa_isKept).2.1 (F_X9_orchard tx_length tx_place tx_stop tx_signs tr_fruits tr_standings tr_comingFruits tr_comingStandings tr_x tr_height tr_worth tr_ripe tr_foot tr_fork pa_undoable pa_isKept).2.2.1 (F_X9_orchard tx_length tx_place tx_stop tx_signs tr_fruits tr_standings tr_comingFruits tr_comingStandings tr_x tr_height tr_worth tr_ripe tr_foot tr_fork pa_undoable pa_isKept).2.2.2.1 (F_X9_orchard tx_length tx_place tx_stop tx_signs tr_fruits tr_standings tr_comingFruits tr_comingStandings tr_x tr_height tr_worth tr_ripe tr_foot tr_fork pa_undoable pa_isKept).2.2.2.2.1 (F_X9_orchard tx_length tx_place tx_stop tx_signs tr_fruits tr_standings tr_comingFruits tr_comingStandings tr_x tr_height tr_worth tr_ripe tr_foot tr_fork pa_undoable pa_isKept).2.2.2.2.2.1 (F_X9_orchard tx_length tx_place tx_stop tx_signs tr_fruits tr_standings tr_comingFruits tr_comingStandings tr_x tr_height tr_worth tr_ripe tr_foot tr_fork pa_undoable pa_isKept).2.2.2.2.2.2.1 (F_X9_orchard tx_length tx_place tx_stop tx_signs tr_fruits tr_standings tr_comingFruits tr_comingStandings tr_x tr_height tr_worth tr_ripe tr_foot tr_fork pa_undoable pa_isKept).2.2.2.2.2.2.2.1 (F_X9_orchard tx_length tx_place tx_stop tx_signs tr_fruits tr_standings tr_comingFruits tr_comingStandings tr_x tr_height tr_worth tr_ripe tr_foot tr_fork pa_undoable pa_isKept).2.2.2.2.2.2.2.2.1 (F_X9_orchard tx_length tx_place tx_stop tx_signs tr_fruits tr_standings tr_comingFruits tr_comingStandings tr_x tr_height tr_worth tr_ripe tr_foot tr_fork pa_undoable pa_isKept).2.2.2.2.2.2.2.2.2.1 (F_X9_orchard tx_length tx_place tx_stop tx_signs tr_fruits tr_standings tr_comingFruits tr_comingStandings tr_x tr_height tr_worth tr_ripe tr_foot tr_fork pa_undoable pa_isKept).2.2.2.2.2.2.2.2.2.2.1 (F_X9_orchard tx_length tx_place tx_stop tx_signs tr_fruits tr_standings tr_comingFruits tr_comingStandings tr_x tr_height tr_worth tr_ripe tr_foot tr_fork pa_undoable pa_isKept).2.2.2.2.2.2.2.2.2.2.2.1 (F_X9_orchard tx_length tx_place tx_stop tx_signs tr_fruits tr_standings tr_comingFruits tr_comingStandings tr_x tr_height tr_worth tr_ripe tr_foot tr_fork pa_undoable pa_isKept).2.2.2.2.2.2.2.2.2.2.2.2.1 (F_X9_orchard tx_length tx_place tx_stop tx_signs tr_fruits tr_standings tr_comingFruits tr_comingStandings tr_x tr_height tr_worth tr_ripe tr_foot tr_fork pa_undoable pa_isKept).2.2.2.2.2.2.2.2.2.2.2.2.2.1 (F_X9_orchard tx_length tx_place tx_stop tx_signs tr_fruits tr_standings tr_comingFruits tr_comingStandings tr_x tr_height tr_worth tr_ripe tr_foot tr_fork pa_undoable pa_isKept).2.2.2.2.2.2.2.2.2.2.2.2.2.2.1 (F_X9_orchard tx_length tx_place tx_stop tx_signs tr_fruits tr_standings tr_comingFruits tr_comingStandings tr_x tr_height tr_worth tr_ripe tr_foot tr_fork pa_undoable pa_isKept).2.2.2.2.2.2.2.2.2.2.2.2.2.2.2 → Q (F_X9_orchard tx_length tx_place tx_stop tx_signs tr_fruits tr_standings tr_comingFruits tr_comingStandings tr_x tr_height tr_worth tr_ripe tr_foot tr_fork pa_undoable pa_isKept).1 (F_X9_orchard tx_length tx_place tx_stop tx_signs tr_fruits tr_standings tr_comingFruits tr_comingStandings tr_x tr_height tr_worth tr_ripe tr_foot tr_fork pa_undoable pa_isKept).2.1 (F_X9_orchard tx_length tx_place tx_stop tx_signs tr_fruits tr_standings tr_comingFruits tr_comingStandings tr_x tr_height tr_worth tr_ripe tr_foot tr_fork pa_undoable pa_isKept).2.2.1 (F_X9_orchard tx_length tx_place tx_stop tx_signs tr_fruits tr_standings tr_comingFruits tr_comingStandings tr_x tr_height tr_worth tr_ripe tr_foot tr_fork pa_undoable pa_isKept).2.2.2.1 (F_X9_orchard tx_length tx_place tx_stop tx_signs tr_fruits tr_standings tr_comingFruits tr_comingStandings tr_x tr_height tr_worth tr_ripe tr_foot tr_fork pa_undoable pa_isKept).2.2.2.2.1 (F_X9_orchard tx_length tx_place tx_stop tx_signs tr_fruits tr_standings tr_comingFruits tr_comingStandings tr_x tr_height tr_worth tr_ripe tr_foot tr_fork pa_undoable pa_isKept).2.2.2.2.2.1 (F_X9_orchard tx_length tx_place tx_stop tx_signs tr_fruits tr_standings tr_comingFruits tr_comingStandings tr_x tr_height tr_worth tr_ripe tr_foot tr_fork pa_undoable pa_isKept).2.2.2.2.2.2.1 (F_X9_orchard tx_length tx_place tx_stop tx_signs tr_fruits tr_standings tr_comingFruits tr_comingStandings tr_x tr_height tr_worth tr_ripe tr_foot tr_fork pa_undoable pa_isKept).2.2.2.2.2.2.2.1 (F_X9_orchard tx_length tx_place tx_stop tx_signs tr_fruits tr_standings tr_comingFruits tr_comingStandings tr_x tr_height tr_worth tr_ripe tr_foot tr_fork pa_undoable pa_isKept).2.2.2.2.2.2.2.2.1 (F_X9_orchard tx_length tx_place tx_stop tx_signs tr_fruits tr_standings tr_comingFruits tr_comingStandings tr_x tr_height tr_worth tr_ripe tr_foot tr_fork pa_undoable pa_isKept).2.2.2.2.2.2.2.2.2.1 (F_X9_orchard tx_length tx_place tx_stop tx_signs tr_fruits tr_standings tr_comingFruits tr_comingStandings tr_x tr_height tr_worth tr_ripe tr_foot tr_fork pa_undoable pa_isKept).2.2.2.2.2.2.2.2.2.2.1 (F_X9_orchard tx_length tx_place tx_stop tx_signs tr_fruits tr_standings tr_comingFruits tr_comingStandings tr_x tr_height tr_worth tr_ripe tr_foot tr_fork pa_undoable pa_isKept).2.2.2.2.2.2.2.2.2.2.2.1 (F_X9_orchard tx_length tx_place tx_stop tx_signs tr_fruits tr_standings tr_comingFruits tr_comingStandings tr_x tr_height tr_worth tr_ripe tr_foot tr_fork pa_undoable pa_isKept).2.2.2.2.2.2.2.2.2.2.2.2.1 (F_X9_orchard tx_length tx_place tx_stop tx_signs tr_fruits tr_standings tr_comingFruits tr_comingStandings tr_x tr_height tr_worth tr_ripe tr_foot tr_fork pa_undoable pa_isKept).2.2.2.2.2.2.2.2.2.2.2.2.2.1 (F_X9_orchard tx_length tx_place tx_stop tx_signs tr_fruits tr_standings tr_comingFruits tr_comingStandings tr_x tr_height tr_worth tr_ripe tr_foot tr_fork pa_undoable pa_isKept).2.2.2.2.2.2.2.2.2.2.2.2.2.2.1 (F_X9_orchard tx_length tx_place tx_stop tx_signs tr_fruits tr_standings tr_comingFruits tr_comingStandings tr_x tr_height tr_worth tr_ripe tr_foot tr_fork pa_undoable pa_isKept).2.2.2.2.2.2.2.2.2.2.2.2.2.2.2) : wp_X9_orchard Q tx_length tx_place tx_stop tx_signs tr_fruits tr_standings tr_comingFruits tr_comingStandings tr_x tr_height tr_worth tr_ripe tr_foot tr_fork pa_undoable pa_isKept := dt_X9_orchard h (fun o eo => by rw [eo]; exact hq)
theorem dw_X9_orchard {Q : Int32 → Int32 → Int32 → Int32 → Int32 → Int32 → Int32 → Int32 → (Nat → Int32) → (Nat → Int32) → (Nat → Int32) → (Nat → Int32) → (Nat → Int32) → (Nat → Int32) → Int32 → (Nat → Int32) → Prop} {tx_length : Int32} {tx_place : Int32} {tx_stop : Int32} {tx_signs : Nat → Int32} {tr_fruits : Int32} {tr_standings : Int32} {tr_comingFruits : Int32} {tr_comingStandings : Int32} {tr_x : Nat → Int32} {tr_height : Nat → Int32} {tr_worth : Nat → Int32} {tr_ripe : Nat → Int32} {tr_foot : Nat → Int32} {tr_fork : Nat → Int32} {pa_undoable : Int32} {pa_isKept : Nat → Int32} (h : wp_X9_orchard (fun o0 o1 o2 o3 o4 o5 o6 o7 o8 o9 o10 o11 o12 o13 o14 o15 => (o0, o1, o2, o3, o4, o5, o6, o7, o8, o9, o10, o11, o12, o13, o14, o15) = F_X9_orchard tx_length tx_place tx_stop tx_signs tr_fruits tr_standings tr_comingFruits tr_comingStandings tr_x tr_height tr_worth tr_ripe tr_foot tr_fork pa_undoable pa_isKept → Q o0 o1 o2 o3 o4 o5 o6 o7 o8 o9 o10 o11 o12 o13 o14 o15) tx_length tx_place tx_stop tx_signs tr_fruits tr_standings tr_comingFruits tr_comingStandings tr_x tr_height tr_worth tr_ripe tr_foot tr_fork pa_undoable pa_isKept) : wp_X9_orchard Q tx_length tx_place tx_stop tx_signs tr_fruits tr_standings tr_comingFruits tr_comingStandings tr_x tr_height tr_worth tr_ripe tr_foot tr_fork pa_undoable pa_isKept := dt_X9_orchard h (fun o eo hp => hp eo)
noncomputable def F_X10_here (m_read : Nat) (m_length : Int32) (m_top : Int32) (m_at : Int32) (m_text : Nat → Int32) (m_rule : Nat → Int32) : Int32 := if m_length ≤ m_at then (-1) else (if m_top ≤ m_at then (-1) else (if m_read = 1 then ((m_text m_at.toNatClampNeg) &&& 255) else ((m_rule m_at.toNatClampNeg) &&& 255)))
set_option maxHeartbeats 200000 in
set_option maxRecDepth 10000 in
theorem dt_X10_here {P Q : Int32 → Prop} {m_read : Nat} {m_length : Int32} {m_top : Int32} {m_at : Int32} {m_text : Nat → Int32} {m_rule : Nat → Int32} (h : wp_X10_here P m_read m_length m_top m_at m_text m_rule) (hq : ∀ o : Int32, o = F_X10_here m_read m_length m_top m_at m_text m_rule → P o → Q o) : wp_X10_here Q m_read m_length m_top m_at m_text m_rule := by
  rw [F_X10_here] at hq
  refine And.intro (fun c1 => ?_) (fun c1 => ?_)
  · have h := And.left h c1
    rw [if_pos c1] at hq
    have q9 := hq _ rfl
    exact q9 h
  · have h := And.right h c1
    rw [if_neg c1] at hq
    refine And.intro (fun c2 => ?_) (fun c2 => ?_)
    · have h := And.left h c2
      rw [if_pos c2] at hq
      have q9 := hq _ rfl
      exact q9 h
    · have h := And.right h c2
      rw [if_neg c2] at hq
      rcases h with ⟨hr9, hv9, h⟩ | ⟨hr9, hv9, h⟩
      · refine Or.inl ⟨hr9, hv9, ?_⟩
        rw [if_pos hr9] at hq
        refine ae ?_
        have h := h _ rfl
        refine ae ?_
        have h := h _ rfl
        have q9 := hq _ rfl
        exact q9 h
      · refine Or.inr ⟨hr9, hv9, ?_⟩
        rw [if_neg (by rw [hr9]; decide)] at hq
        refine ae ?_
        have h := h _ rfl
        refine ae ?_
        have h := h _ rfl
        have q9 := hq _ rfl
        exact q9 h
theorem du_X10_here {P Q : Int32 → Prop} {m_read : Nat} {m_length : Int32} {m_top : Int32} {m_at : Int32} {m_text : Nat → Int32} {m_rule : Nat → Int32} (h : wp_X10_here P m_read m_length m_top m_at m_text m_rule) (hq : P (F_X10_here m_read m_length m_top m_at m_text m_rule) → Q (F_X10_here m_read m_length m_top m_at m_text m_rule)) : wp_X10_here Q m_read m_length m_top m_at m_text m_rule := dt_X10_here h (fun o eo => by rw [eo]; exact hq)
theorem dw_X10_here {Q : Int32 → Prop} {m_read : Nat} {m_length : Int32} {m_top : Int32} {m_at : Int32} {m_text : Nat → Int32} {m_rule : Nat → Int32} (h : wp_X10_here (fun o0 => o0 = F_X10_here m_read m_length m_top m_at m_text m_rule → Q o0) m_read m_length m_top m_at m_text m_rule) : wp_X10_here Q m_read m_length m_top m_at m_text m_rule := dt_X10_here h (fun o eo hp => hp eo)
noncomputable def F_X10_fine (m_wrong : Int32) : Int32 := if m_wrong = (-1) then 1 else 0
set_option maxHeartbeats 200000 in
set_option maxRecDepth 10000 in
theorem dt_X10_fine {P Q : Int32 → Prop} {m_wrong : Int32} (h : wp_X10_fine P m_wrong) (hq : ∀ o : Int32, o = F_X10_fine m_wrong → P o → Q o) : wp_X10_fine Q m_wrong := by
  rw [F_X10_fine] at hq
  refine And.intro (fun c1 => ?_) (fun c1 => ?_)
  · have h := And.left h c1
    rw [if_neg c1] at hq
    have q9 := hq _ rfl
    exact q9 h
  · have h := And.right h c1
    rw [if_pos c1] at hq
    have q9 := hq _ rfl
    exact q9 h
theorem du_X10_fine {P Q : Int32 → Prop} {m_wrong : Int32} (h : wp_X10_fine P m_wrong) (hq : P (F_X10_fine m_wrong) → Q (F_X10_fine m_wrong)) : wp_X10_fine Q m_wrong := dt_X10_fine h (fun o eo => by rw [eo]; exact hq)
theorem dw_X10_fine {Q : Int32 → Prop} {m_wrong : Int32} (h : wp_X10_fine (fun o0 => o0 = F_X10_fine m_wrong → Q o0) m_wrong) : wp_X10_fine Q m_wrong := dt_X10_fine h (fun o eo hp => hp eo)
noncomputable def F_X10_fault (p0 : Int32) (m_wrong : Int32) : Int32 := if (F_X10_fine m_wrong) = 0 then m_wrong else p0
set_option maxHeartbeats 200000 in
set_option maxRecDepth 10000 in
theorem dt_X10_fault {P Q : Int32 → Prop} {p0 : Int32} {m_wrong : Int32} (h : wp_X10_fault P p0 m_wrong) (hq : ∀ o : Int32, o = F_X10_fault p0 m_wrong → P o → Q o) : wp_X10_fault Q p0 m_wrong := by
  rw [F_X10_fault] at hq
  refine du_X10_fine h ?_
  intro h
  refine And.intro (fun c1 => ?_) (fun c1 => ?_)
  · have h := And.left h c1
    rw [if_pos c1] at hq
    have q9 := hq _ rfl
    exact q9 h
  · have h := And.right h c1
    rw [if_neg c1] at hq
    have q9 := hq _ rfl
    exact q9 h
theorem du_X10_fault {P Q : Int32 → Prop} {p0 : Int32} {m_wrong : Int32} (h : wp_X10_fault P p0 m_wrong) (hq : P (F_X10_fault p0 m_wrong) → Q (F_X10_fault p0 m_wrong)) : wp_X10_fault Q p0 m_wrong := dt_X10_fault h (fun o eo => by rw [eo]; exact hq)
theorem dw_X10_fault {Q : Int32 → Prop} {p0 : Int32} {m_wrong : Int32} (h : wp_X10_fault (fun o0 => o0 = F_X10_fault p0 m_wrong → Q o0) p0 m_wrong) : wp_X10_fault Q p0 m_wrong := dt_X10_fault h (fun o eo hp => hp eo)
noncomputable def F_X10_in (p0 : Int32) (p1 : Int32) (p2 : Int32) : Int32 := if p0 < p1 then 0 else (if p2 < p0 then 0 else 1)
set_option maxHeartbeats 200000 in
set_option maxRecDepth 10000 in
theorem dt_X10_in {P Q : Int32 → Prop} {p0 : Int32} {p1 : Int32} {p2 : Int32} (h : wp_X10_in P p0 p1 p2) (hq : ∀ o : Int32, o = F_X10_in p0 p1 p2 → P o → Q o) : wp_X10_in Q p0 p1 p2 := by
  rw [F_X10_in] at hq
  refine And.intro (fun c1 => ?_) (fun c1 => ?_)
  · have h := And.left h c1
    rw [if_pos c1] at hq
    have q9 := hq _ rfl
    exact q9 h
  · have h := And.right h c1
    rw [if_neg c1] at hq
    refine And.intro (fun c2 => ?_) (fun c2 => ?_)
    · have h := And.left h c2
      rw [if_pos c2] at hq
      have q9 := hq _ rfl
      exact q9 h
    · have h := And.right h c2
      rw [if_neg c2] at hq
      have q9 := hq _ rfl
      exact q9 h
theorem du_X10_in {P Q : Int32 → Prop} {p0 : Int32} {p1 : Int32} {p2 : Int32} (h : wp_X10_in P p0 p1 p2) (hq : P (F_X10_in p0 p1 p2) → Q (F_X10_in p0 p1 p2)) : wp_X10_in Q p0 p1 p2 := dt_X10_in h (fun o eo => by rw [eo]; exact hq)
theorem dw_X10_in {Q : Int32 → Prop} {p0 : Int32} {p1 : Int32} {p2 : Int32} (h : wp_X10_in (fun o0 => o0 = F_X10_in p0 p1 p2 → Q o0) p0 p1 p2) : wp_X10_in Q p0 p1 p2 := dt_X10_in h (fun o eo hp => hp eo)
theorem in_hi {v a b : Int32} (h : ¬ F_X10_in v a b = 0) : Int32.toInt v ≤ Int32.toInt b := by
  rw [F_X10_in] at h
  by_cases h1 : v < a
  · rw [if_pos h1] at h
    exact absurd rfl h
  · rw [if_neg h1] at h
    by_cases h2 : b < v
    · rw [if_pos h2] at h
      exact absurd rfl h
    · have q := mt (fa_lt b v).mpr h2
      omega
theorem in30 {v a : Int32} (h : ¬ F_X10_in v a 30 = 0) : Int32.toInt v < 2147483647 := by
  have l : Int32.toInt (30 : Int32) = 30 := by decide
  have q := in_hi h
  omega
noncomputable def j_X10_number_66 {R : Type} (po : Int32 → Int32 → Int32 → R) (m_read : Nat) (m_length : Int32) (m_top : Int32) (m_text : Nat → Int32) (m_rule : Nat → Int32) (x2 : Int32) (x3 : Int32) (m_at : Int32) (m_wrong : Int32) : R := if m_at = x2 then (po x3 m_at (F_X10_fault m_at m_wrong)) else (po x3 m_at m_wrong)
noncomputable def fs_X10_number_16 {R : Type} (po : Int32 → Int32 → Int32 → R) (m_read : Nat) (m_length : Int32) (m_top : Int32) (m_text : Nat → Int32) (m_rule : Nat → Int32) (nx : Int32 → Int32 → Int32 → Int32 → Int32 → R) (x1 : Int32) (x2 : Int32) (x3 : Int32) (m_at : Int32) (m_wrong : Int32) : R := if (x2 + x1) ≤ m_at then (j_X10_number_66 po m_read m_length m_top m_text m_rule x2 x3 m_at m_wrong) else (if (F_X10_in (F_X10_here m_read m_length m_top m_at m_text m_rule) 48 57) = 0 then (j_X10_number_66 po m_read m_length m_top m_text m_rule x2 x3 m_at m_wrong) else (nx x1 x2 (((10 * x3) + (F_X10_here m_read m_length m_top m_at m_text m_rule)) - 48) (m_at + 1) m_wrong))
set_option maxHeartbeats 200000 in
set_option maxRecDepth 10000 in
theorem dl_X10_number_16 {P Q : Int32 → Int32 → Int32 → Prop} {m_read : Nat} {m_length : Int32} {m_top : Int32} {m_text : Nat → Int32} {m_rule : Nat → Int32} {R : Type} {po : Int32 → Int32 → Int32 → R} {d : Int32 → Int32 → Int32 → Int32 → Int32 → R} : ∀ (n m : Nat) (x1 : Int32) (x2 : Int32) (x3 : Int32) (m_at : Int32) (m_wrong : Int32), True → (((Int32.toInt (x2 + x1) - Int32.toInt m_at).toNat : Nat) : Int) < (m : Int) → wb_X10_number_16 P m_read m_length m_top m_text m_rule n x1 x2 x3 m_at m_wrong → (∀ (b0 : Int32) (b1 : Int32) (b2 : Int32), po b0 b1 b2 = flp (fs_X10_number_16 po m_read m_length m_top m_text m_rule) d m x1 x2 x3 m_at m_wrong → P b0 b1 b2 → Q b0 b1 b2) → wb_X10_number_16 Q m_read m_length m_top m_text m_rule n x1 x2 x3 m_at m_wrong := by
  have l1 : Int32.toInt (1 : Int32) = 1 := by decide
  intro n
  induction n with
  | zero => intro m x1 x2 x3 m_at m_wrong hv hm h hq; exact False.elim h
  | succ n ih =>
    intro m x1 x2 x3 m_at m_wrong hv hm h hq
    cases m with
    | zero => exfalso; omega
    | succ m =>
      rw [flp_s, fs_X10_number_16] at hq
      have h : ws_X10_number_16 P (wb_X10_number_16 P m_read m_length m_top m_text m_rule n) m_read m_length m_top m_text m_rule x1 x2 x3 m_at m_wrong := h
      show ws_X10_number_16 Q (wb_X10_number_16 Q m_read m_length m_top m_text m_rule n) m_read m_length m_top m_text m_rule x1 x2 x3 m_at m_wrong
      unfold ws_X10_number_16 at h ⊢
      refine And.intro (fun c1 => ?_) (fun c1 => ?_)
      · have h := And.left h c1
        rw [if_pos c1] at hq
        have dc1 := (fa_le _ _).mp c1
        rw [j_X10_number_66] at hq
        unfold ws_X10_number_66 at h ⊢
        refine And.intro (fun c2 => ?_) (fun c2 => ?_)
        · have h := And.left h c2
          rw [if_neg c2] at hq
          have dc2 := mt (fa_eq _ _).mpr c2
          exact hq _ _ _ rfl h
        · have h := And.right h c2
          rw [if_pos c2] at hq
          have dc2 := (fa_eq _ _).mp c2
          refine du_X10_fault h ?_
          intro h
          exact hq _ _ _ rfl h
      · have h := And.right h c1
        rw [if_neg c1] at hq
        have dc1 := mt (fa_le _ _).mpr c1
        refine du_X10_here h ?_
        intro h
        refine du_X10_in h ?_
        intro h
        refine And.intro (fun c3 => ?_) (fun c3 => ?_)
        · have h := And.left h c3
          rw [if_pos c3] at hq
          have dc3 := (fa_eq _ _).mp c3
          rw [j_X10_number_66] at hq
          unfold ws_X10_number_66 at h ⊢
          refine And.intro (fun c4 => ?_) (fun c4 => ?_)
          · have h := And.left h c4
            rw [if_neg c4] at hq
            have dc4 := mt (fa_eq _ _).mpr c4
            exact hq _ _ _ rfl h
          · have h := And.right h c4
            rw [if_pos c4] at hq
            have dc4 := (fa_eq _ _).mp c4
            refine du_X10_fault h ?_
            intro h
            exact hq _ _ _ rfl h
        · have h := And.right h c3
          rw [if_neg c3] at hq
          have dc3 := mt (fa_eq _ _).mpr c3
          refine ae ?_
          have h := h _ rfl
          refine du_X10_here h ?_
          intro h
          refine ae ?_
          have h := h _ rfl
          refine ae ?_
          have h := h _ rfl
          refine ae ?_
          have h := h _ rfl
          have r9 := tp_r (x2 + x1)
          have r8 := tp_r m_at
          have f9 := ta_add m_at 1 (by omega)
          exact ih m _ _ _ _ _ trivial (by omega) h hq
noncomputable def F_X10_number (p0 : Int32) (m_read : Nat) (m_length : Int32) (m_top : Int32) (m_at : Int32) (m_wrong : Int32) (m_text : Nat → Int32) (m_rule : Nat → Int32) : Int32 × Int32 × Int32 := if (F_X10_fine m_wrong) = 0 then (0, m_at, m_wrong) else (flp (fs_X10_number_16 (fun o0 o1 o2 => (o0, o1, o2)) m_read m_length m_top m_text m_rule) (fun _ _ _ _ _ => (0, 0, 0)) 4 p0 m_at 0 m_at m_wrong)
set_option maxHeartbeats 200000 in
set_option maxRecDepth 10000 in
theorem dt_X10_number {P Q : Int32 → Int32 → Int32 → Prop} {p0 : Int32} {m_read : Nat} {m_length : Int32} {m_top : Int32} {m_at : Int32} {m_wrong : Int32} {m_text : Nat → Int32} {m_rule : Nat → Int32} (hy0 : 0 ≤ Int32.toInt p0 ∧ Int32.toInt p0 ≤ 3) (h : wp_X10_number P p0 m_read m_length m_top m_at m_wrong m_text m_rule) (hq : ∀ o : Int32 × Int32 × Int32, o = F_X10_number p0 m_read m_length m_top m_at m_wrong m_text m_rule → P o.1 o.2.1 o.2.2 → Q o.1 o.2.1 o.2.2) : wp_X10_number Q p0 m_read m_length m_top m_at m_wrong m_text m_rule := by
  rw [F_X10_number] at hq
  refine du_X10_fine h ?_
  intro h
  refine And.intro (fun c1 => ?_) (fun c1 => ?_)
  · have h := And.left h c1
    rw [if_neg c1] at hq
    obtain ⟨n2, h⟩ := h
    exact ⟨n2, dl_X10_number_16 n2 4 _ _ _ _ _ trivial (ad_lt hy0) h (fun b0 b1 b2 e9 h9 => hq (b0, b1, b2) e9 h9)⟩
  · have h := And.right h c1
    rw [if_pos c1] at hq
    have q9 := hq _ rfl
    dsimp only at q9
    exact q9 h
theorem du_X10_number {P Q : Int32 → Int32 → Int32 → Prop} {p0 : Int32} {m_read : Nat} {m_length : Int32} {m_top : Int32} {m_at : Int32} {m_wrong : Int32} {m_text : Nat → Int32} {m_rule : Nat → Int32} (hy0 : 0 ≤ Int32.toInt p0 ∧ Int32.toInt p0 ≤ 3) (h : wp_X10_number P p0 m_read m_length m_top m_at m_wrong m_text m_rule) (hq : P (F_X10_number p0 m_read m_length m_top m_at m_wrong m_text m_rule).1 (F_X10_number p0 m_read m_length m_top m_at m_wrong m_text m_rule).2.1 (F_X10_number p0 m_read m_length m_top m_at m_wrong m_text m_rule).2.2 → Q (F_X10_number p0 m_read m_length m_top m_at m_wrong m_text m_rule).1 (F_X10_number p0 m_read m_length m_top m_at m_wrong m_text m_rule).2.1 (F_X10_number p0 m_read m_length m_top m_at m_wrong m_text m_rule).2.2) : wp_X10_number Q p0 m_read m_length m_top m_at m_wrong m_text m_rule := dt_X10_number hy0 h (fun o eo => by rw [eo]; exact hq)
theorem dw_X10_number {Q : Int32 → Int32 → Int32 → Prop} {p0 : Int32} {m_read : Nat} {m_length : Int32} {m_top : Int32} {m_at : Int32} {m_wrong : Int32} {m_text : Nat → Int32} {m_rule : Nat → Int32} (hy0 : 0 ≤ Int32.toInt p0 ∧ Int32.toInt p0 ≤ 3) (h : wp_X10_number (fun o0 o1 o2 => (o0, o1, o2) = F_X10_number p0 m_read m_length m_top m_at m_wrong m_text m_rule → Q o0 o1 o2) p0 m_read m_length m_top m_at m_wrong m_text m_rule) : wp_X10_number Q p0 m_read m_length m_top m_at m_wrong m_text m_rule := dt_X10_number hy0 h (fun o eo hp => hp eo)
noncomputable def F_X10_passes (p0 : Int32) (m_read : Nat) (m_length : Int32) (m_top : Int32) (m_at : Int32) (m_wrong : Int32) (m_text : Nat → Int32) (m_rule : Nat → Int32) : Int32 × Int32 := if (F_X10_fine m_wrong) = 0 then (0, m_at) else (if (F_X10_here m_read m_length m_top m_at m_text m_rule) = p0 then (1, (m_at + 1)) else (0, m_at))
set_option maxHeartbeats 200000 in
set_option maxRecDepth 10000 in
theorem dt_X10_passes {P Q : Int32 → Int32 → Prop} {p0 : Int32} {m_read : Nat} {m_length : Int32} {m_top : Int32} {m_at : Int32} {m_wrong : Int32} {m_text : Nat → Int32} {m_rule : Nat → Int32} (h : wp_X10_passes P p0 m_read m_length m_top m_at m_wrong m_text m_rule) (hq : ∀ o : Int32 × Int32, o = F_X10_passes p0 m_read m_length m_top m_at m_wrong m_text m_rule → P o.1 o.2 → Q o.1 o.2) : wp_X10_passes Q p0 m_read m_length m_top m_at m_wrong m_text m_rule := by
  rw [F_X10_passes] at hq
  refine du_X10_fine h ?_
  intro h
  refine And.intro (fun c1 => ?_) (fun c1 => ?_)
  · have h := And.left h c1
    rw [if_pos c1] at hq
    have q9 := hq _ rfl
    dsimp only at q9
    exact q9 h
  · have h := And.right h c1
    rw [if_neg c1] at hq
    refine du_X10_here h ?_
    intro h
    refine And.intro (fun c2 => ?_) (fun c2 => ?_)
    · have h := And.left h c2
      rw [if_pos c2] at hq
      refine ae ?_
      have h := h _ rfl
      have q9 := hq _ rfl
      dsimp only at q9
      exact q9 h
    · have h := And.right h c2
      rw [if_neg c2] at hq
      have q9 := hq _ rfl
      dsimp only at q9
      exact q9 h
theorem du_X10_passes {P Q : Int32 → Int32 → Prop} {p0 : Int32} {m_read : Nat} {m_length : Int32} {m_top : Int32} {m_at : Int32} {m_wrong : Int32} {m_text : Nat → Int32} {m_rule : Nat → Int32} (h : wp_X10_passes P p0 m_read m_length m_top m_at m_wrong m_text m_rule) (hq : P (F_X10_passes p0 m_read m_length m_top m_at m_wrong m_text m_rule).1 (F_X10_passes p0 m_read m_length m_top m_at m_wrong m_text m_rule).2 → Q (F_X10_passes p0 m_read m_length m_top m_at m_wrong m_text m_rule).1 (F_X10_passes p0 m_read m_length m_top m_at m_wrong m_text m_rule).2) : wp_X10_passes Q p0 m_read m_length m_top m_at m_wrong m_text m_rule := dt_X10_passes h (fun o eo => by rw [eo]; exact hq)
theorem dw_X10_passes {Q : Int32 → Int32 → Prop} {p0 : Int32} {m_read : Nat} {m_length : Int32} {m_top : Int32} {m_at : Int32} {m_wrong : Int32} {m_text : Nat → Int32} {m_rule : Nat → Int32} (h : wp_X10_passes (fun o0 o1 => (o0, o1) = F_X10_passes p0 m_read m_length m_top m_at m_wrong m_text m_rule → Q o0 o1) p0 m_read m_length m_top m_at m_wrong m_text m_rule) : wp_X10_passes Q p0 m_read m_length m_top m_at m_wrong m_text m_rule := dt_X10_passes h (fun o eo hp => hp eo)
noncomputable def F_X10_need (p0 : Int32) (m_read : Nat) (m_length : Int32) (m_top : Int32) (m_at : Int32) (m_wrong : Int32) (m_text : Nat → Int32) (m_rule : Nat → Int32) : Int32 × Int32 := if (F_X10_passes p0 m_read m_length m_top m_at m_wrong m_text m_rule).1 = 0 then ((F_X10_passes p0 m_read m_length m_top m_at m_wrong m_text m_rule).2, (F_X10_fault (F_X10_passes p0 m_read m_length m_top m_at m_wrong m_text m_rule).2 m_wrong)) else ((F_X10_passes p0 m_read m_length m_top m_at m_wrong m_text m_rule).2, m_wrong)
set_option maxHeartbeats 200000 in
set_option maxRecDepth 10000 in
theorem dt_X10_need {P Q : Int32 → Int32 → Prop} {p0 : Int32} {m_read : Nat} {m_length : Int32} {m_top : Int32} {m_at : Int32} {m_wrong : Int32} {m_text : Nat → Int32} {m_rule : Nat → Int32} (h : wp_X10_need P p0 m_read m_length m_top m_at m_wrong m_text m_rule) (hq : ∀ o : Int32 × Int32, o = F_X10_need p0 m_read m_length m_top m_at m_wrong m_text m_rule → P o.1 o.2 → Q o.1 o.2) : wp_X10_need Q p0 m_read m_length m_top m_at m_wrong m_text m_rule := by
  rw [F_X10_need] at hq
  refine du_X10_passes h ?_
  intro h
  refine And.intro (fun c1 => ?_) (fun c1 => ?_)
  · have h := And.left h c1
    rw [if_neg c1] at hq
    have q9 := hq _ rfl
    dsimp only at q9
    exact q9 h
  · have h := And.right h c1
    rw [if_pos c1] at hq
    refine du_X10_fault h ?_
    intro h
    have q9 := hq _ rfl
    dsimp only at q9
    exact q9 h
theorem du_X10_need {P Q : Int32 → Int32 → Prop} {p0 : Int32} {m_read : Nat} {m_length : Int32} {m_top : Int32} {m_at : Int32} {m_wrong : Int32} {m_text : Nat → Int32} {m_rule : Nat → Int32} (h : wp_X10_need P p0 m_read m_length m_top m_at m_wrong m_text m_rule) (hq : P (F_X10_need p0 m_read m_length m_top m_at m_wrong m_text m_rule).1 (F_X10_need p0 m_read m_length m_top m_at m_wrong m_text m_rule).2 → Q (F_X10_need p0 m_read m_length m_top m_at m_wrong m_text m_rule).1 (F_X10_need p0 m_read m_length m_top m_at m_wrong m_text m_rule).2) : wp_X10_need Q p0 m_read m_length m_top m_at m_wrong m_text m_rule := dt_X10_need h (fun o eo => by rw [eo]; exact hq)
theorem dw_X10_need {Q : Int32 → Int32 → Prop} {p0 : Int32} {m_read : Nat} {m_length : Int32} {m_top : Int32} {m_at : Int32} {m_wrong : Int32} {m_text : Nat → Int32} {m_rule : Nat → Int32} (h : wp_X10_need (fun o0 o1 => (o0, o1) = F_X10_need p0 m_read m_length m_top m_at m_wrong m_text m_rule → Q o0 o1) p0 m_read m_length m_top m_at m_wrong m_text m_rule) : wp_X10_need Q p0 m_read m_length m_top m_at m_wrong m_text m_rule := dt_X10_need h (fun o eo hp => hp eo)
noncomputable def j_X10_readLine_218 {R : Type} (po : Int32 → Int32 → Int32 → Int32 → (Nat → Int32) → (Nat → Int32) → R) (m_fruits : Int32) (m_standings : Int32) (m_read : Nat) (m_length : Int32) (m_top : Int32) (m_text : Nat → Int32) (m_rule : Nat → Int32) (m_at : Int32) (m_wrong : Int32) (m_newFruitMany : Int32) (m_newStandingMany : Int32) (m_newFruits : Nat → Int32) (m_newStandings : Nat → Int32) : R := po m_at (F_X10_fault m_at m_wrong) m_newFruitMany m_newStandingMany m_newFruits m_newStandings
noncomputable def j_X10_readLine_135 {R : Type} (po : Int32 → Int32 → Int32 → Int32 → (Nat → Int32) → (Nat → Int32) → R) (m_fruits : Int32) (m_standings : Int32) (m_read : Nat) (m_length : Int32) (m_top : Int32) (m_text : Nat → Int32) (m_rule : Nat → Int32) (m_at : Int32) (m_wrong : Int32) (m_newFruitMany : Int32) (m_newStandingMany : Int32) (m_newFruits : Nat → Int32) (m_newStandings : Nat → Int32) : R := if (F_X10_here m_read m_length m_top m_at m_text m_rule) = 115 then (if 8 ≤ (m_standings + m_newStandingMany) then (j_X10_readLine_218 po m_fruits m_standings m_read m_length m_top m_text m_rule m_at m_wrong m_newFruitMany m_newStandingMany m_newFruits m_newStandings) else (po ((F_X10_number 2 m_read m_length m_top (F_X10_need 44 m_read m_length m_top (F_X10_number 2 m_read m_length m_top (m_at + 1) m_wrong m_text m_rule).2.1 (F_X10_number 2 m_read m_length m_top (m_at + 1) m_wrong m_text m_rule).2.2 m_text m_rule).1 (F_X10_need 44 m_read m_length m_top (F_X10_number 2 m_read m_length m_top (m_at + 1) m_wrong m_text m_rule).2.1 (F_X10_number 2 m_read m_length m_top (m_at + 1) m_wrong m_text m_rule).2.2 m_text m_rule).2 m_text m_rule).2.1) ((F_X10_number 2 m_read m_length m_top (F_X10_need 44 m_read m_length m_top (F_X10_number 2 m_read m_length m_top (m_at + 1) m_wrong m_text m_rule).2.1 (F_X10_number 2 m_read m_length m_top (m_at + 1) m_wrong m_text m_rule).2.2 m_text m_rule).1 (F_X10_need 44 m_read m_length m_top (F_X10_number 2 m_read m_length m_top (m_at + 1) m_wrong m_text m_rule).2.1 (F_X10_number 2 m_read m_length m_top (m_at + 1) m_wrong m_text m_rule).2.2 m_text m_rule).2 m_text m_rule).2.2) m_newFruitMany (m_newStandingMany + 1) m_newFruits (upd (upd m_newStandings (2 * m_newStandingMany).toNatClampNeg (F_X10_number 2 m_read m_length m_top (m_at + 1) m_wrong m_text m_rule).1) ((2 * m_newStandingMany) + 1).toNatClampNeg (F_X10_number 2 m_read m_length m_top (F_X10_need 44 m_read m_length m_top (F_X10_number 2 m_read m_length m_top (m_at + 1) m_wrong m_text m_rule).2.1 (F_X10_number 2 m_read m_length m_top (m_at + 1) m_wrong m_text m_rule).2.2 m_text m_rule).1 (F_X10_need 44 m_read m_length m_top (F_X10_number 2 m_read m_length m_top (m_at + 1) m_wrong m_text m_rule).2.1 (F_X10_number 2 m_read m_length m_top (m_at + 1) m_wrong m_text m_rule).2.2 m_text m_rule).2 m_text m_rule).1))) else (j_X10_readLine_218 po m_fruits m_standings m_read m_length m_top m_text m_rule m_at m_wrong m_newFruitMany m_newStandingMany m_newFruits m_newStandings)
noncomputable def j_X10_readLine_121 {R : Type} (po : Int32 → Int32 → Int32 → Int32 → (Nat → Int32) → (Nat → Int32) → R) (m_fruits : Int32) (m_standings : Int32) (m_read : Nat) (m_length : Int32) (m_top : Int32) (m_text : Nat → Int32) (m_rule : Nat → Int32) (k1 : Int32) (k2 : Int32) (m_at : Int32) (m_wrong : Int32) (m_newFruitMany : Int32) (m_newStandingMany : Int32) (m_newFruits : Nat → Int32) (m_newStandings : Nat → Int32) : R := po m_at m_wrong (m_newFruitMany + 1) m_newStandingMany (upd m_newFruits k1.toNatClampNeg k2) m_newStandings
noncomputable def j_X10_readLine_95 {R : Type} (po : Int32 → Int32 → Int32 → Int32 → (Nat → Int32) → (Nat → Int32) → R) (m_fruits : Int32) (m_standings : Int32) (m_read : Nat) (m_length : Int32) (m_top : Int32) (m_text : Nat → Int32) (m_rule : Nat → Int32) (x1 : Int32) (k1 : Int32) (k2 : Int32) (m_at : Int32) (m_wrong : Int32) (m_newFruitMany : Int32) (m_newStandingMany : Int32) (m_newFruits : Nat → Int32) (m_newStandings : Nat → Int32) : R := if (F_X10_passes 64 m_read m_length m_top m_at m_wrong m_text m_rule).1 = 0 then (j_X10_readLine_121 po m_fruits m_standings m_read m_length m_top m_text m_rule (x1 + 3) 0 ((F_X10_passes 64 m_read m_length m_top m_at m_wrong m_text m_rule).2) m_wrong m_newFruitMany m_newStandingMany (upd m_newFruits k1.toNatClampNeg k2) m_newStandings) else (j_X10_readLine_121 po m_fruits m_standings m_read m_length m_top m_text m_rule (x1 + 3) ((F_X10_number 1 m_read m_length m_top (F_X10_passes 64 m_read m_length m_top m_at m_wrong m_text m_rule).2 m_wrong m_text m_rule).1) ((F_X10_number 1 m_read m_length m_top (F_X10_passes 64 m_read m_length m_top m_at m_wrong m_text m_rule).2 m_wrong m_text m_rule).2.1) ((F_X10_number 1 m_read m_length m_top (F_X10_passes 64 m_read m_length m_top m_at m_wrong m_text m_rule).2 m_wrong m_text m_rule).2.2) m_newFruitMany m_newStandingMany (upd m_newFruits k1.toNatClampNeg k2) m_newStandings)
noncomputable def F_X10_readLine (m_fruits : Int32) (m_standings : Int32) (m_read : Nat) (m_length : Int32) (m_top : Int32) (m_at : Int32) (m_wrong : Int32) (m_newFruitMany : Int32) (m_newStandingMany : Int32) (m_text : Nat → Int32) (m_newFruits : Nat → Int32) (m_newStandings : Nat → Int32) (m_rule : Nat → Int32) : Int32 × Int32 × Int32 × Int32 × (Nat → Int32) × (Nat → Int32) := if (F_X10_here m_read m_length m_top m_at m_text m_rule) = 102 then (if 16 ≤ (m_fruits + m_newFruitMany) then (j_X10_readLine_135 (fun o0 o1 o2 o3 o4 o5 => (o0, o1, o2, o3, o4, o5)) m_fruits m_standings m_read m_length m_top m_text m_rule m_at m_wrong m_newFruitMany m_newStandingMany m_newFruits m_newStandings) else (if (F_X10_passes 42 m_read m_length m_top (F_X10_number 2 m_read m_length m_top (F_X10_need 44 m_read m_length m_top (F_X10_number 2 m_read m_length m_top (m_at + 1) m_wrong m_text m_rule).2.1 (F_X10_number 2 m_read m_length m_top (m_at + 1) m_wrong m_text m_rule).2.2 m_text m_rule).1 (F_X10_need 44 m_read m_length m_top (F_X10_number 2 m_read m_length m_top (m_at + 1) m_wrong m_text m_rule).2.1 (F_X10_number 2 m_read m_length m_top (m_at + 1) m_wrong m_text m_rule).2.2 m_text m_rule).2 m_text m_rule).2.1 (F_X10_number 2 m_read m_length m_top (F_X10_need 44 m_read m_length m_top (F_X10_number 2 m_read m_length m_top (m_at + 1) m_wrong m_text m_rule).2.1 (F_X10_number 2 m_read m_length m_top (m_at + 1) m_wrong m_text m_rule).2.2 m_text m_rule).1 (F_X10_need 44 m_read m_length m_top (F_X10_number 2 m_read m_length m_top (m_at + 1) m_wrong m_text m_rule).2.1 (F_X10_number 2 m_read m_length m_top (m_at + 1) m_wrong m_text m_rule).2.2 m_text m_rule).2 m_text m_rule).2.2 m_text m_rule).1 = 0 then (j_X10_readLine_95 (fun o0 o1 o2 o3 o4 o5 => (o0, o1, o2, o3, o4, o5)) m_fruits m_standings m_read m_length m_top m_text m_rule (4 * m_newFruitMany) ((4 * m_newFruitMany) + 2) 1 ((F_X10_passes 42 m_read m_length m_top (F_X10_number 2 m_read m_length m_top (F_X10_need 44 m_read m_length m_top (F_X10_number 2 m_read m_length m_top (m_at + 1) m_wrong m_text m_rule).2.1 (F_X10_number 2 m_read m_length m_top (m_at + 1) m_wrong m_text m_rule).2.2 m_text m_rule).1 (F_X10_need 44 m_read m_length m_top (F_X10_number 2 m_read m_length m_top (m_at + 1) m_wrong m_text m_rule).2.1 (F_X10_number 2 m_read m_length m_top (m_at + 1) m_wrong m_text m_rule).2.2 m_text m_rule).2 m_text m_rule).2.1 (F_X10_number 2 m_read m_length m_top (F_X10_need 44 m_read m_length m_top (F_X10_number 2 m_read m_length m_top (m_at + 1) m_wrong m_text m_rule).2.1 (F_X10_number 2 m_read m_length m_top (m_at + 1) m_wrong m_text m_rule).2.2 m_text m_rule).1 (F_X10_need 44 m_read m_length m_top (F_X10_number 2 m_read m_length m_top (m_at + 1) m_wrong m_text m_rule).2.1 (F_X10_number 2 m_read m_length m_top (m_at + 1) m_wrong m_text m_rule).2.2 m_text m_rule).2 m_text m_rule).2.2 m_text m_rule).2) ((F_X10_number 2 m_read m_length m_top (F_X10_need 44 m_read m_length m_top (F_X10_number 2 m_read m_length m_top (m_at + 1) m_wrong m_text m_rule).2.1 (F_X10_number 2 m_read m_length m_top (m_at + 1) m_wrong m_text m_rule).2.2 m_text m_rule).1 (F_X10_need 44 m_read m_length m_top (F_X10_number 2 m_read m_length m_top (m_at + 1) m_wrong m_text m_rule).2.1 (F_X10_number 2 m_read m_length m_top (m_at + 1) m_wrong m_text m_rule).2.2 m_text m_rule).2 m_text m_rule).2.2) m_newFruitMany m_newStandingMany (upd (upd m_newFruits (4 * m_newFruitMany).toNatClampNeg (F_X10_number 2 m_read m_length m_top (m_at + 1) m_wrong m_text m_rule).1) ((4 * m_newFruitMany) + 1).toNatClampNeg (F_X10_number 2 m_read m_length m_top (F_X10_need 44 m_read m_length m_top (F_X10_number 2 m_read m_length m_top (m_at + 1) m_wrong m_text m_rule).2.1 (F_X10_number 2 m_read m_length m_top (m_at + 1) m_wrong m_text m_rule).2.2 m_text m_rule).1 (F_X10_need 44 m_read m_length m_top (F_X10_number 2 m_read m_length m_top (m_at + 1) m_wrong m_text m_rule).2.1 (F_X10_number 2 m_read m_length m_top (m_at + 1) m_wrong m_text m_rule).2.2 m_text m_rule).2 m_text m_rule).1) m_newStandings) else (j_X10_readLine_95 (fun o0 o1 o2 o3 o4 o5 => (o0, o1, o2, o3, o4, o5)) m_fruits m_standings m_read m_length m_top m_text m_rule (4 * m_newFruitMany) ((4 * m_newFruitMany) + 2) ((F_X10_number 1 m_read m_length m_top (F_X10_passes 42 m_read m_length m_top (F_X10_number 2 m_read m_length m_top (F_X10_need 44 m_read m_length m_top (F_X10_number 2 m_read m_length m_top (m_at + 1) m_wrong m_text m_rule).2.1 (F_X10_number 2 m_read m_length m_top (m_at + 1) m_wrong m_text m_rule).2.2 m_text m_rule).1 (F_X10_need 44 m_read m_length m_top (F_X10_number 2 m_read m_length m_top (m_at + 1) m_wrong m_text m_rule).2.1 (F_X10_number 2 m_read m_length m_top (m_at + 1) m_wrong m_text m_rule).2.2 m_text m_rule).2 m_text m_rule).2.1 (F_X10_number 2 m_read m_length m_top (F_X10_need 44 m_read m_length m_top (F_X10_number 2 m_read m_length m_top (m_at + 1) m_wrong m_text m_rule).2.1 (F_X10_number 2 m_read m_length m_top (m_at + 1) m_wrong m_text m_rule).2.2 m_text m_rule).1 (F_X10_need 44 m_read m_length m_top (F_X10_number 2 m_read m_length m_top (m_at + 1) m_wrong m_text m_rule).2.1 (F_X10_number 2 m_read m_length m_top (m_at + 1) m_wrong m_text m_rule).2.2 m_text m_rule).2 m_text m_rule).2.2 m_text m_rule).2 (F_X10_number 2 m_read m_length m_top (F_X10_need 44 m_read m_length m_top (F_X10_number 2 m_read m_length m_top (m_at + 1) m_wrong m_text m_rule).2.1 (F_X10_number 2 m_read m_length m_top (m_at + 1) m_wrong m_text m_rule).2.2 m_text m_rule).1 (F_X10_need 44 m_read m_length m_top (F_X10_number 2 m_read m_length m_top (m_at + 1) m_wrong m_text m_rule).2.1 (F_X10_number 2 m_read m_length m_top (m_at + 1) m_wrong m_text m_rule).2.2 m_text m_rule).2 m_text m_rule).2.2 m_text m_rule).1) ((F_X10_number 1 m_read m_length m_top (F_X10_passes 42 m_read m_length m_top (F_X10_number 2 m_read m_length m_top (F_X10_need 44 m_read m_length m_top (F_X10_number 2 m_read m_length m_top (m_at + 1) m_wrong m_text m_rule).2.1 (F_X10_number 2 m_read m_length m_top (m_at + 1) m_wrong m_text m_rule).2.2 m_text m_rule).1 (F_X10_need 44 m_read m_length m_top (F_X10_number 2 m_read m_length m_top (m_at + 1) m_wrong m_text m_rule).2.1 (F_X10_number 2 m_read m_length m_top (m_at + 1) m_wrong m_text m_rule).2.2 m_text m_rule).2 m_text m_rule).2.1 (F_X10_number 2 m_read m_length m_top (F_X10_need 44 m_read m_length m_top (F_X10_number 2 m_read m_length m_top (m_at + 1) m_wrong m_text m_rule).2.1 (F_X10_number 2 m_read m_length m_top (m_at + 1) m_wrong m_text m_rule).2.2 m_text m_rule).1 (F_X10_need 44 m_read m_length m_top (F_X10_number 2 m_read m_length m_top (m_at + 1) m_wrong m_text m_rule).2.1 (F_X10_number 2 m_read m_length m_top (m_at + 1) m_wrong m_text m_rule).2.2 m_text m_rule).2 m_text m_rule).2.2 m_text m_rule).2 (F_X10_number 2 m_read m_length m_top (F_X10_need 44 m_read m_length m_top (F_X10_number 2 m_read m_length m_top (m_at + 1) m_wrong m_text m_rule).2.1 (F_X10_number 2 m_read m_length m_top (m_at + 1) m_wrong m_text m_rule).2.2 m_text m_rule).1 (F_X10_need 44 m_read m_length m_top (F_X10_number 2 m_read m_length m_top (m_at + 1) m_wrong m_text m_rule).2.1 (F_X10_number 2 m_read m_length m_top (m_at + 1) m_wrong m_text m_rule).2.2 m_text m_rule).2 m_text m_rule).2.2 m_text m_rule).2.1) ((F_X10_number 1 m_read m_length m_top (F_X10_passes 42 m_read m_length m_top (F_X10_number 2 m_read m_length m_top (F_X10_need 44 m_read m_length m_top (F_X10_number 2 m_read m_length m_top (m_at + 1) m_wrong m_text m_rule).2.1 (F_X10_number 2 m_read m_length m_top (m_at + 1) m_wrong m_text m_rule).2.2 m_text m_rule).1 (F_X10_need 44 m_read m_length m_top (F_X10_number 2 m_read m_length m_top (m_at + 1) m_wrong m_text m_rule).2.1 (F_X10_number 2 m_read m_length m_top (m_at + 1) m_wrong m_text m_rule).2.2 m_text m_rule).2 m_text m_rule).2.1 (F_X10_number 2 m_read m_length m_top (F_X10_need 44 m_read m_length m_top (F_X10_number 2 m_read m_length m_top (m_at + 1) m_wrong m_text m_rule).2.1 (F_X10_number 2 m_read m_length m_top (m_at + 1) m_wrong m_text m_rule).2.2 m_text m_rule).1 (F_X10_need 44 m_read m_length m_top (F_X10_number 2 m_read m_length m_top (m_at + 1) m_wrong m_text m_rule).2.1 (F_X10_number 2 m_read m_length m_top (m_at + 1) m_wrong m_text m_rule).2.2 m_text m_rule).2 m_text m_rule).2.2 m_text m_rule).2 (F_X10_number 2 m_read m_length m_top (F_X10_need 44 m_read m_length m_top (F_X10_number 2 m_read m_length m_top (m_at + 1) m_wrong m_text m_rule).2.1 (F_X10_number 2 m_read m_length m_top (m_at + 1) m_wrong m_text m_rule).2.2 m_text m_rule).1 (F_X10_need 44 m_read m_length m_top (F_X10_number 2 m_read m_length m_top (m_at + 1) m_wrong m_text m_rule).2.1 (F_X10_number 2 m_read m_length m_top (m_at + 1) m_wrong m_text m_rule).2.2 m_text m_rule).2 m_text m_rule).2.2 m_text m_rule).2.2) m_newFruitMany m_newStandingMany (upd (upd m_newFruits (4 * m_newFruitMany).toNatClampNeg (F_X10_number 2 m_read m_length m_top (m_at + 1) m_wrong m_text m_rule).1) ((4 * m_newFruitMany) + 1).toNatClampNeg (F_X10_number 2 m_read m_length m_top (F_X10_need 44 m_read m_length m_top (F_X10_number 2 m_read m_length m_top (m_at + 1) m_wrong m_text m_rule).2.1 (F_X10_number 2 m_read m_length m_top (m_at + 1) m_wrong m_text m_rule).2.2 m_text m_rule).1 (F_X10_need 44 m_read m_length m_top (F_X10_number 2 m_read m_length m_top (m_at + 1) m_wrong m_text m_rule).2.1 (F_X10_number 2 m_read m_length m_top (m_at + 1) m_wrong m_text m_rule).2.2 m_text m_rule).2 m_text m_rule).1) m_newStandings))) else (j_X10_readLine_135 (fun o0 o1 o2 o3 o4 o5 => (o0, o1, o2, o3, o4, o5)) m_fruits m_standings m_read m_length m_top m_text m_rule m_at m_wrong m_newFruitMany m_newStandingMany m_newFruits m_newStandings)
set_option maxHeartbeats 200000 in
set_option maxRecDepth 10000 in
theorem dt_X10_readLine {P Q : Int32 → Int32 → Int32 → Int32 → (Nat → Int32) → (Nat → Int32) → Prop} {m_fruits : Int32} {m_standings : Int32} {m_read : Nat} {m_length : Int32} {m_top : Int32} {m_at : Int32} {m_wrong : Int32} {m_newFruitMany : Int32} {m_newStandingMany : Int32} {m_text : Nat → Int32} {m_newFruits : Nat → Int32} {m_newStandings : Nat → Int32} {m_rule : Nat → Int32} (h : wp_X10_readLine P m_fruits m_standings m_read m_length m_top m_at m_wrong m_newFruitMany m_newStandingMany m_text m_newFruits m_newStandings m_rule) (hq : ∀ o : Int32 × Int32 × Int32 × Int32 × (Nat → Int32) × (Nat → Int32), o = F_X10_readLine m_fruits m_standings m_read m_length m_top m_at m_wrong m_newFruitMany m_newStandingMany m_text m_newFruits m_newStandings m_rule → P o.1 o.2.1 o.2.2.1 o.2.2.2.1 o.2.2.2.2.1 o.2.2.2.2.2 → Q o.1 o.2.1 o.2.2.1 o.2.2.2.1 o.2.2.2.2.1 o.2.2.2.2.2) : wp_X10_readLine Q m_fruits m_standings m_read m_length m_top m_at m_wrong m_newFruitMany m_newStandingMany m_text m_newFruits m_newStandings m_rule := by
  rw [F_X10_readLine] at hq
  refine du_X10_here h ?_
  intro h
  refine And.intro (fun c1 => ?_) (fun c1 => ?_)
  · have h := And.left h c1
    rw [if_neg c1] at hq
    rw [j_X10_readLine_135] at hq
    unfold ws_X10_readLine_135 at h ⊢
    refine du_X10_here h ?_
    intro h
    refine And.intro (fun c2 => ?_) (fun c2 => ?_)
    · have h := And.left h c2
      rw [if_neg c2] at hq
      rw [j_X10_readLine_218] at hq
      unfold ws_X10_readLine_218 at h ⊢
      refine du_X10_fault h ?_
      intro h
      have q9 := hq _ rfl
      dsimp only at q9
      exact q9 h
    · have h := And.right h c2
      rw [if_pos c2] at hq
      refine ae ?_
      have h := h _ rfl
      refine And.intro (fun c3 => ?_) (fun c3 => ?_)
      · have h := And.left h c3
        rw [if_pos c3] at hq
        rw [j_X10_readLine_218] at hq
        unfold ws_X10_readLine_218 at h ⊢
        refine du_X10_fault h ?_
        intro h
        have q9 := hq _ rfl
        dsimp only at q9
        exact q9 h
      · have h := And.right h c3
        rw [if_neg c3] at hq
        refine ae ?_
        have h := h _ rfl
        refine ae ?_
        have h := h _ rfl
        refine du_X10_number (by decide) h ?_
        intro h
        refine And.intro (And.left h) ?_
        have h := And.right h
        refine du_X10_need h ?_
        intro h
        refine ae ?_
        have h := h _ rfl
        refine du_X10_number (by decide) h ?_
        intro h
        refine And.intro (And.left h) ?_
        have h := And.right h
        refine ae ?_
        have h := h _ rfl
        have q9 := hq _ rfl
        dsimp only at q9
        exact q9 h
  · have h := And.right h c1
    rw [if_pos c1] at hq
    refine ae ?_
    have h := h _ rfl
    refine And.intro (fun c4 => ?_) (fun c4 => ?_)
    · have h := And.left h c4
      rw [if_pos c4] at hq
      rw [j_X10_readLine_135] at hq
      unfold ws_X10_readLine_135 at h ⊢
      refine du_X10_here h ?_
      intro h
      refine And.intro (fun c5 => ?_) (fun c5 => ?_)
      · have h := And.left h c5
        rw [if_neg c5] at hq
        rw [j_X10_readLine_218] at hq
        unfold ws_X10_readLine_218 at h ⊢
        refine du_X10_fault h ?_
        intro h
        have q9 := hq _ rfl
        dsimp only at q9
        exact q9 h
      · have h := And.right h c5
        rw [if_pos c5] at hq
        refine ae ?_
        have h := h _ rfl
        refine And.intro (fun c6 => ?_) (fun c6 => ?_)
        · have h := And.left h c6
          rw [if_pos c6] at hq
          rw [j_X10_readLine_218] at hq
          unfold ws_X10_readLine_218 at h ⊢
          refine du_X10_fault h ?_
          intro h
          have q9 := hq _ rfl
          dsimp only at q9
          exact q9 h
        · have h := And.right h c6
          rw [if_neg c6] at hq
          refine ae ?_
          have h := h _ rfl
          refine ae ?_
          have h := h _ rfl
          refine du_X10_number (by decide) h ?_
          intro h
          refine And.intro (And.left h) ?_
          have h := And.right h
          refine du_X10_need h ?_
          intro h
          refine ae ?_
          have h := h _ rfl
          refine du_X10_number (by decide) h ?_
          intro h
          refine And.intro (And.left h) ?_
          have h := And.right h
          refine ae ?_
          have h := h _ rfl
          have q9 := hq _ rfl
          dsimp only at q9
          exact q9 h
    · have h := And.right h c4
      rw [if_neg c4] at hq
      refine ae ?_
      have h := h _ rfl
      refine ae ?_
      have h := h _ rfl
      refine du_X10_number (by decide) h ?_
      intro h
      refine And.intro (And.left h) ?_
      have h := And.right h
      refine du_X10_need h ?_
      intro h
      refine ae ?_
      have h := h _ rfl
      refine du_X10_number (by decide) h ?_
      intro h
      refine And.intro (And.left h) ?_
      have h := And.right h
      refine ae ?_
      have h := h _ rfl
      refine du_X10_passes h ?_
      intro h
      refine And.intro (fun c7 => ?_) (fun c7 => ?_)
      · have h := And.left h c7
        rw [if_pos c7] at hq
        rw [j_X10_readLine_95] at hq
        unfold ws_X10_readLine_95 at h ⊢
        refine And.intro (And.left h) ?_
        have h := And.right h
        refine ae ?_
        have h := h _ rfl
        refine du_X10_passes h ?_
        intro h
        refine And.intro (fun c8 => ?_) (fun c8 => ?_)
        · have h := And.left h c8
          rw [if_pos c8] at hq
          rw [j_X10_readLine_121] at hq
          unfold ws_X10_readLine_121 at h ⊢
          refine And.intro (And.left h) ?_
          have h := And.right h
          refine ae ?_
          have h := h _ rfl
          have q9 := hq _ rfl
          dsimp only at q9
          exact q9 h
        · have h := And.right h c8
          rw [if_neg c8] at hq
          refine du_X10_number (by decide) h ?_
          intro h
          rw [j_X10_readLine_121] at hq
          unfold ws_X10_readLine_121 at h ⊢
          refine And.intro (And.left h) ?_
          have h := And.right h
          refine ae ?_
          have h := h _ rfl
          have q9 := hq _ rfl
          dsimp only at q9
          exact q9 h
      · have h := And.right h c7
        rw [if_neg c7] at hq
        refine du_X10_number (by decide) h ?_
        intro h
        rw [j_X10_readLine_95] at hq
        unfold ws_X10_readLine_95 at h ⊢
        refine And.intro (And.left h) ?_
        have h := And.right h
        refine ae ?_
        have h := h _ rfl
        refine du_X10_passes h ?_
        intro h
        refine And.intro (fun c9 => ?_) (fun c9 => ?_)
        · have h := And.left h c9
          rw [if_pos c9] at hq
          rw [j_X10_readLine_121] at hq
          unfold ws_X10_readLine_121 at h ⊢
          refine And.intro (And.left h) ?_
          have h := And.right h
          refine ae ?_
          have h := h _ rfl
          have q9 := hq _ rfl
          dsimp only at q9
          exact q9 h
        · have h := And.right h c9
          rw [if_neg c9] at hq
          refine du_X10_number (by decide) h ?_
          intro h
          rw [j_X10_readLine_121] at hq
          unfold ws_X10_readLine_121 at h ⊢
          refine And.intro (And.left h) ?_
          have h := And.right h
          refine ae ?_
          have h := h _ rfl
          have q9 := hq _ rfl
          dsimp only at q9
          exact q9 h
theorem du_X10_readLine {P Q : Int32 → Int32 → Int32 → Int32 → (Nat → Int32) → (Nat → Int32) → Prop} {m_fruits : Int32} {m_standings : Int32} {m_read : Nat} {m_length : Int32} {m_top : Int32} {m_at : Int32} {m_wrong : Int32} {m_newFruitMany : Int32} {m_newStandingMany : Int32} {m_text : Nat → Int32} {m_newFruits : Nat → Int32} {m_newStandings : Nat → Int32} {m_rule : Nat → Int32} (h : wp_X10_readLine P m_fruits m_standings m_read m_length m_top m_at m_wrong m_newFruitMany m_newStandingMany m_text m_newFruits m_newStandings m_rule) (hq : P (F_X10_readLine m_fruits m_standings m_read m_length m_top m_at m_wrong m_newFruitMany m_newStandingMany m_text m_newFruits m_newStandings m_rule).1 (F_X10_readLine m_fruits m_standings m_read m_length m_top m_at m_wrong m_newFruitMany m_newStandingMany m_text m_newFruits m_newStandings m_rule).2.1 (F_X10_readLine m_fruits m_standings m_read m_length m_top m_at m_wrong m_newFruitMany m_newStandingMany m_text m_newFruits m_newStandings m_rule).2.2.1 (F_X10_readLine m_fruits m_standings m_read m_length m_top m_at m_wrong m_newFruitMany m_newStandingMany m_text m_newFruits m_newStandings m_rule).2.2.2.1 (F_X10_readLine m_fruits m_standings m_read m_length m_top m_at m_wrong m_newFruitMany m_newStandingMany m_text m_newFruits m_newStandings m_rule).2.2.2.2.1 (F_X10_readLine m_fruits m_standings m_read m_length m_top m_at m_wrong m_newFruitMany m_newStandingMany m_text m_newFruits m_newStandings m_rule).2.2.2.2.2 → Q (F_X10_readLine m_fruits m_standings m_read m_length m_top m_at m_wrong m_newFruitMany m_newStandingMany m_text m_newFruits m_newStandings m_rule).1 (F_X10_readLine m_fruits m_standings m_read m_length m_top m_at m_wrong m_newFruitMany m_newStandingMany m_text m_newFruits m_newStandings m_rule).2.1 (F_X10_readLine m_fruits m_standings m_read m_length m_top m_at m_wrong m_newFruitMany m_newStandingMany m_text m_newFruits m_newStandings m_rule).2.2.1 (F_X10_readLine m_fruits m_standings m_read m_length m_top m_at m_wrong m_newFruitMany m_newStandingMany m_text m_newFruits m_newStandings m_rule).2.2.2.1 (F_X10_readLine m_fruits m_standings m_read m_length m_top m_at m_wrong m_newFruitMany m_newStandingMany m_text m_newFruits m_newStandings m_rule).2.2.2.2.1 (F_X10_readLine m_fruits m_standings m_read m_length m_top m_at m_wrong m_newFruitMany m_newStandingMany m_text m_newFruits m_newStandings m_rule).2.2.2.2.2) : wp_X10_readLine Q m_fruits m_standings m_read m_length m_top m_at m_wrong m_newFruitMany m_newStandingMany m_text m_newFruits m_newStandings m_rule := dt_X10_readLine h (fun o eo => by rw [eo]; exact hq)
theorem dw_X10_readLine {Q : Int32 → Int32 → Int32 → Int32 → (Nat → Int32) → (Nat → Int32) → Prop} {m_fruits : Int32} {m_standings : Int32} {m_read : Nat} {m_length : Int32} {m_top : Int32} {m_at : Int32} {m_wrong : Int32} {m_newFruitMany : Int32} {m_newStandingMany : Int32} {m_text : Nat → Int32} {m_newFruits : Nat → Int32} {m_newStandings : Nat → Int32} {m_rule : Nat → Int32} (h : wp_X10_readLine (fun o0 o1 o2 o3 o4 o5 => (o0, o1, o2, o3, o4, o5) = F_X10_readLine m_fruits m_standings m_read m_length m_top m_at m_wrong m_newFruitMany m_newStandingMany m_text m_newFruits m_newStandings m_rule → Q o0 o1 o2 o3 o4 o5) m_fruits m_standings m_read m_length m_top m_at m_wrong m_newFruitMany m_newStandingMany m_text m_newFruits m_newStandings m_rule) : wp_X10_readLine Q m_fruits m_standings m_read m_length m_top m_at m_wrong m_newFruitMany m_newStandingMany m_text m_newFruits m_newStandings m_rule := dt_X10_readLine h (fun o eo hp => hp eo)
noncomputable def F_X10_begin (p1 : Int32) (p2 : Int32) (m_read : Nat) (m_length : Int32) (m_top : Int32) (m_at : Int32) (m_wrong : Int32) : Nat × Int32 × Int32 × Int32 × Int32 := (1, p1, p2, 0, (-1))
set_option maxHeartbeats 200000 in
set_option maxRecDepth 10000 in
theorem dt_X10_begin {P Q : Nat → Int32 → Int32 → Int32 → Int32 → Prop} {p1 : Int32} {p2 : Int32} {m_read : Nat} {m_length : Int32} {m_top : Int32} {m_at : Int32} {m_wrong : Int32} (h : wp_X10_begin P p1 p2 m_read m_length m_top m_at m_wrong) (hq : ∀ o : Nat × Int32 × Int32 × Int32 × Int32, o = F_X10_begin p1 p2 m_read m_length m_top m_at m_wrong → P o.1 o.2.1 o.2.2.1 o.2.2.2.1 o.2.2.2.2 → Q o.1 o.2.1 o.2.2.1 o.2.2.2.1 o.2.2.2.2) : wp_X10_begin Q p1 p2 m_read m_length m_top m_at m_wrong := by
  rw [F_X10_begin] at hq
  have q9 := hq _ rfl
  dsimp only at q9
  exact q9 h
theorem du_X10_begin {P Q : Nat → Int32 → Int32 → Int32 → Int32 → Prop} {p1 : Int32} {p2 : Int32} {m_read : Nat} {m_length : Int32} {m_top : Int32} {m_at : Int32} {m_wrong : Int32} (h : wp_X10_begin P p1 p2 m_read m_length m_top m_at m_wrong) (hq : P (F_X10_begin p1 p2 m_read m_length m_top m_at m_wrong).1 (F_X10_begin p1 p2 m_read m_length m_top m_at m_wrong).2.1 (F_X10_begin p1 p2 m_read m_length m_top m_at m_wrong).2.2.1 (F_X10_begin p1 p2 m_read m_length m_top m_at m_wrong).2.2.2.1 (F_X10_begin p1 p2 m_read m_length m_top m_at m_wrong).2.2.2.2 → Q (F_X10_begin p1 p2 m_read m_length m_top m_at m_wrong).1 (F_X10_begin p1 p2 m_read m_length m_top m_at m_wrong).2.1 (F_X10_begin p1 p2 m_read m_length m_top m_at m_wrong).2.2.1 (F_X10_begin p1 p2 m_read m_length m_top m_at m_wrong).2.2.2.1 (F_X10_begin p1 p2 m_read m_length m_top m_at m_wrong).2.2.2.2) : wp_X10_begin Q p1 p2 m_read m_length m_top m_at m_wrong := dt_X10_begin h (fun o eo => by rw [eo]; exact hq)
theorem dw_X10_begin {Q : Nat → Int32 → Int32 → Int32 → Int32 → Prop} {p1 : Int32} {p2 : Int32} {m_read : Nat} {m_length : Int32} {m_top : Int32} {m_at : Int32} {m_wrong : Int32} (h : wp_X10_begin (fun o0 o1 o2 o3 o4 => (o0, o1, o2, o3, o4) = F_X10_begin p1 p2 m_read m_length m_top m_at m_wrong → Q o0 o1 o2 o3 o4) p1 p2 m_read m_length m_top m_at m_wrong) : wp_X10_begin Q p1 p2 m_read m_length m_top m_at m_wrong := dt_X10_begin h (fun o eo hp => hp eo)
noncomputable def fs_X8_add_14 {R : Type} (po : Int32 → Int32 → (Nat → Int32) → R) (nx : Int32 → Int32 → Int32 → (Nat → Int32) → R) (x1 : Int32) (x2 : Int32) (tx_length : Int32) (tx_signs : Nat → Int32) : R := if x2 < 0 then (po tx_length tx_length tx_signs) else (nx x1 (x2 + (-8)) (tx_length + 1) (upd tx_signs tx_length.toNatClampNeg (vp_nar .char (((((x1.toUInt32 >>> (x2.toUInt32 &&& Int32.toUInt32 31)).toInt32) &&& 255).toUInt32 % 65536).toInt32))))
set_option maxHeartbeats 200000 in
set_option maxRecDepth 10000 in
theorem dl_X8_add_14 {P Q : Int32 → Int32 → (Nat → Int32) → Prop} {R : Type} {po : Int32 → Int32 → (Nat → Int32) → R} {d : Int32 → Int32 → Int32 → (Nat → Int32) → R} : ∀ (n m : Nat) (x1 : Int32) (x2 : Int32) (tx_length : Int32) (tx_signs : Nat → Int32), -8 ≤ Int32.toInt x2 ∧ Int32.toInt x2 ≤ 24 → Int32.toInt x2 + 8 < (m : Int) → wb_X8_add_14 P n x1 x2 tx_length tx_signs → (∀ (b0 : Int32) (b1 : Int32) (b2 : Nat → Int32), po b0 b1 b2 = flp (fs_X8_add_14 po) d m x1 x2 tx_length tx_signs → P b0 b1 b2 → Q b0 b1 b2) → wb_X8_add_14 Q n x1 x2 tx_length tx_signs := by
  have l0 : Int32.toInt (0 : Int32) = 0 := by decide
  intro n
  induction n with
  | zero => intro m x1 x2 tx_length tx_signs hv hm h hq; exact False.elim h
  | succ n ih =>
    intro m x1 x2 tx_length tx_signs hv hm h hq
    cases m with
    | zero => exfalso; omega
    | succ m =>
      rw [flp_s, fs_X8_add_14] at hq
      have h : ws_X8_add_14 P (wb_X8_add_14 P n) x1 x2 tx_length tx_signs := h
      show ws_X8_add_14 Q (wb_X8_add_14 Q n) x1 x2 tx_length tx_signs
      unfold ws_X8_add_14 at h ⊢
      refine And.intro (fun c1 => ?_) (fun c1 => ?_)
      · have h := And.left h c1
        rw [if_pos c1] at hq
        have dc1 := (fa_lt _ _).mp c1
        exact hq _ _ _ rfl h
      · have h := And.right h c1
        rw [if_neg c1] at hq
        have dc1 := mt (fa_lt _ _).mpr c1
        refine ae ?_
        have h := h _ rfl
        refine ae ?_
        have h := h _ rfl
        refine And.intro (And.left h) ?_
        have h := And.right h
        refine ae ?_
        have h := h _ rfl
        refine ae ?_
        have h := h _ rfl
        have l8 : Int32.toInt (-8 : Int32) = -8 := by decide
        have f9 := ta_add x2 (-8) (by omega)
        exact ih m _ _ _ _ (by omega) (by omega) h hq
noncomputable def F_X8_add (p0 : Int32) (tx_length : Int32) (tx_signs : Nat → Int32) : Int32 × Int32 × (Nat → Int32) := if tx_length ≤ 76 then (flp (fs_X8_add_14 (fun o0 o1 o2 => (o0, o1, o2))) (fun _ _ _ _ => (0, 0, (fun _ => 0))) 33 p0 24 tx_length tx_signs) else ((-1), tx_length, tx_signs)
set_option maxHeartbeats 200000 in
set_option maxRecDepth 10000 in
theorem dt_X8_add {P Q : Int32 → Int32 → (Nat → Int32) → Prop} {p0 : Int32} {tx_length : Int32} {tx_signs : Nat → Int32} (h : wp_X8_add P p0 tx_length tx_signs) (hq : ∀ o : Int32 × Int32 × (Nat → Int32), o = F_X8_add p0 tx_length tx_signs → P o.1 o.2.1 o.2.2 → Q o.1 o.2.1 o.2.2) : wp_X8_add Q p0 tx_length tx_signs := by
  rw [F_X8_add] at hq
  refine And.intro (fun c1 => ?_) (fun c1 => ?_)
  · have h := And.left h c1
    rw [if_pos c1] at hq
    obtain ⟨n2, h⟩ := h
    exact ⟨n2, dl_X8_add_14 n2 33 _ _ _ _ (by decide) (by decide) h (fun b0 b1 b2 e9 h9 => hq (b0, b1, b2) e9 h9)⟩
  · have h := And.right h c1
    rw [if_neg c1] at hq
    have q9 := hq _ rfl
    dsimp only at q9
    exact q9 h
theorem du_X8_add {P Q : Int32 → Int32 → (Nat → Int32) → Prop} {p0 : Int32} {tx_length : Int32} {tx_signs : Nat → Int32} (h : wp_X8_add P p0 tx_length tx_signs) (hq : P (F_X8_add p0 tx_length tx_signs).1 (F_X8_add p0 tx_length tx_signs).2.1 (F_X8_add p0 tx_length tx_signs).2.2 → Q (F_X8_add p0 tx_length tx_signs).1 (F_X8_add p0 tx_length tx_signs).2.1 (F_X8_add p0 tx_length tx_signs).2.2) : wp_X8_add Q p0 tx_length tx_signs := dt_X8_add h (fun o eo => by rw [eo]; exact hq)
noncomputable def F_X9_sign (p0 : Int32) (tx_length : Int32) (tx_signs : Nat → Int32) : Int32 × Int32 × (Nat → Int32) := ((F_X8_add p0 tx_length tx_signs).1, (F_X8_add p0 tx_length tx_signs).2.1, (F_X8_add p0 tx_length tx_signs).2.2)
set_option maxHeartbeats 200000 in
set_option maxRecDepth 10000 in
theorem dt_X9_sign {P Q : Int32 → Int32 → (Nat → Int32) → Prop} {p0 : Int32} {tx_length : Int32} {tx_signs : Nat → Int32} (h : wp_X9_sign P p0 tx_length tx_signs) (hq : ∀ o : Int32 × Int32 × (Nat → Int32), o = F_X9_sign p0 tx_length tx_signs → P o.1 o.2.1 o.2.2 → Q o.1 o.2.1 o.2.2) : wp_X9_sign Q p0 tx_length tx_signs := by
  rw [F_X9_sign] at hq
  refine du_X8_add h ?_
  intro h
  have q9 := hq _ rfl
  dsimp only at q9
  exact q9 h
theorem du_X9_sign {P Q : Int32 → Int32 → (Nat → Int32) → Prop} {p0 : Int32} {tx_length : Int32} {tx_signs : Nat → Int32} (h : wp_X9_sign P p0 tx_length tx_signs) (hq : P (F_X9_sign p0 tx_length tx_signs).1 (F_X9_sign p0 tx_length tx_signs).2.1 (F_X9_sign p0 tx_length tx_signs).2.2 → Q (F_X9_sign p0 tx_length tx_signs).1 (F_X9_sign p0 tx_length tx_signs).2.1 (F_X9_sign p0 tx_length tx_signs).2.2) : wp_X9_sign Q p0 tx_length tx_signs := dt_X9_sign h (fun o eo => by rw [eo]; exact hq)
theorem dw_X9_sign {Q : Int32 → Int32 → (Nat → Int32) → Prop} {p0 : Int32} {tx_length : Int32} {tx_signs : Nat → Int32} (h : wp_X9_sign (fun o0 o1 o2 => (o0, o1, o2) = F_X9_sign p0 tx_length tx_signs → Q o0 o1 o2) p0 tx_length tx_signs) : wp_X9_sign Q p0 tx_length tx_signs := dt_X9_sign h (fun o eo hp => hp eo)
noncomputable def fs_X10_sign_20 {R : Type} (po : Int32 → Int32 → Int32 → (Nat → Int32) → R) (nx : Int32 → Int32 → Int32 → Int32 → (Nat → Int32) → R) (x1 : Int32) (x2 : Int32) (m_typed : Int32) (m_thrown : Int32) (m_text : Nat → Int32) : R := if x2 < 0 then (po m_typed m_typed m_thrown m_text) else (nx x1 (x2 + (-1)) (m_typed + 1) m_thrown (upd m_text m_typed.toNatClampNeg (vp_nar .byte ((x1 >>> ((8 * x2) &&& 31)).toInt8.toInt32))))
set_option maxHeartbeats 200000 in
set_option maxRecDepth 10000 in
theorem dl_X10_sign_20 {P Q : Int32 → Int32 → Int32 → (Nat → Int32) → Prop} {R : Type} {po : Int32 → Int32 → Int32 → (Nat → Int32) → R} {d : Int32 → Int32 → Int32 → Int32 → (Nat → Int32) → R} : ∀ (n m : Nat) (x1 : Int32) (x2 : Int32) (m_typed : Int32) (m_thrown : Int32) (m_text : Nat → Int32), -1 ≤ Int32.toInt x2 ∧ Int32.toInt x2 ≤ 3 → Int32.toInt x2 + 1 < (m : Int) → wb_X10_sign_20 P n x1 x2 m_typed m_thrown m_text → (∀ (b0 : Int32) (b1 : Int32) (b2 : Int32) (b3 : Nat → Int32), po b0 b1 b2 b3 = flp (fs_X10_sign_20 po) d m x1 x2 m_typed m_thrown m_text → P b0 b1 b2 b3 → Q b0 b1 b2 b3) → wb_X10_sign_20 Q n x1 x2 m_typed m_thrown m_text := by
  have l0 : Int32.toInt (0 : Int32) = 0 := by decide
  intro n
  induction n with
  | zero => intro m x1 x2 m_typed m_thrown m_text hv hm h hq; exact False.elim h
  | succ n ih =>
    intro m x1 x2 m_typed m_thrown m_text hv hm h hq
    cases m with
    | zero => exfalso; omega
    | succ m =>
      rw [flp_s, fs_X10_sign_20] at hq
      have h : ws_X10_sign_20 P (wb_X10_sign_20 P n) x1 x2 m_typed m_thrown m_text := h
      show ws_X10_sign_20 Q (wb_X10_sign_20 Q n) x1 x2 m_typed m_thrown m_text
      unfold ws_X10_sign_20 at h ⊢
      refine And.intro (fun c1 => ?_) (fun c1 => ?_)
      · have h := And.left h c1
        rw [if_pos c1] at hq
        have dc1 := (fa_lt _ _).mp c1
        exact hq _ _ _ _ rfl h
      · have h := And.right h c1
        rw [if_neg c1] at hq
        have dc1 := mt (fa_lt _ _).mpr c1
        refine ae ?_
        have h := h _ rfl
        refine ae ?_
        have h := h _ rfl
        refine And.intro (And.left h) ?_
        have h := And.right h
        refine ae ?_
        have h := h _ rfl
        have l8 : Int32.toInt (-1 : Int32) = -1 := by decide
        have f9 := ta_add x2 (-1) (by omega)
        exact ih m _ _ _ _ _ (by omega) (by omega) h hq
noncomputable def F_X10_sign (p0 : Int32) (m_typed : Int32) (m_thrown : Int32) (m_text : Nat → Int32) : Int32 × Int32 × Int32 × (Nat → Int32) := if (m_typed + 4) ≤ 80 then (flp (fs_X10_sign_20 (fun o0 o1 o2 o3 => (o0, o1, o2, o3))) (fun _ _ _ _ _ => (0, 0, 0, (fun _ => 0))) 5 p0 3 m_typed 0 m_text) else ((-1), m_typed, 0, m_text)
set_option maxHeartbeats 200000 in
set_option maxRecDepth 10000 in
theorem dt_X10_sign {P Q : Int32 → Int32 → Int32 → (Nat → Int32) → Prop} {p0 : Int32} {m_typed : Int32} {m_thrown : Int32} {m_text : Nat → Int32} (h : wp_X10_sign P p0 m_typed m_thrown m_text) (hq : ∀ o : Int32 × Int32 × Int32 × (Nat → Int32), o = F_X10_sign p0 m_typed m_thrown m_text → P o.1 o.2.1 o.2.2.1 o.2.2.2 → Q o.1 o.2.1 o.2.2.1 o.2.2.2) : wp_X10_sign Q p0 m_typed m_thrown m_text := by
  rw [F_X10_sign] at hq
  refine ae ?_
  have h := h _ rfl
  refine And.intro (fun c1 => ?_) (fun c1 => ?_)
  · have h := And.left h c1
    rw [if_pos c1] at hq
    obtain ⟨n2, h⟩ := h
    exact ⟨n2, dl_X10_sign_20 n2 5 _ _ _ _ _ (by decide) (by decide) h (fun b0 b1 b2 b3 e9 h9 => hq (b0, b1, b2, b3) e9 h9)⟩
  · have h := And.right h c1
    rw [if_neg c1] at hq
    have q9 := hq _ rfl
    dsimp only at q9
    exact q9 h
theorem du_X10_sign {P Q : Int32 → Int32 → Int32 → (Nat → Int32) → Prop} {p0 : Int32} {m_typed : Int32} {m_thrown : Int32} {m_text : Nat → Int32} (h : wp_X10_sign P p0 m_typed m_thrown m_text) (hq : P (F_X10_sign p0 m_typed m_thrown m_text).1 (F_X10_sign p0 m_typed m_thrown m_text).2.1 (F_X10_sign p0 m_typed m_thrown m_text).2.2.1 (F_X10_sign p0 m_typed m_thrown m_text).2.2.2 → Q (F_X10_sign p0 m_typed m_thrown m_text).1 (F_X10_sign p0 m_typed m_thrown m_text).2.1 (F_X10_sign p0 m_typed m_thrown m_text).2.2.1 (F_X10_sign p0 m_typed m_thrown m_text).2.2.2) : wp_X10_sign Q p0 m_typed m_thrown m_text := dt_X10_sign h (fun o eo => by rw [eo]; exact hq)
theorem dw_X10_sign {Q : Int32 → Int32 → Int32 → (Nat → Int32) → Prop} {p0 : Int32} {m_typed : Int32} {m_thrown : Int32} {m_text : Nat → Int32} (h : wp_X10_sign (fun o0 o1 o2 o3 => (o0, o1, o2, o3) = F_X10_sign p0 m_typed m_thrown m_text → Q o0 o1 o2 o3) p0 m_typed m_thrown m_text) : wp_X10_sign Q p0 m_typed m_thrown m_text := dt_X10_sign h (fun o eo hp => hp eo)
noncomputable def F_X9_set (p0 : Int32) (p1 : Int32) (tr_settings : Nat → Int32) : Int32 × (Nat → Int32) := if p0 < 0 then ((-1), tr_settings) else (if 4 < p0 then ((-1), tr_settings) else (if p1 < (stL p0.toNatClampNeg) then ((-1), tr_settings) else (if p1 ≤ (stM p0.toNatClampNeg) then ((tr_settings p0.toNatClampNeg), (upd tr_settings p0.toNatClampNeg p1)) else ((-1), tr_settings))))
set_option maxHeartbeats 200000 in
set_option maxRecDepth 10000 in
theorem dt_X9_set {P Q : Int32 → (Nat → Int32) → Prop} {p0 : Int32} {p1 : Int32} {tr_settings : Nat → Int32} (h : wp_X9_set P p0 p1 tr_settings) (hq : ∀ o : Int32 × (Nat → Int32), o = F_X9_set p0 p1 tr_settings → P o.1 o.2 → Q o.1 o.2) : wp_X9_set Q p0 p1 tr_settings := by
  rw [F_X9_set] at hq
  refine And.intro (fun c1 => ?_) (fun c1 => ?_)
  · have h := And.left h c1
    rw [if_pos c1] at hq
    have q9 := hq _ rfl
    dsimp only at q9
    exact q9 h
  · have h := And.right h c1
    rw [if_neg c1] at hq
    refine And.intro (fun c2 => ?_) (fun c2 => ?_)
    · have h := And.left h c2
      rw [if_pos c2] at hq
      have q9 := hq _ rfl
      dsimp only at q9
      exact q9 h
    · have h := And.right h c2
      rw [if_neg c2] at hq
      refine And.intro (And.left h) ?_
      have h := And.right h
      refine And.intro (fun c3 => ?_) (fun c3 => ?_)
      · have h := And.left h c3
        rw [if_pos c3] at hq
        have q9 := hq _ rfl
        dsimp only at q9
        exact q9 h
      · have h := And.right h c3
        rw [if_neg c3] at hq
        refine And.intro (And.left h) ?_
        have h := And.right h
        refine And.intro (fun c4 => ?_) (fun c4 => ?_)
        · have h := And.left h c4
          rw [if_pos c4] at hq
          refine And.intro (And.left h) ?_
          have h := And.right h
          refine ae ?_
          have h := h _ rfl
          refine And.intro (And.left h) ?_
          have h := And.right h
          have q9 := hq _ rfl
          dsimp only at q9
          exact q9 h
        · have h := And.right h c4
          rw [if_neg c4] at hq
          have q9 := hq _ rfl
          dsimp only at q9
          exact q9 h
theorem du_X9_set {P Q : Int32 → (Nat → Int32) → Prop} {p0 : Int32} {p1 : Int32} {tr_settings : Nat → Int32} (h : wp_X9_set P p0 p1 tr_settings) (hq : P (F_X9_set p0 p1 tr_settings).1 (F_X9_set p0 p1 tr_settings).2 → Q (F_X9_set p0 p1 tr_settings).1 (F_X9_set p0 p1 tr_settings).2) : wp_X9_set Q p0 p1 tr_settings := dt_X9_set h (fun o eo => by rw [eo]; exact hq)
theorem dw_X9_set {Q : Int32 → (Nat → Int32) → Prop} {p0 : Int32} {p1 : Int32} {tr_settings : Nat → Int32} (h : wp_X9_set (fun o0 o1 => (o0, o1) = F_X9_set p0 p1 tr_settings → Q o0 o1) p0 p1 tr_settings) : wp_X9_set Q p0 p1 tr_settings := dt_X9_set h (fun o eo hp => hp eo)
noncomputable def j_X10_set_47 {R : Type} (po : Int32 → Int32 → (Nat → Int32) → R) (x1 : Int32) (x2 : Int32) (k0 : Int32) (k1 : Int32) (k2 : Int32) (m_thrown : Int32) (m_told : Nat → Int32) : R := if (F_X10_in k0 k1 k2) = 0 then (po (-1) m_thrown m_told) else (po (m_told x1.toNatClampNeg) m_thrown (upd m_told x1.toNatClampNeg x2))
noncomputable def j_X10_set_25 {R : Type} (po : Int32 → Int32 → (Nat → Int32) → R) (x1 : Int32) (x2 : Int32) (k0 : Int32) (k1 : Int32) (m_thrown : Int32) (m_told : Nat → Int32) : R := if x1 = 4 then (j_X10_set_47 po x1 x2 k0 k1 16 m_thrown m_told) else (if x1 = 3 then (j_X10_set_47 po x1 x2 k0 k1 9 m_thrown m_told) else (j_X10_set_47 po x1 x2 k0 k1 30 m_thrown m_told))
noncomputable def F_X10_set (p0 : Int32) (p1 : Int32) (m_thrown : Int32) (m_told : Nat → Int32) : Int32 × Int32 × (Nat → Int32) := if (F_X10_in p0 0 4) = 0 then ((-1), 0, m_told) else (if p0 = 4 then (j_X10_set_25 (fun o0 o1 o2 => (o0, o1, o2)) p0 p1 p1 1 0 m_told) else (j_X10_set_25 (fun o0 o1 o2 => (o0, o1, o2)) p0 p1 p1 0 0 m_told))
set_option maxHeartbeats 200000 in
set_option maxRecDepth 10000 in
theorem dt_X10_set {P Q : Int32 → Int32 → (Nat → Int32) → Prop} {p0 : Int32} {p1 : Int32} {m_thrown : Int32} {m_told : Nat → Int32} (h : wp_X10_set P p0 p1 m_thrown m_told) (hq : ∀ o : Int32 × Int32 × (Nat → Int32), o = F_X10_set p0 p1 m_thrown m_told → P o.1 o.2.1 o.2.2 → Q o.1 o.2.1 o.2.2) : wp_X10_set Q p0 p1 m_thrown m_told := by
  rw [F_X10_set] at hq
  refine du_X10_in h ?_
  intro h
  refine And.intro (fun c1 => ?_) (fun c1 => ?_)
  · have h := And.left h c1
    rw [if_pos c1] at hq
    have q9 := hq _ rfl
    dsimp only at q9
    exact q9 h
  · have h := And.right h c1
    rw [if_neg c1] at hq
    refine And.intro (fun c2 => ?_) (fun c2 => ?_)
    · have h := And.left h c2
      rw [if_neg c2] at hq
      rw [j_X10_set_25] at hq
      unfold ws_X10_set_25 at h ⊢
      refine And.intro (fun c3 => ?_) (fun c3 => ?_)
      · have h := And.left h c3
        rw [if_neg c3] at hq
        refine And.intro (fun c4 => ?_) (fun c4 => ?_)
        · have h := And.left h c4
          rw [if_neg c4] at hq
          rw [j_X10_set_47] at hq
          unfold ws_X10_set_47 at h ⊢
          refine du_X10_in h ?_
          intro h
          refine And.intro (fun c5 => ?_) (fun c5 => ?_)
          · have h := And.left h c5
            rw [if_neg c5] at hq
            refine And.intro (And.left h) ?_
            have h := And.right h
            refine ae ?_
            have h := h _ rfl
            refine And.intro (And.left h) ?_
            have h := And.right h
            have q9 := hq _ rfl
            dsimp only at q9
            exact q9 h
          · have h := And.right h c5
            rw [if_pos c5] at hq
            have q9 := hq _ rfl
            dsimp only at q9
            exact q9 h
        · have h := And.right h c4
          rw [if_pos c4] at hq
          rw [j_X10_set_47] at hq
          unfold ws_X10_set_47 at h ⊢
          refine du_X10_in h ?_
          intro h
          refine And.intro (fun c6 => ?_) (fun c6 => ?_)
          · have h := And.left h c6
            rw [if_neg c6] at hq
            refine And.intro (And.left h) ?_
            have h := And.right h
            refine ae ?_
            have h := h _ rfl
            refine And.intro (And.left h) ?_
            have h := And.right h
            have q9 := hq _ rfl
            dsimp only at q9
            exact q9 h
          · have h := And.right h c6
            rw [if_pos c6] at hq
            have q9 := hq _ rfl
            dsimp only at q9
            exact q9 h
      · have h := And.right h c3
        rw [if_pos c3] at hq
        rw [j_X10_set_47] at hq
        unfold ws_X10_set_47 at h ⊢
        refine du_X10_in h ?_
        intro h
        refine And.intro (fun c7 => ?_) (fun c7 => ?_)
        · have h := And.left h c7
          rw [if_neg c7] at hq
          refine And.intro (And.left h) ?_
          have h := And.right h
          refine ae ?_
          have h := h _ rfl
          refine And.intro (And.left h) ?_
          have h := And.right h
          have q9 := hq _ rfl
          dsimp only at q9
          exact q9 h
        · have h := And.right h c7
          rw [if_pos c7] at hq
          have q9 := hq _ rfl
          dsimp only at q9
          exact q9 h
    · have h := And.right h c2
      rw [if_pos c2] at hq
      rw [j_X10_set_25] at hq
      unfold ws_X10_set_25 at h ⊢
      refine And.intro (fun c8 => ?_) (fun c8 => ?_)
      · have h := And.left h c8
        rw [if_neg c8] at hq
        refine And.intro (fun c9 => ?_) (fun c9 => ?_)
        · have h := And.left h c9
          rw [if_neg c9] at hq
          rw [j_X10_set_47] at hq
          unfold ws_X10_set_47 at h ⊢
          refine du_X10_in h ?_
          intro h
          refine And.intro (fun c10 => ?_) (fun c10 => ?_)
          · have h := And.left h c10
            rw [if_neg c10] at hq
            refine And.intro (And.left h) ?_
            have h := And.right h
            refine ae ?_
            have h := h _ rfl
            refine And.intro (And.left h) ?_
            have h := And.right h
            have q9 := hq _ rfl
            dsimp only at q9
            exact q9 h
          · have h := And.right h c10
            rw [if_pos c10] at hq
            have q9 := hq _ rfl
            dsimp only at q9
            exact q9 h
        · have h := And.right h c9
          rw [if_pos c9] at hq
          rw [j_X10_set_47] at hq
          unfold ws_X10_set_47 at h ⊢
          refine du_X10_in h ?_
          intro h
          refine And.intro (fun c11 => ?_) (fun c11 => ?_)
          · have h := And.left h c11
            rw [if_neg c11] at hq
            refine And.intro (And.left h) ?_
            have h := And.right h
            refine ae ?_
            have h := h _ rfl
            refine And.intro (And.left h) ?_
            have h := And.right h
            have q9 := hq _ rfl
            dsimp only at q9
            exact q9 h
          · have h := And.right h c11
            rw [if_pos c11] at hq
            have q9 := hq _ rfl
            dsimp only at q9
            exact q9 h
      · have h := And.right h c8
        rw [if_pos c8] at hq
        rw [j_X10_set_47] at hq
        unfold ws_X10_set_47 at h ⊢
        refine du_X10_in h ?_
        intro h
        refine And.intro (fun c12 => ?_) (fun c12 => ?_)
        · have h := And.left h c12
          rw [if_neg c12] at hq
          refine And.intro (And.left h) ?_
          have h := And.right h
          refine ae ?_
          have h := h _ rfl
          refine And.intro (And.left h) ?_
          have h := And.right h
          have q9 := hq _ rfl
          dsimp only at q9
          exact q9 h
        · have h := And.right h c12
          rw [if_pos c12] at hq
          have q9 := hq _ rfl
          dsimp only at q9
          exact q9 h
theorem du_X10_set {P Q : Int32 → Int32 → (Nat → Int32) → Prop} {p0 : Int32} {p1 : Int32} {m_thrown : Int32} {m_told : Nat → Int32} (h : wp_X10_set P p0 p1 m_thrown m_told) (hq : P (F_X10_set p0 p1 m_thrown m_told).1 (F_X10_set p0 p1 m_thrown m_told).2.1 (F_X10_set p0 p1 m_thrown m_told).2.2 → Q (F_X10_set p0 p1 m_thrown m_told).1 (F_X10_set p0 p1 m_thrown m_told).2.1 (F_X10_set p0 p1 m_thrown m_told).2.2) : wp_X10_set Q p0 p1 m_thrown m_told := dt_X10_set h (fun o eo => by rw [eo]; exact hq)
theorem dw_X10_set {Q : Int32 → Int32 → (Nat → Int32) → Prop} {p0 : Int32} {p1 : Int32} {m_thrown : Int32} {m_told : Nat → Int32} (h : wp_X10_set (fun o0 o1 o2 => (o0, o1, o2) = F_X10_set p0 p1 m_thrown m_told → Q o0 o1 o2) p0 p1 m_thrown m_told) : wp_X10_set Q p0 p1 m_thrown m_told := dt_X10_set h (fun o eo hp => hp eo)
noncomputable def j_X3_fillWorths_70 {R : Type} (k9 : Int32 → Int32 → Int32 → Int32 → Int32 → Int32 → (Nat → Int32) → R) (tr_fruits : Int32) (x1 : Int32) (x2 : Int32) (x4 : Int32) (x5 : Int32) (x6 : Int32) (x7 : Int32) (k1 : Int32) (k2 : Int32) (tr_worth : Nat → Int32) : R := k9 x1 x2 x4 (x5 + ((upd tr_worth k1.toNatClampNeg k2) x7.toNatClampNeg)) (x6 + x4) (x7 + 1) (upd tr_worth k1.toNatClampNeg k2)
noncomputable def j_X3_fillWorths_41 {R : Type} (k9 : Int32 → Int32 → Int32 → Int32 → Int32 → Int32 → (Nat → Int32) → R) (tr_fruits : Int32) (x1 : Int32) (x2 : Int32) (x4 : Int32) (x5 : Int32) (x6 : Int32) (x7 : Int32) (k0 : Int32) (tr_worth : Nat → Int32) : R := if x2 ≤ x7 then (j_X3_fillWorths_70 k9 tr_fruits x1 x2 x4 x5 x6 x7 x7 0 tr_worth) else (j_X3_fillWorths_70 k9 tr_fruits x1 x2 x4 x5 x6 x7 x7 (if 0 < (if k0 < 9 then k0 else 9) then (if k0 < 9 then k0 else 9) else 0) tr_worth)
noncomputable def bd_X3_fillWorths_9 (tr_fruits : Int32) (x1 : Int32) (x2 : Int32) (x4 : Int32) (c : Int32) (s : Int32 × Int32 × (Nat → Int32)) : Int32 × Int32 × (Nat → Int32) := if x1 = 0 then (j_X3_fillWorths_41 (fun q0 q1 q2 q3 q4 q5 q6 => (q3, q4, q6)) tr_fruits x1 x2 x4 s.1 s.2.1 c s.2.1.toInt8.toInt32 s.2.2) else (if x1 = 1 then (j_X3_fillWorths_41 (fun q0 q1 q2 q3 q4 q5 q6 => (q3, q4, q6)) tr_fruits x1 x2 x4 s.1 s.2.1 c s.2.1.toInt16.toInt32 s.2.2) else (j_X3_fillWorths_41 (fun q0 q1 q2 q3 q4 q5 q6 => (q3, q4, q6)) tr_fruits x1 x2 x4 s.1 s.2.1 c s.2.1 s.2.2))
noncomputable def ex_X3_fillWorths_9 {R : Type} (po : Int32 → (Nat → Int32) → R) (tr_fruits : Int32) (x1 : Int32) (x2 : Int32) (x4 : Int32) (c : Int32) (s : Int32 × Int32 × (Nat → Int32)) : R := po s.1 s.2.2
set_option maxHeartbeats 200000 in
set_option maxRecDepth 10000 in
theorem dl_X3_fillWorths_9 {P Q : Int32 → (Nat → Int32) → Prop} {tr_fruits : Int32} {x1 : Int32} {x2 : Int32} {x4 : Int32} {a : Int32 × Int32 × (Nat → Int32)} {i : Nat} (hi0 : i < 2147483648) (hE : ∀ (c : Int32) (s : Int32 × Int32 × (Nat → Int32)), c = nI (i + (Int32.toInt tr_fruits - ((i : Nat) : Int)).toNat) → s = itr (bd_X3_fillWorths_9 tr_fruits x1 x2 x4) a i (Int32.toInt tr_fruits - ((i : Nat) : Int)).toNat → (P s.1 s.2.2) → (Q s.1 s.2.2)) : ∀ (n k : Nat) (c : Int32), c = nI (i + k) → k ≤ (Int32.toInt tr_fruits - ((i : Nat) : Int)).toNat → wb_X3_fillWorths_9 P tr_fruits n x1 x2 x4 (itr (bd_X3_fillWorths_9 tr_fruits x1 x2 x4) a i k).1 (itr (bd_X3_fillWorths_9 tr_fruits x1 x2 x4) a i k).2.1 c (itr (bd_X3_fillWorths_9 tr_fruits x1 x2 x4) a i k).2.2 → wb_X3_fillWorths_9 Q tr_fruits n x1 x2 x4 (itr (bd_X3_fillWorths_9 tr_fruits x1 x2 x4) a i k).1 (itr (bd_X3_fillWorths_9 tr_fruits x1 x2 x4) a i k).2.1 c (itr (bd_X3_fillWorths_9 tr_fruits x1 x2 x4) a i k).2.2 := by
  intro n
  induction n with
  | zero => intro k c hc hk h; exact False.elim h
  | succ n ih =>
    intro k c hc hk h
    have hr := tp_r tr_fruits
    have hi : Int32.toInt c = ((i + k : Nat) : Int) := by rw [hc]; exact nI_toInt (by omega)
    refine And.intro (fun t0 => ?_) (fun t0 => ?_)
    · have h := And.left h t0
      have t1 := (fa_le _ _).mp t0
      have hk2 : k = (Int32.toInt tr_fruits - ((i : Nat) : Int)).toNat := by omega
      subst hk2
      exact hE _ _ hc rfl h
    · have h := And.right h t0
      have t1 := mt (fa_le _ _).mpr t0
      have hs : ∀ o : Int32 × Int32 × (Nat → Int32), o = itr (bd_X3_fillWorths_9 tr_fruits x1 x2 x4) a i (k + 1) → wb_X3_fillWorths_9 P tr_fruits n x1 x2 x4 o.1 o.2.1 (c + 1) o.2.2 → wb_X3_fillWorths_9 Q tr_fruits n x1 x2 x4 o.1 o.2.1 (c + 1) o.2.2 := by
        intro o eo h9
        have q := ih (k + 1) (c + 1) (by rw [hc]; exact nI_1 _) (by omega)
        rw [← eo] at q
        exact q h9
      rw [itr_s, ← hc, bd_X3_fillWorths_9] at hs
      refine And.intro (fun c1 => ?_) (fun c1 => ?_)
      · have h := And.left h c1
        rw [if_neg c1] at hs
        refine And.intro (fun c2 => ?_) (fun c2 => ?_)
        · have h := And.left h c2
          rw [if_neg c2] at hs
          rw [j_X3_fillWorths_41] at hs
          unfold ws_X3_fillWorths_41 at h ⊢
          refine And.intro (fun c3 => ?_) (fun c3 => ?_)
          · have h := And.left h c3
            rw [if_pos c3] at hs
            rw [j_X3_fillWorths_70] at hs
            unfold ws_X3_fillWorths_70 at h ⊢
            refine And.intro (And.left h) ?_
            have h := And.right h
            refine And.intro (And.left h) ?_
            have h := And.right h
            refine ae ?_
            have h := h _ rfl
            refine ae ?_
            have h := h _ rfl
            refine ae ?_
            have h := h _ rfl
            have q9 := hs _ rfl
            dsimp only at q9
            exact q9 h
          · have h := And.right h c3
            rw [if_neg c3] at hs
            refine ae ?_
            have h := h _ rfl
            refine ae ?_
            have h := h _ rfl
            rw [j_X3_fillWorths_70] at hs
            unfold ws_X3_fillWorths_70 at h ⊢
            refine And.intro (And.left h) ?_
            have h := And.right h
            refine And.intro (And.left h) ?_
            have h := And.right h
            refine ae ?_
            have h := h _ rfl
            refine ae ?_
            have h := h _ rfl
            refine ae ?_
            have h := h _ rfl
            have q9 := hs _ rfl
            dsimp only at q9
            exact q9 h
        · have h := And.right h c2
          rw [if_pos c2] at hs
          refine ae ?_
          have h := h _ rfl
          rw [j_X3_fillWorths_41] at hs
          unfold ws_X3_fillWorths_41 at h ⊢
          refine And.intro (fun c4 => ?_) (fun c4 => ?_)
          · have h := And.left h c4
            rw [if_pos c4] at hs
            rw [j_X3_fillWorths_70] at hs
            unfold ws_X3_fillWorths_70 at h ⊢
            refine And.intro (And.left h) ?_
            have h := And.right h
            refine And.intro (And.left h) ?_
            have h := And.right h
            refine ae ?_
            have h := h _ rfl
            refine ae ?_
            have h := h _ rfl
            refine ae ?_
            have h := h _ rfl
            have q9 := hs _ rfl
            dsimp only at q9
            exact q9 h
          · have h := And.right h c4
            rw [if_neg c4] at hs
            refine ae ?_
            have h := h _ rfl
            refine ae ?_
            have h := h _ rfl
            rw [j_X3_fillWorths_70] at hs
            unfold ws_X3_fillWorths_70 at h ⊢
            refine And.intro (And.left h) ?_
            have h := And.right h
            refine And.intro (And.left h) ?_
            have h := And.right h
            refine ae ?_
            have h := h _ rfl
            refine ae ?_
            have h := h _ rfl
            refine ae ?_
            have h := h _ rfl
            have q9 := hs _ rfl
            dsimp only at q9
            exact q9 h
      · have h := And.right h c1
        rw [if_pos c1] at hs
        refine ae ?_
        have h := h _ rfl
        rw [j_X3_fillWorths_41] at hs
        unfold ws_X3_fillWorths_41 at h ⊢
        refine And.intro (fun c5 => ?_) (fun c5 => ?_)
        · have h := And.left h c5
          rw [if_pos c5] at hs
          rw [j_X3_fillWorths_70] at hs
          unfold ws_X3_fillWorths_70 at h ⊢
          refine And.intro (And.left h) ?_
          have h := And.right h
          refine And.intro (And.left h) ?_
          have h := And.right h
          refine ae ?_
          have h := h _ rfl
          refine ae ?_
          have h := h _ rfl
          refine ae ?_
          have h := h _ rfl
          have q9 := hs _ rfl
          dsimp only at q9
          exact q9 h
        · have h := And.right h c5
          rw [if_neg c5] at hs
          refine ae ?_
          have h := h _ rfl
          refine ae ?_
          have h := h _ rfl
          rw [j_X3_fillWorths_70] at hs
          unfold ws_X3_fillWorths_70 at h ⊢
          refine And.intro (And.left h) ?_
          have h := And.right h
          refine And.intro (And.left h) ?_
          have h := And.right h
          refine ae ?_
          have h := h _ rfl
          refine ae ?_
          have h := h _ rfl
          refine ae ?_
          have h := h _ rfl
          have q9 := hs _ rfl
          dsimp only at q9
          exact q9 h
noncomputable def F_X3_fillWorths (p0 : Int32) (p1 : Int32) (p2 : Int32) (p3 : Int32) (tr_fruits : Int32) (tr_worth : Nat → Int32) : Int32 × (Nat → Int32) := ex_X3_fillWorths_9 (fun o0 o1 => (o0, o1)) tr_fruits p0 p1 p3 (nI (0 + (Int32.toInt tr_fruits - ((0 : Nat) : Int)).toNat)) (itr (bd_X3_fillWorths_9 tr_fruits p0 p1 p3) (0, p2, tr_worth) 0 (Int32.toInt tr_fruits - ((0 : Nat) : Int)).toNat)
set_option maxHeartbeats 200000 in
set_option maxRecDepth 10000 in
theorem dt_X3_fillWorths {P Q : Int32 → (Nat → Int32) → Prop} {p0 : Int32} {p1 : Int32} {p2 : Int32} {p3 : Int32} {tr_fruits : Int32} {tr_worth : Nat → Int32} (h : wp_X3_fillWorths P p0 p1 p2 p3 tr_fruits tr_worth) (hq : ∀ o : Int32 × (Nat → Int32), o = F_X3_fillWorths p0 p1 p2 p3 tr_fruits tr_worth → P o.1 o.2 → Q o.1 o.2) : wp_X3_fillWorths Q p0 p1 p2 p3 tr_fruits tr_worth := by
  rw [F_X3_fillWorths] at hq
  obtain ⟨n1, h⟩ := h
  refine ⟨n1, dl_X3_fillWorths_9 (a := (0, p2, tr_worth)) (i := 0) (by decide) ?_ n1 0 0 (by decide) (Nat.zero_le _) h⟩
  intro cc2 s3 ec4 es5 h
  rw [← ec4, ← es5, ex_X3_fillWorths_9] at hq
  have q9 := hq _ rfl
  dsimp only at q9
  exact q9 h
theorem du_X3_fillWorths {P Q : Int32 → (Nat → Int32) → Prop} {p0 : Int32} {p1 : Int32} {p2 : Int32} {p3 : Int32} {tr_fruits : Int32} {tr_worth : Nat → Int32} (h : wp_X3_fillWorths P p0 p1 p2 p3 tr_fruits tr_worth) (hq : P (F_X3_fillWorths p0 p1 p2 p3 tr_fruits tr_worth).1 (F_X3_fillWorths p0 p1 p2 p3 tr_fruits tr_worth).2 → Q (F_X3_fillWorths p0 p1 p2 p3 tr_fruits tr_worth).1 (F_X3_fillWorths p0 p1 p2 p3 tr_fruits tr_worth).2) : wp_X3_fillWorths Q p0 p1 p2 p3 tr_fruits tr_worth := dt_X3_fillWorths h (fun o eo => by rw [eo]; exact hq)
noncomputable def F_X9_sheet (p0 : Int32) (p1 : Int32) (p2 : Int32) (p3 : Int32) (tr_fruits : Int32) (tr_worth : Nat → Int32) : Int32 × (Nat → Int32) := if p0 < 0 then ((-1), tr_worth) else (if 3 < p0 then ((-1), tr_worth) else (if p1 ≤ 16 then (if p0 = 3 then ((-3), (F_X3_fillWorths 2 0 0 0 tr_fruits tr_worth).2) else (if 0 ≤ p1 then ((F_X3_fillWorths p0 p1 p2 p3 tr_fruits tr_worth).1, (F_X3_fillWorths p0 p1 p2 p3 tr_fruits tr_worth).2) else ((-2), tr_worth))) else ((-1), tr_worth)))
set_option maxHeartbeats 200000 in
set_option maxRecDepth 10000 in
theorem dt_X9_sheet {P Q : Int32 → (Nat → Int32) → Prop} {p0 : Int32} {p1 : Int32} {p2 : Int32} {p3 : Int32} {tr_fruits : Int32} {tr_worth : Nat → Int32} (h : wp_X9_sheet P p0 p1 p2 p3 tr_fruits tr_worth) (hq : ∀ o : Int32 × (Nat → Int32), o = F_X9_sheet p0 p1 p2 p3 tr_fruits tr_worth → P o.1 o.2 → Q o.1 o.2) : wp_X9_sheet Q p0 p1 p2 p3 tr_fruits tr_worth := by
  rw [F_X9_sheet] at hq
  refine And.intro (fun c1 => ?_) (fun c1 => ?_)
  · have h := And.left h c1
    rw [if_pos c1] at hq
    have q9 := hq _ rfl
    dsimp only at q9
    exact q9 h
  · have h := And.right h c1
    rw [if_neg c1] at hq
    refine And.intro (fun c2 => ?_) (fun c2 => ?_)
    · have h := And.left h c2
      rw [if_pos c2] at hq
      have q9 := hq _ rfl
      dsimp only at q9
      exact q9 h
    · have h := And.right h c2
      rw [if_neg c2] at hq
      refine And.intro (fun c3 => ?_) (fun c3 => ?_)
      · have h := And.left h c3
        rw [if_pos c3] at hq
        refine And.intro (fun c4 => ?_) (fun c4 => ?_)
        · have h := And.left h c4
          rw [if_neg c4] at hq
          refine And.intro (fun c5 => ?_) (fun c5 => ?_)
          · have h := And.left h c5
            rw [if_pos c5] at hq
            refine du_X3_fillWorths h ?_
            intro h
            have q9 := hq _ rfl
            dsimp only at q9
            exact q9 h
          · have h := And.right h c5
            rw [if_neg c5] at hq
            have q9 := hq _ rfl
            dsimp only at q9
            exact q9 h
        · have h := And.right h c4
          rw [if_pos c4] at hq
          refine du_X3_fillWorths h ?_
          intro h
          have q9 := hq _ rfl
          dsimp only at q9
          exact q9 h
      · have h := And.right h c3
        rw [if_neg c3] at hq
        have q9 := hq _ rfl
        dsimp only at q9
        exact q9 h
theorem du_X9_sheet {P Q : Int32 → (Nat → Int32) → Prop} {p0 : Int32} {p1 : Int32} {p2 : Int32} {p3 : Int32} {tr_fruits : Int32} {tr_worth : Nat → Int32} (h : wp_X9_sheet P p0 p1 p2 p3 tr_fruits tr_worth) (hq : P (F_X9_sheet p0 p1 p2 p3 tr_fruits tr_worth).1 (F_X9_sheet p0 p1 p2 p3 tr_fruits tr_worth).2 → Q (F_X9_sheet p0 p1 p2 p3 tr_fruits tr_worth).1 (F_X9_sheet p0 p1 p2 p3 tr_fruits tr_worth).2) : wp_X9_sheet Q p0 p1 p2 p3 tr_fruits tr_worth := dt_X9_sheet h (fun o eo => by rw [eo]; exact hq)
theorem dw_X9_sheet {Q : Int32 → (Nat → Int32) → Prop} {p0 : Int32} {p1 : Int32} {p2 : Int32} {p3 : Int32} {tr_fruits : Int32} {tr_worth : Nat → Int32} (h : wp_X9_sheet (fun o0 o1 => (o0, o1) = F_X9_sheet p0 p1 p2 p3 tr_fruits tr_worth → Q o0 o1) p0 p1 p2 p3 tr_fruits tr_worth) : wp_X9_sheet Q p0 p1 p2 p3 tr_fruits tr_worth := dt_X9_sheet h (fun o eo hp => hp eo)
noncomputable def j_X10_sheet_109 {R : Type} (k43 : Int32 → Int32 → Int32 → Int32 → Int32 → Int32 → Int32 → (Nat → Int32) → R) (m_fruits : Int32) (x1 : Int32) (x2 : Int32) (x4 : Int32) (x5 : Int32) (x6 : Int32) (x7 : Int32) (k1 : Int32) (k2 : Int32) (m_thrown : Int32) (m_worth : Nat → Int32) : R := k43 x1 x2 x4 (x5 + ((upd m_worth k1.toNatClampNeg k2) x7.toNatClampNeg)) (x6 + x4) (x7 + 1) m_thrown (upd m_worth k1.toNatClampNeg k2)
noncomputable def j_X10_sheet_94 {R : Type} (k43 : Int32 → Int32 → Int32 → Int32 → Int32 → Int32 → Int32 → (Nat → Int32) → R) (m_fruits : Int32) (x1 : Int32) (x2 : Int32) (x4 : Int32) (x5 : Int32) (x6 : Int32) (x7 : Int32) (k1 : Int32) (m_thrown : Int32) (m_worth : Nat → Int32) : R := j_X10_sheet_109 k43 m_fruits x1 x2 x4 x5 x6 x7 k1 0 m_thrown m_worth
noncomputable def j_X10_sheet_75 {R : Type} (k43 : Int32 → Int32 → Int32 → Int32 → Int32 → Int32 → Int32 → (Nat → Int32) → R) (m_fruits : Int32) (x1 : Int32) (x2 : Int32) (x4 : Int32) (x5 : Int32) (x6 : Int32) (x7 : Int32) (k0 : Int32) (m_thrown : Int32) (m_worth : Nat → Int32) : R := if x1 = 3 then (j_X10_sheet_94 k43 m_fruits x1 x2 x4 x5 x6 x7 x7 m_thrown m_worth) else (if x7 < x2 then (j_X10_sheet_109 k43 m_fruits x1 x2 x4 x5 x6 x7 x7 (if 0 < (if k0 < 9 then k0 else 9) then (if k0 < 9 then k0 else 9) else 0) m_thrown m_worth) else (j_X10_sheet_94 k43 m_fruits x1 x2 x4 x5 x6 x7 x7 m_thrown m_worth))
noncomputable def bd_X10_sheet_43 (m_fruits : Int32) (x1 : Int32) (x2 : Int32) (x4 : Int32) (m_thrown : Int32) (c : Int32) (s : Int32 × Int32 × (Nat → Int32)) : Int32 × Int32 × (Nat → Int32) := if x1 = 0 then (j_X10_sheet_75 (fun q0 q1 q2 q3 q4 q5 q6 q7 => (q3, q4, q7)) m_fruits x1 x2 x4 s.1 s.2.1 c s.2.1.toInt8.toInt32 m_thrown s.2.2) else (if x1 = 1 then (j_X10_sheet_75 (fun q0 q1 q2 q3 q4 q5 q6 q7 => (q3, q4, q7)) m_fruits x1 x2 x4 s.1 s.2.1 c s.2.1.toInt16.toInt32 m_thrown s.2.2) else (j_X10_sheet_75 (fun q0 q1 q2 q3 q4 q5 q6 q7 => (q3, q4, q7)) m_fruits x1 x2 x4 s.1 s.2.1 c s.2.1 m_thrown s.2.2))
noncomputable def ex_X10_sheet_43 {R : Type} (po : Int32 → Int32 → (Nat → Int32) → R) (m_fruits : Int32) (x1 : Int32) (x2 : Int32) (x4 : Int32) (m_thrown : Int32) (c : Int32) (s : Int32 × Int32 × (Nat → Int32)) : R := if x1 = 3 then (po (-3) m_thrown s.2.2) else (po s.1 m_thrown s.2.2)
set_option maxHeartbeats 200000 in
set_option maxRecDepth 10000 in
theorem dl_X10_sheet_43 {P Q : Int32 → Int32 → (Nat → Int32) → Prop} {m_fruits : Int32} {x1 : Int32} {x2 : Int32} {x4 : Int32} {m_thrown : Int32} {a : Int32 × Int32 × (Nat → Int32)} {i : Nat} (hi0 : i < 2147483648) (hE : ∀ (c : Int32) (s : Int32 × Int32 × (Nat → Int32)), c = nI (i + (Int32.toInt m_fruits - ((i : Nat) : Int)).toNat) → s = itr (bd_X10_sheet_43 m_fruits x1 x2 x4 m_thrown) a i (Int32.toInt m_fruits - ((i : Nat) : Int)).toNat → ((¬ x1 = 3 → P s.1 m_thrown s.2.2) ∧ (x1 = 3 → P (-3) m_thrown s.2.2)) → ((¬ x1 = 3 → Q s.1 m_thrown s.2.2) ∧ (x1 = 3 → Q (-3) m_thrown s.2.2))) : ∀ (n k : Nat) (c : Int32), c = nI (i + k) → k ≤ (Int32.toInt m_fruits - ((i : Nat) : Int)).toNat → wb_X10_sheet_43 P m_fruits n x1 x2 x4 (itr (bd_X10_sheet_43 m_fruits x1 x2 x4 m_thrown) a i k).1 (itr (bd_X10_sheet_43 m_fruits x1 x2 x4 m_thrown) a i k).2.1 c m_thrown (itr (bd_X10_sheet_43 m_fruits x1 x2 x4 m_thrown) a i k).2.2 → wb_X10_sheet_43 Q m_fruits n x1 x2 x4 (itr (bd_X10_sheet_43 m_fruits x1 x2 x4 m_thrown) a i k).1 (itr (bd_X10_sheet_43 m_fruits x1 x2 x4 m_thrown) a i k).2.1 c m_thrown (itr (bd_X10_sheet_43 m_fruits x1 x2 x4 m_thrown) a i k).2.2 := by
  intro n
  induction n with
  | zero => intro k c hc hk h; exact False.elim h
  | succ n ih =>
    intro k c hc hk h
    have hr := tp_r m_fruits
    have hi : Int32.toInt c = ((i + k : Nat) : Int) := by rw [hc]; exact nI_toInt (by omega)
    refine And.intro (fun t0 => ?_) (fun t0 => ?_)
    · have h := And.left h t0
      have t1 := (fa_le _ _).mp t0
      have hk2 : k = (Int32.toInt m_fruits - ((i : Nat) : Int)).toNat := by omega
      subst hk2
      exact hE _ _ hc rfl h
    · have h := And.right h t0
      have t1 := mt (fa_le _ _).mpr t0
      have hs : ∀ o : Int32 × Int32 × (Nat → Int32), o = itr (bd_X10_sheet_43 m_fruits x1 x2 x4 m_thrown) a i (k + 1) → wb_X10_sheet_43 P m_fruits n x1 x2 x4 o.1 o.2.1 (c + 1) m_thrown o.2.2 → wb_X10_sheet_43 Q m_fruits n x1 x2 x4 o.1 o.2.1 (c + 1) m_thrown o.2.2 := by
        intro o eo h9
        have q := ih (k + 1) (c + 1) (by rw [hc]; exact nI_1 _) (by omega)
        rw [← eo] at q
        exact q h9
      rw [itr_s, ← hc, bd_X10_sheet_43] at hs
      refine And.intro (fun c1 => ?_) (fun c1 => ?_)
      · have h := And.left h c1
        rw [if_neg c1] at hs
        refine And.intro (fun c2 => ?_) (fun c2 => ?_)
        · have h := And.left h c2
          rw [if_neg c2] at hs
          rw [j_X10_sheet_75] at hs
          unfold ws_X10_sheet_75 at h ⊢
          refine And.intro (fun c3 => ?_) (fun c3 => ?_)
          · have h := And.left h c3
            rw [if_pos c3] at hs
            rw [j_X10_sheet_94] at hs
            unfold ws_X10_sheet_94 at h ⊢
            rw [j_X10_sheet_109] at hs
            unfold ws_X10_sheet_109 at h ⊢
            refine And.intro (And.left h) ?_
            have h := And.right h
            refine And.intro (And.left h) ?_
            have h := And.right h
            refine ae ?_
            have h := h _ rfl
            refine ae ?_
            have h := h _ rfl
            refine ae ?_
            have h := h _ rfl
            have q9 := hs _ rfl
            dsimp only at q9
            exact q9 h
          · have h := And.right h c3
            rw [if_neg c3] at hs
            refine And.intro (fun c4 => ?_) (fun c4 => ?_)
            · have h := And.left h c4
              rw [if_pos c4] at hs
              refine ae ?_
              have h := h _ rfl
              refine ae ?_
              have h := h _ rfl
              rw [j_X10_sheet_109] at hs
              unfold ws_X10_sheet_109 at h ⊢
              refine And.intro (And.left h) ?_
              have h := And.right h
              refine And.intro (And.left h) ?_
              have h := And.right h
              refine ae ?_
              have h := h _ rfl
              refine ae ?_
              have h := h _ rfl
              refine ae ?_
              have h := h _ rfl
              have q9 := hs _ rfl
              dsimp only at q9
              exact q9 h
            · have h := And.right h c4
              rw [if_neg c4] at hs
              rw [j_X10_sheet_94] at hs
              unfold ws_X10_sheet_94 at h ⊢
              rw [j_X10_sheet_109] at hs
              unfold ws_X10_sheet_109 at h ⊢
              refine And.intro (And.left h) ?_
              have h := And.right h
              refine And.intro (And.left h) ?_
              have h := And.right h
              refine ae ?_
              have h := h _ rfl
              refine ae ?_
              have h := h _ rfl
              refine ae ?_
              have h := h _ rfl
              have q9 := hs _ rfl
              dsimp only at q9
              exact q9 h
        · have h := And.right h c2
          rw [if_pos c2] at hs
          refine ae ?_
          have h := h _ rfl
          rw [j_X10_sheet_75] at hs
          unfold ws_X10_sheet_75 at h ⊢
          refine And.intro (fun c5 => ?_) (fun c5 => ?_)
          · have h := And.left h c5
            rw [if_pos c5] at hs
            rw [j_X10_sheet_94] at hs
            unfold ws_X10_sheet_94 at h ⊢
            rw [j_X10_sheet_109] at hs
            unfold ws_X10_sheet_109 at h ⊢
            refine And.intro (And.left h) ?_
            have h := And.right h
            refine And.intro (And.left h) ?_
            have h := And.right h
            refine ae ?_
            have h := h _ rfl
            refine ae ?_
            have h := h _ rfl
            refine ae ?_
            have h := h _ rfl
            have q9 := hs _ rfl
            dsimp only at q9
            exact q9 h
          · have h := And.right h c5
            rw [if_neg c5] at hs
            refine And.intro (fun c6 => ?_) (fun c6 => ?_)
            · have h := And.left h c6
              rw [if_pos c6] at hs
              refine ae ?_
              have h := h _ rfl
              refine ae ?_
              have h := h _ rfl
              rw [j_X10_sheet_109] at hs
              unfold ws_X10_sheet_109 at h ⊢
              refine And.intro (And.left h) ?_
              have h := And.right h
              refine And.intro (And.left h) ?_
              have h := And.right h
              refine ae ?_
              have h := h _ rfl
              refine ae ?_
              have h := h _ rfl
              refine ae ?_
              have h := h _ rfl
              have q9 := hs _ rfl
              dsimp only at q9
              exact q9 h
            · have h := And.right h c6
              rw [if_neg c6] at hs
              rw [j_X10_sheet_94] at hs
              unfold ws_X10_sheet_94 at h ⊢
              rw [j_X10_sheet_109] at hs
              unfold ws_X10_sheet_109 at h ⊢
              refine And.intro (And.left h) ?_
              have h := And.right h
              refine And.intro (And.left h) ?_
              have h := And.right h
              refine ae ?_
              have h := h _ rfl
              refine ae ?_
              have h := h _ rfl
              refine ae ?_
              have h := h _ rfl
              have q9 := hs _ rfl
              dsimp only at q9
              exact q9 h
      · have h := And.right h c1
        rw [if_pos c1] at hs
        refine ae ?_
        have h := h _ rfl
        rw [j_X10_sheet_75] at hs
        unfold ws_X10_sheet_75 at h ⊢
        refine And.intro (fun c7 => ?_) (fun c7 => ?_)
        · have h := And.left h c7
          rw [if_pos c7] at hs
          rw [j_X10_sheet_94] at hs
          unfold ws_X10_sheet_94 at h ⊢
          rw [j_X10_sheet_109] at hs
          unfold ws_X10_sheet_109 at h ⊢
          refine And.intro (And.left h) ?_
          have h := And.right h
          refine And.intro (And.left h) ?_
          have h := And.right h
          refine ae ?_
          have h := h _ rfl
          refine ae ?_
          have h := h _ rfl
          refine ae ?_
          have h := h _ rfl
          have q9 := hs _ rfl
          dsimp only at q9
          exact q9 h
        · have h := And.right h c7
          rw [if_neg c7] at hs
          refine And.intro (fun c8 => ?_) (fun c8 => ?_)
          · have h := And.left h c8
            rw [if_pos c8] at hs
            refine ae ?_
            have h := h _ rfl
            refine ae ?_
            have h := h _ rfl
            rw [j_X10_sheet_109] at hs
            unfold ws_X10_sheet_109 at h ⊢
            refine And.intro (And.left h) ?_
            have h := And.right h
            refine And.intro (And.left h) ?_
            have h := And.right h
            refine ae ?_
            have h := h _ rfl
            refine ae ?_
            have h := h _ rfl
            refine ae ?_
            have h := h _ rfl
            have q9 := hs _ rfl
            dsimp only at q9
            exact q9 h
          · have h := And.right h c8
            rw [if_neg c8] at hs
            rw [j_X10_sheet_94] at hs
            unfold ws_X10_sheet_94 at h ⊢
            rw [j_X10_sheet_109] at hs
            unfold ws_X10_sheet_109 at h ⊢
            refine And.intro (And.left h) ?_
            have h := And.right h
            refine And.intro (And.left h) ?_
            have h := And.right h
            refine ae ?_
            have h := h _ rfl
            refine ae ?_
            have h := h _ rfl
            refine ae ?_
            have h := h _ rfl
            have q9 := hs _ rfl
            dsimp only at q9
            exact q9 h
noncomputable def j_X10_sheet_34 {R : Type} (po : Int32 → Int32 → (Nat → Int32) → R) (m_fruits : Int32) (x1 : Int32) (x2 : Int32) (x3 : Int32) (x4 : Int32) (m_thrown : Int32) (m_worth : Nat → Int32) : R := ex_X10_sheet_43 po m_fruits x1 x2 x4 m_thrown (nI (0 + (Int32.toInt m_fruits - ((0 : Nat) : Int)).toNat)) (itr (bd_X10_sheet_43 m_fruits x1 x2 x4 m_thrown) (0, x3, m_worth) 0 (Int32.toInt m_fruits - ((0 : Nat) : Int)).toNat)
noncomputable def F_X10_sheet (p0 : Int32) (p1 : Int32) (p2 : Int32) (p3 : Int32) (m_fruits : Int32) (m_thrown : Int32) (m_worth : Nat → Int32) : Int32 × Int32 × (Nat → Int32) := if (F_X10_in p0 0 3) = 0 then ((-1), 0, m_worth) else (if p1 ≤ 16 then (if 3 ≤ p0 then (j_X10_sheet_34 (fun o0 o1 o2 => (o0, o1, o2)) m_fruits p0 p1 p2 p3 0 m_worth) else (if 0 ≤ p1 then (j_X10_sheet_34 (fun o0 o1 o2 => (o0, o1, o2)) m_fruits p0 p1 p2 p3 0 m_worth) else ((-2), 0, m_worth))) else ((-1), 0, m_worth))
set_option maxHeartbeats 200000 in
set_option maxRecDepth 10000 in
theorem dt_X10_sheet {P Q : Int32 → Int32 → (Nat → Int32) → Prop} {p0 : Int32} {p1 : Int32} {p2 : Int32} {p3 : Int32} {m_fruits : Int32} {m_thrown : Int32} {m_worth : Nat → Int32} (h : wp_X10_sheet P p0 p1 p2 p3 m_fruits m_thrown m_worth) (hq : ∀ o : Int32 × Int32 × (Nat → Int32), o = F_X10_sheet p0 p1 p2 p3 m_fruits m_thrown m_worth → P o.1 o.2.1 o.2.2 → Q o.1 o.2.1 o.2.2) : wp_X10_sheet Q p0 p1 p2 p3 m_fruits m_thrown m_worth := by
  rw [F_X10_sheet] at hq
  refine du_X10_in h ?_
  intro h
  refine And.intro (fun c1 => ?_) (fun c1 => ?_)
  · have h := And.left h c1
    rw [if_pos c1] at hq
    have q9 := hq _ rfl
    dsimp only at q9
    exact q9 h
  · have h := And.right h c1
    rw [if_neg c1] at hq
    refine And.intro (fun c2 => ?_) (fun c2 => ?_)
    · have h := And.left h c2
      rw [if_pos c2] at hq
      refine And.intro (fun c3 => ?_) (fun c3 => ?_)
      · have h := And.left h c3
        rw [if_pos c3] at hq
        rw [j_X10_sheet_34] at hq
        unfold ws_X10_sheet_34 at h ⊢
        obtain ⟨n4, h⟩ := h
        refine ⟨n4, dl_X10_sheet_43 (a := (0, p2, m_worth)) (i := 0) (by decide) ?_ n4 0 0 (by decide) (Nat.zero_le _) h⟩
        intro cc5 s6 ec7 es8 h
        rw [← ec7, ← es8, ex_X10_sheet_43] at hq
        refine And.intro (fun c9 => ?_) (fun c9 => ?_)
        · have h := And.left h c9
          rw [if_neg c9] at hq
          have q9 := hq _ rfl
          dsimp only at q9
          exact q9 h
        · have h := And.right h c9
          rw [if_pos c9] at hq
          have q9 := hq _ rfl
          dsimp only at q9
          exact q9 h
      · have h := And.right h c3
        rw [if_neg c3] at hq
        refine And.intro (fun c10 => ?_) (fun c10 => ?_)
        · have h := And.left h c10
          rw [if_pos c10] at hq
          rw [j_X10_sheet_34] at hq
          unfold ws_X10_sheet_34 at h ⊢
          obtain ⟨n11, h⟩ := h
          refine ⟨n11, dl_X10_sheet_43 (a := (0, p2, m_worth)) (i := 0) (by decide) ?_ n11 0 0 (by decide) (Nat.zero_le _) h⟩
          intro cc12 s13 ec14 es15 h
          rw [← ec14, ← es15, ex_X10_sheet_43] at hq
          refine And.intro (fun c16 => ?_) (fun c16 => ?_)
          · have h := And.left h c16
            rw [if_neg c16] at hq
            have q9 := hq _ rfl
            dsimp only at q9
            exact q9 h
          · have h := And.right h c16
            rw [if_pos c16] at hq
            have q9 := hq _ rfl
            dsimp only at q9
            exact q9 h
        · have h := And.right h c10
          rw [if_neg c10] at hq
          have q9 := hq _ rfl
          dsimp only at q9
          exact q9 h
    · have h := And.right h c2
      rw [if_neg c2] at hq
      have q9 := hq _ rfl
      dsimp only at q9
      exact q9 h
theorem du_X10_sheet {P Q : Int32 → Int32 → (Nat → Int32) → Prop} {p0 : Int32} {p1 : Int32} {p2 : Int32} {p3 : Int32} {m_fruits : Int32} {m_thrown : Int32} {m_worth : Nat → Int32} (h : wp_X10_sheet P p0 p1 p2 p3 m_fruits m_thrown m_worth) (hq : P (F_X10_sheet p0 p1 p2 p3 m_fruits m_thrown m_worth).1 (F_X10_sheet p0 p1 p2 p3 m_fruits m_thrown m_worth).2.1 (F_X10_sheet p0 p1 p2 p3 m_fruits m_thrown m_worth).2.2 → Q (F_X10_sheet p0 p1 p2 p3 m_fruits m_thrown m_worth).1 (F_X10_sheet p0 p1 p2 p3 m_fruits m_thrown m_worth).2.1 (F_X10_sheet p0 p1 p2 p3 m_fruits m_thrown m_worth).2.2) : wp_X10_sheet Q p0 p1 p2 p3 m_fruits m_thrown m_worth := dt_X10_sheet h (fun o eo => by rw [eo]; exact hq)
theorem dw_X10_sheet {Q : Int32 → Int32 → (Nat → Int32) → Prop} {p0 : Int32} {p1 : Int32} {p2 : Int32} {p3 : Int32} {m_fruits : Int32} {m_thrown : Int32} {m_worth : Nat → Int32} (h : wp_X10_sheet (fun o0 o1 o2 => (o0, o1, o2) = F_X10_sheet p0 p1 p2 p3 m_fruits m_thrown m_worth → Q o0 o1 o2) p0 p1 p2 p3 m_fruits m_thrown m_worth) : wp_X10_sheet Q p0 p1 p2 p3 m_fruits m_thrown m_worth := dt_X10_sheet h (fun o eo hp => hp eo)
noncomputable def j_X3_standingsAt_37 {R : Type} (k5 : Int32 → Int32 → Int32 → Int32 → R) (tr_standings : Int32) (tr_foot : Nat → Int32) (x1 : Int32) (x2 : Int32) (x3 : Int32) (x4 : Int32) : R := k5 x1 x2 x3 (x4 + 1)
noncomputable def bd_X3_standingsAt_5 (tr_standings : Int32) (tr_foot : Nat → Int32) (x1 : Int32) (x2 : Int32) (c : Int32) (s : Int32) : Int32 := if x2 < (if 0 ≤ ((tr_foot c.toNatClampNeg) - x1) then ((tr_foot c.toNatClampNeg) - x1) else 0 - ((tr_foot c.toNatClampNeg) - x1)) then (j_X3_standingsAt_37 (fun q0 q1 q2 q3 => q2) tr_standings tr_foot x1 x2 s c) else (j_X3_standingsAt_37 (fun q0 q1 q2 q3 => q2) tr_standings tr_foot x1 x2 (s ||| (1 <<< (c &&& 31))) c)
noncomputable def ex_X3_standingsAt_5 {R : Type} (po : Int32 → R) (tr_standings : Int32) (tr_foot : Nat → Int32) (x1 : Int32) (x2 : Int32) (c : Int32) (s : Int32) : R := po s
set_option maxHeartbeats 200000 in
set_option maxRecDepth 10000 in
theorem dl_X3_standingsAt_5 {P Q : Int32 → Prop} {tr_standings : Int32} {tr_foot : Nat → Int32} {x1 : Int32} {x2 : Int32} {a : Int32} {i : Nat} (hi0 : i < 2147483648) (hE : ∀ (c : Int32) (s : Int32), c = nI (i + (Int32.toInt tr_standings - ((i : Nat) : Int)).toNat) → s = itr (bd_X3_standingsAt_5 tr_standings tr_foot x1 x2) a i (Int32.toInt tr_standings - ((i : Nat) : Int)).toNat → (P s) → (Q s)) : ∀ (n k : Nat) (c : Int32), c = nI (i + k) → k ≤ (Int32.toInt tr_standings - ((i : Nat) : Int)).toNat → wb_X3_standingsAt_5 P tr_standings tr_foot n x1 x2 (itr (bd_X3_standingsAt_5 tr_standings tr_foot x1 x2) a i k) c → wb_X3_standingsAt_5 Q tr_standings tr_foot n x1 x2 (itr (bd_X3_standingsAt_5 tr_standings tr_foot x1 x2) a i k) c := by
  intro n
  induction n with
  | zero => intro k c hc hk h; exact False.elim h
  | succ n ih =>
    intro k c hc hk h
    have hr := tp_r tr_standings
    have hi : Int32.toInt c = ((i + k : Nat) : Int) := by rw [hc]; exact nI_toInt (by omega)
    refine And.intro (fun t0 => ?_) (fun t0 => ?_)
    · have h := And.left h t0
      have t1 := (fa_le _ _).mp t0
      have hk2 : k = (Int32.toInt tr_standings - ((i : Nat) : Int)).toNat := by omega
      subst hk2
      exact hE _ _ hc rfl h
    · have h := And.right h t0
      have t1 := mt (fa_le _ _).mpr t0
      have hs : ∀ o : Int32, o = itr (bd_X3_standingsAt_5 tr_standings tr_foot x1 x2) a i (k + 1) → wb_X3_standingsAt_5 P tr_standings tr_foot n x1 x2 o (c + 1) → wb_X3_standingsAt_5 Q tr_standings tr_foot n x1 x2 o (c + 1) := by
        intro o eo h9
        have q := ih (k + 1) (c + 1) (by rw [hc]; exact nI_1 _) (by omega)
        rw [← eo] at q
        exact q h9
      rw [itr_s, ← hc, bd_X3_standingsAt_5] at hs
      refine And.intro (And.left h) ?_
      have h := And.right h
      refine ae ?_
      have h := h _ rfl
      refine ae ?_
      have h := h _ rfl
      refine ae ?_
      have h := h _ rfl
      refine And.intro (fun c1 => ?_) (fun c1 => ?_)
      · have h := And.left h c1
        rw [if_pos c1] at hs
        rw [j_X3_standingsAt_37] at hs
        unfold ws_X3_standingsAt_37 at h ⊢
        refine ae ?_
        have h := h _ rfl
        have q9 := hs _ rfl
        exact q9 h
      · have h := And.right h c1
        rw [if_neg c1] at hs
        refine ae ?_
        have h := h _ rfl
        rw [j_X3_standingsAt_37] at hs
        unfold ws_X3_standingsAt_37 at h ⊢
        refine ae ?_
        have h := h _ rfl
        have q9 := hs _ rfl
        exact q9 h
noncomputable def F_X3_standingsAt (p0 : Int32) (p1 : Int32) (tr_standings : Int32) (tr_foot : Nat → Int32) : Int32 := ex_X3_standingsAt_5 (fun o0 => o0) tr_standings tr_foot p0 p1 (nI (0 + (Int32.toInt tr_standings - ((0 : Nat) : Int)).toNat)) (itr (bd_X3_standingsAt_5 tr_standings tr_foot p0 p1) 0 0 (Int32.toInt tr_standings - ((0 : Nat) : Int)).toNat)
set_option maxHeartbeats 200000 in
set_option maxRecDepth 10000 in
theorem dt_X3_standingsAt {P Q : Int32 → Prop} {p0 : Int32} {p1 : Int32} {tr_standings : Int32} {tr_foot : Nat → Int32} (h : wp_X3_standingsAt P p0 p1 tr_standings tr_foot) (hq : ∀ o : Int32, o = F_X3_standingsAt p0 p1 tr_standings tr_foot → P o → Q o) : wp_X3_standingsAt Q p0 p1 tr_standings tr_foot := by
  rw [F_X3_standingsAt] at hq
  obtain ⟨n1, h⟩ := h
  refine ⟨n1, dl_X3_standingsAt_5 (a := 0) (i := 0) (by decide) ?_ n1 0 0 (by decide) (Nat.zero_le _) h⟩
  intro cc2 s3 ec4 es5 h
  rw [← ec4, ← es5, ex_X3_standingsAt_5] at hq
  have q9 := hq _ rfl
  exact q9 h
theorem du_X3_standingsAt {P Q : Int32 → Prop} {p0 : Int32} {p1 : Int32} {tr_standings : Int32} {tr_foot : Nat → Int32} (h : wp_X3_standingsAt P p0 p1 tr_standings tr_foot) (hq : P (F_X3_standingsAt p0 p1 tr_standings tr_foot) → Q (F_X3_standingsAt p0 p1 tr_standings tr_foot)) : wp_X3_standingsAt Q p0 p1 tr_standings tr_foot := dt_X3_standingsAt h (fun o eo => by rw [eo]; exact hq)
noncomputable def F_X9_marks (p0 : Int32) (p1 : Int32) (tr_standings : Int32) (tr_foot : Nat → Int32) : Int32 := if p0 < 0 then (-1) else (if 99 < p0 then (-1) else (if p1 < 0 then (-1) else (if p1 ≤ 99 then (F_X3_standingsAt p0 p1 tr_standings tr_foot) else (-1))))
set_option maxHeartbeats 200000 in
set_option maxRecDepth 10000 in
theorem dt_X9_marks {P Q : Int32 → Prop} {p0 : Int32} {p1 : Int32} {tr_standings : Int32} {tr_foot : Nat → Int32} (h : wp_X9_marks P p0 p1 tr_standings tr_foot) (hq : ∀ o : Int32, o = F_X9_marks p0 p1 tr_standings tr_foot → P o → Q o) : wp_X9_marks Q p0 p1 tr_standings tr_foot := by
  rw [F_X9_marks] at hq
  refine And.intro (fun c1 => ?_) (fun c1 => ?_)
  · have h := And.left h c1
    rw [if_pos c1] at hq
    have q9 := hq _ rfl
    exact q9 h
  · have h := And.right h c1
    rw [if_neg c1] at hq
    refine And.intro (fun c2 => ?_) (fun c2 => ?_)
    · have h := And.left h c2
      rw [if_pos c2] at hq
      have q9 := hq _ rfl
      exact q9 h
    · have h := And.right h c2
      rw [if_neg c2] at hq
      refine And.intro (fun c3 => ?_) (fun c3 => ?_)
      · have h := And.left h c3
        rw [if_pos c3] at hq
        have q9 := hq _ rfl
        exact q9 h
      · have h := And.right h c3
        rw [if_neg c3] at hq
        refine And.intro (fun c4 => ?_) (fun c4 => ?_)
        · have h := And.left h c4
          rw [if_pos c4] at hq
          refine du_X3_standingsAt h ?_
          intro h
          have q9 := hq _ rfl
          exact q9 h
        · have h := And.right h c4
          rw [if_neg c4] at hq
          have q9 := hq _ rfl
          exact q9 h
theorem du_X9_marks {P Q : Int32 → Prop} {p0 : Int32} {p1 : Int32} {tr_standings : Int32} {tr_foot : Nat → Int32} (h : wp_X9_marks P p0 p1 tr_standings tr_foot) (hq : P (F_X9_marks p0 p1 tr_standings tr_foot) → Q (F_X9_marks p0 p1 tr_standings tr_foot)) : wp_X9_marks Q p0 p1 tr_standings tr_foot := dt_X9_marks h (fun o eo => by rw [eo]; exact hq)
theorem dw_X9_marks {Q : Int32 → Prop} {p0 : Int32} {p1 : Int32} {tr_standings : Int32} {tr_foot : Nat → Int32} (h : wp_X9_marks (fun o0 => o0 = F_X9_marks p0 p1 tr_standings tr_foot → Q o0) p0 p1 tr_standings tr_foot) : wp_X9_marks Q p0 p1 tr_standings tr_foot := dt_X9_marks h (fun o eo hp => hp eo)
noncomputable def j_X10_marks_66 {R : Type} (k32 : Int32 → Int32 → Int32 → Int32 → Int32 → R) (m_standings : Int32) (m_foot : Nat → Int32) (x1 : Int32) (x2 : Int32) (x4 : Int32) (k0 : Int32) (k1 : Int32) (m_thrown : Int32) : R := k32 x1 x2 (k0 ||| k1) (x4 + 1) m_thrown
noncomputable def bd_X10_marks_32 (m_standings : Int32) (m_foot : Nat → Int32) (x1 : Int32) (x2 : Int32) (m_thrown : Int32) (c : Int32) (s : Int32) : Int32 := if x2 < (if 0 ≤ ((m_foot c.toNatClampNeg) - x1) then ((m_foot c.toNatClampNeg) - x1) else 0 - ((m_foot c.toNatClampNeg) - x1)) then (j_X10_marks_66 (fun q0 q1 q2 q3 q4 => q2) m_standings m_foot x1 x2 c s 0 m_thrown) else (j_X10_marks_66 (fun q0 q1 q2 q3 q4 => q2) m_standings m_foot x1 x2 c s (1 <<< (c &&& 31)) m_thrown)
noncomputable def ex_X10_marks_32 {R : Type} (po : Int32 → Int32 → R) (m_standings : Int32) (m_foot : Nat → Int32) (x1 : Int32) (x2 : Int32) (m_thrown : Int32) (c : Int32) (s : Int32) : R := po s m_thrown
set_option maxHeartbeats 200000 in
set_option maxRecDepth 10000 in
theorem dl_X10_marks_32 {P Q : Int32 → Int32 → Prop} {m_standings : Int32} {m_foot : Nat → Int32} {x1 : Int32} {x2 : Int32} {m_thrown : Int32} {a : Int32} {i : Nat} (hi0 : i < 2147483648) (hE : ∀ (c : Int32) (s : Int32), c = nI (i + (Int32.toInt m_standings - ((i : Nat) : Int)).toNat) → s = itr (bd_X10_marks_32 m_standings m_foot x1 x2 m_thrown) a i (Int32.toInt m_standings - ((i : Nat) : Int)).toNat → (P s m_thrown) → (Q s m_thrown)) : ∀ (n k : Nat) (c : Int32), c = nI (i + k) → k ≤ (Int32.toInt m_standings - ((i : Nat) : Int)).toNat → wb_X10_marks_32 P m_standings m_foot n x1 x2 (itr (bd_X10_marks_32 m_standings m_foot x1 x2 m_thrown) a i k) c m_thrown → wb_X10_marks_32 Q m_standings m_foot n x1 x2 (itr (bd_X10_marks_32 m_standings m_foot x1 x2 m_thrown) a i k) c m_thrown := by
  intro n
  induction n with
  | zero => intro k c hc hk h; exact False.elim h
  | succ n ih =>
    intro k c hc hk h
    have hr := tp_r m_standings
    have hi : Int32.toInt c = ((i + k : Nat) : Int) := by rw [hc]; exact nI_toInt (by omega)
    refine And.intro (fun t0 => ?_) (fun t0 => ?_)
    · have h := And.left h t0
      have t1 := (fa_le _ _).mp t0
      have hk2 : k = (Int32.toInt m_standings - ((i : Nat) : Int)).toNat := by omega
      subst hk2
      exact hE _ _ hc rfl h
    · have h := And.right h t0
      have t1 := mt (fa_le _ _).mpr t0
      have hs : ∀ o : Int32, o = itr (bd_X10_marks_32 m_standings m_foot x1 x2 m_thrown) a i (k + 1) → wb_X10_marks_32 P m_standings m_foot n x1 x2 o (c + 1) m_thrown → wb_X10_marks_32 Q m_standings m_foot n x1 x2 o (c + 1) m_thrown := by
        intro o eo h9
        have q := ih (k + 1) (c + 1) (by rw [hc]; exact nI_1 _) (by omega)
        rw [← eo] at q
        exact q h9
      rw [itr_s, ← hc, bd_X10_marks_32] at hs
      refine And.intro (And.left h) ?_
      have h := And.right h
      refine ae ?_
      have h := h _ rfl
      refine ae ?_
      have h := h _ rfl
      refine ae ?_
      have h := h _ rfl
      refine And.intro (fun c1 => ?_) (fun c1 => ?_)
      · have h := And.left h c1
        rw [if_pos c1] at hs
        rw [j_X10_marks_66] at hs
        unfold ws_X10_marks_66 at h ⊢
        refine ae ?_
        have h := h _ rfl
        refine ae ?_
        have h := h _ rfl
        have q9 := hs _ rfl
        exact q9 h
      · have h := And.right h c1
        rw [if_neg c1] at hs
        refine ae ?_
        have h := h _ rfl
        rw [j_X10_marks_66] at hs
        unfold ws_X10_marks_66 at h ⊢
        refine ae ?_
        have h := h _ rfl
        refine ae ?_
        have h := h _ rfl
        have q9 := hs _ rfl
        exact q9 h
noncomputable def F_X10_marks (p0 : Int32) (p1 : Int32) (m_standings : Int32) (m_thrown : Int32) (m_foot : Nat → Int32) : Int32 × Int32 := if (F_X10_in p0 0 99) = 0 then ((-1), 0) else (if (F_X10_in p1 0 99) = 0 then ((-1), 0) else (ex_X10_marks_32 (fun o0 o1 => (o0, o1)) m_standings m_foot p0 p1 0 (nI (0 + (Int32.toInt m_standings - ((0 : Nat) : Int)).toNat)) (itr (bd_X10_marks_32 m_standings m_foot p0 p1 0) 0 0 (Int32.toInt m_standings - ((0 : Nat) : Int)).toNat)))
set_option maxHeartbeats 200000 in
set_option maxRecDepth 10000 in
theorem dt_X10_marks {P Q : Int32 → Int32 → Prop} {p0 : Int32} {p1 : Int32} {m_standings : Int32} {m_thrown : Int32} {m_foot : Nat → Int32} (h : wp_X10_marks P p0 p1 m_standings m_thrown m_foot) (hq : ∀ o : Int32 × Int32, o = F_X10_marks p0 p1 m_standings m_thrown m_foot → P o.1 o.2 → Q o.1 o.2) : wp_X10_marks Q p0 p1 m_standings m_thrown m_foot := by
  rw [F_X10_marks] at hq
  refine du_X10_in h ?_
  intro h
  refine And.intro (fun c1 => ?_) (fun c1 => ?_)
  · have h := And.left h c1
    rw [if_pos c1] at hq
    have q9 := hq _ rfl
    dsimp only at q9
    exact q9 h
  · have h := And.right h c1
    rw [if_neg c1] at hq
    refine du_X10_in h ?_
    intro h
    refine And.intro (fun c2 => ?_) (fun c2 => ?_)
    · have h := And.left h c2
      rw [if_neg c2] at hq
      obtain ⟨n3, h⟩ := h
      refine ⟨n3, dl_X10_marks_32 (a := 0) (i := 0) (by decide) ?_ n3 0 0 (by decide) (Nat.zero_le _) h⟩
      intro cc4 s5 ec6 es7 h
      rw [← ec6, ← es7, ex_X10_marks_32] at hq
      have q9 := hq _ rfl
      dsimp only at q9
      exact q9 h
    · have h := And.right h c2
      rw [if_pos c2] at hq
      have q9 := hq _ rfl
      dsimp only at q9
      exact q9 h
theorem du_X10_marks {P Q : Int32 → Int32 → Prop} {p0 : Int32} {p1 : Int32} {m_standings : Int32} {m_thrown : Int32} {m_foot : Nat → Int32} (h : wp_X10_marks P p0 p1 m_standings m_thrown m_foot) (hq : P (F_X10_marks p0 p1 m_standings m_thrown m_foot).1 (F_X10_marks p0 p1 m_standings m_thrown m_foot).2 → Q (F_X10_marks p0 p1 m_standings m_thrown m_foot).1 (F_X10_marks p0 p1 m_standings m_thrown m_foot).2) : wp_X10_marks Q p0 p1 m_standings m_thrown m_foot := dt_X10_marks h (fun o eo => by rw [eo]; exact hq)
theorem dw_X10_marks {Q : Int32 → Int32 → Prop} {p0 : Int32} {p1 : Int32} {m_standings : Int32} {m_thrown : Int32} {m_foot : Nat → Int32} (h : wp_X10_marks (fun o0 o1 => (o0, o1) = F_X10_marks p0 p1 m_standings m_thrown m_foot → Q o0 o1) p0 p1 m_standings m_thrown m_foot) : wp_X10_marks Q p0 p1 m_standings m_thrown m_foot := dt_X10_marks h (fun o eo hp => hp eo)
noncomputable def F_X3_hasStanding (p0 : Int32) (tr_standings : Int32) : Int32 := if p0 < 0 then 0 else (if tr_standings ≤ p0 then 0 else 1)
set_option maxHeartbeats 200000 in
set_option maxRecDepth 10000 in
theorem dt_X3_hasStanding {P Q : Int32 → Prop} {p0 : Int32} {tr_standings : Int32} (h : wp_X3_hasStanding P p0 tr_standings) (hq : ∀ o : Int32, o = F_X3_hasStanding p0 tr_standings → P o → Q o) : wp_X3_hasStanding Q p0 tr_standings := by
  rw [F_X3_hasStanding] at hq
  refine And.intro (fun c1 => ?_) (fun c1 => ?_)
  · have h := And.left h c1
    rw [if_pos c1] at hq
    have q9 := hq _ rfl
    exact q9 h
  · have h := And.right h c1
    rw [if_neg c1] at hq
    refine And.intro (fun c2 => ?_) (fun c2 => ?_)
    · have h := And.left h c2
      rw [if_pos c2] at hq
      have q9 := hq _ rfl
      exact q9 h
    · have h := And.right h c2
      rw [if_neg c2] at hq
      have q9 := hq _ rfl
      exact q9 h
theorem du_X3_hasStanding {P Q : Int32 → Prop} {p0 : Int32} {tr_standings : Int32} (h : wp_X3_hasStanding P p0 tr_standings) (hq : P (F_X3_hasStanding p0 tr_standings) → Q (F_X3_hasStanding p0 tr_standings)) : wp_X3_hasStanding Q p0 tr_standings := dt_X3_hasStanding h (fun o eo => by rw [eo]; exact hq)
noncomputable def F_X3_downSeconds (p0 : Int32) (tr_fork : Nat → Int32) : Int32 := (3 + (((tr_fork p0.toNatClampNeg) + 9) / 10))
set_option maxHeartbeats 200000 in
set_option maxRecDepth 10000 in
theorem dt_X3_downSeconds {P Q : Int32 → Prop} {p0 : Int32} {tr_fork : Nat → Int32} (h : wp_X3_downSeconds P p0 tr_fork) (hq : ∀ o : Int32, o = F_X3_downSeconds p0 tr_fork → P o → Q o) : wp_X3_downSeconds Q p0 tr_fork := by
  rw [F_X3_downSeconds] at hq
  refine And.intro (And.left h) ?_
  have h := And.right h
  refine ae ?_
  have h := h _ rfl
  refine ae ?_
  have h := h _ rfl
  have q9 := hq _ rfl
  exact q9 h
theorem du_X3_downSeconds {P Q : Int32 → Prop} {p0 : Int32} {tr_fork : Nat → Int32} (h : wp_X3_downSeconds P p0 tr_fork) (hq : P (F_X3_downSeconds p0 tr_fork) → Q (F_X3_downSeconds p0 tr_fork)) : wp_X3_downSeconds Q p0 tr_fork := dt_X3_downSeconds h (fun o eo => by rw [eo]; exact hq)
noncomputable def F_X9_standing (p0 : Int32) (p1 : Int32) (tr_standings : Int32) (tr_foot : Nat → Int32) (tr_fork : Nat → Int32) : Option Int32 := if (F_X3_hasStanding p0 tr_standings) = 0 then none else (if p1 = 0 then (some (tr_foot p0.toNatClampNeg)) else (if p1 = 1 then (some (tr_fork p0.toNatClampNeg)) else (if p1 = 2 then (some (F_X3_downSeconds p0 tr_fork)) else none)))
set_option maxHeartbeats 200000 in
set_option maxRecDepth 10000 in
theorem dt_X9_standing {P Q : Int32 → Prop} {Px Qx : Prop} {p0 : Int32} {p1 : Int32} {tr_standings : Int32} {tr_foot : Nat → Int32} {tr_fork : Nat → Int32} (h : wp_X9_standing P Px p0 p1 tr_standings tr_foot tr_fork) (hq : ∀ o : Option Int32, o = F_X9_standing p0 p1 tr_standings tr_foot tr_fork → Option.elim o Px P → Option.elim o Qx Q) : wp_X9_standing Q Qx p0 p1 tr_standings tr_foot tr_fork := by
  rw [F_X9_standing] at hq
  refine du_X3_hasStanding h ?_
  intro h
  refine And.intro (fun c1 => ?_) (fun c1 => ?_)
  · have h := And.left h c1
    rw [if_neg c1] at hq
    refine (And.intro (fun c2 => ?_) (And.intro (fun c3 => ?_) (And.intro (fun c4 => ?_) (fun c2 c3 c4 => ?_))))
    · have h := And.left h c2
      rw [if_pos c2] at hq
      refine And.intro (And.left h) ?_
      have h := And.right h
      have q9 := hq _ rfl
      exact q9 h
    · have h := And.left (And.right h) c3
      rw [if_neg (fun e9 => absurd (e9.symm.trans c3) (by decide)), if_pos c3] at hq
      refine And.intro (And.left h) ?_
      have h := And.right h
      have q9 := hq _ rfl
      exact q9 h
    · have h := And.left (And.right (And.right h)) c4
      rw [if_neg (fun e9 => absurd (e9.symm.trans c4) (by decide)), if_neg (fun e9 => absurd (e9.symm.trans c4) (by decide)), if_pos c4] at hq
      refine du_X3_downSeconds h ?_
      intro h
      have q9 := hq _ rfl
      exact q9 h
    · have h := And.right (And.right (And.right h)) c2 c3 c4
      rw [if_neg c2, if_neg c3, if_neg c4] at hq
      have q9 := hq _ rfl
      exact q9 h
  · have h := And.right h c1
    rw [if_pos c1] at hq
    have q9 := hq _ rfl
    exact q9 h
noncomputable def F_X10_isStanding (p0 : Int32) (m_standings : Int32) : Int32 := (F_X10_in p0 0 (m_standings - 1))
set_option maxHeartbeats 200000 in
set_option maxRecDepth 10000 in
theorem dt_X10_isStanding {P Q : Int32 → Prop} {p0 : Int32} {m_standings : Int32} (h : wp_X10_isStanding P p0 m_standings) (hq : ∀ o : Int32, o = F_X10_isStanding p0 m_standings → P o → Q o) : wp_X10_isStanding Q p0 m_standings := by
  rw [F_X10_isStanding] at hq
  refine ae ?_
  have h := h _ rfl
  refine du_X10_in h ?_
  intro h
  refine And.intro (And.left h) ?_
  have h := And.right h
  have q9 := hq _ rfl
  exact q9 h
theorem du_X10_isStanding {P Q : Int32 → Prop} {p0 : Int32} {m_standings : Int32} (h : wp_X10_isStanding P p0 m_standings) (hq : P (F_X10_isStanding p0 m_standings) → Q (F_X10_isStanding p0 m_standings)) : wp_X10_isStanding Q p0 m_standings := dt_X10_isStanding h (fun o eo => by rw [eo]; exact hq)
theorem dw_X10_isStanding {Q : Int32 → Prop} {p0 : Int32} {m_standings : Int32} (h : wp_X10_isStanding (fun o0 => o0 = F_X10_isStanding p0 m_standings → Q o0) p0 m_standings) : wp_X10_isStanding Q p0 m_standings := dt_X10_isStanding h (fun o eo hp => hp eo)
noncomputable def F_X10_downOf (p0 : Int32) (m_fork : Nat → Int32) : Int32 := (3 + (((m_fork p0.toNatClampNeg) + 9) / 10))
set_option maxHeartbeats 200000 in
set_option maxRecDepth 10000 in
theorem dt_X10_downOf {P Q : Int32 → Prop} {p0 : Int32} {m_fork : Nat → Int32} (h : wp_X10_downOf P p0 m_fork) (hq : ∀ o : Int32, o = F_X10_downOf p0 m_fork → P o → Q o) : wp_X10_downOf Q p0 m_fork := by
  rw [F_X10_downOf] at hq
  refine And.intro (And.left h) ?_
  have h := And.right h
  refine ae ?_
  have h := h _ rfl
  refine ae ?_
  have h := h _ rfl
  have q9 := hq _ rfl
  exact q9 h
theorem du_X10_downOf {P Q : Int32 → Prop} {p0 : Int32} {m_fork : Nat → Int32} (h : wp_X10_downOf P p0 m_fork) (hq : P (F_X10_downOf p0 m_fork) → Q (F_X10_downOf p0 m_fork)) : wp_X10_downOf Q p0 m_fork := dt_X10_downOf h (fun o eo => by rw [eo]; exact hq)
theorem dw_X10_downOf {Q : Int32 → Prop} {p0 : Int32} {m_fork : Nat → Int32} (h : wp_X10_downOf (fun o0 => o0 = F_X10_downOf p0 m_fork → Q o0) p0 m_fork) : wp_X10_downOf Q p0 m_fork := dt_X10_downOf h (fun o eo hp => hp eo)
noncomputable def F_X10_lost (m_thrown : Int32) : Int32 × Int32 := (0, 1)
set_option maxHeartbeats 200000 in
set_option maxRecDepth 10000 in
theorem dt_X10_lost {P Q : Int32 → Int32 → Prop} {m_thrown : Int32} (h : wp_X10_lost P m_thrown) (hq : ∀ o : Int32 × Int32, o = F_X10_lost m_thrown → P o.1 o.2 → Q o.1 o.2) : wp_X10_lost Q m_thrown := by
  rw [F_X10_lost] at hq
  have q9 := hq _ rfl
  dsimp only at q9
  exact q9 h
theorem du_X10_lost {P Q : Int32 → Int32 → Prop} {m_thrown : Int32} (h : wp_X10_lost P m_thrown) (hq : P (F_X10_lost m_thrown).1 (F_X10_lost m_thrown).2 → Q (F_X10_lost m_thrown).1 (F_X10_lost m_thrown).2) : wp_X10_lost Q m_thrown := dt_X10_lost h (fun o eo => by rw [eo]; exact hq)
theorem dw_X10_lost {Q : Int32 → Int32 → Prop} {m_thrown : Int32} (h : wp_X10_lost (fun o0 o1 => (o0, o1) = F_X10_lost m_thrown → Q o0 o1) m_thrown) : wp_X10_lost Q m_thrown := dt_X10_lost h (fun o eo hp => hp eo)
noncomputable def j_X10_standing_22 {R : Type} (po : Int32 → Int32 → R) (m_standings : Int32) (m_foot : Nat → Int32) (m_fork : Nat → Int32) (m_thrown : Int32) : R := po ((F_X10_lost m_thrown).1) ((F_X10_lost m_thrown).2)
noncomputable def F_X10_standing (p0 : Int32) (p1 : Int32) (m_standings : Int32) (m_thrown : Int32) (m_foot : Nat → Int32) (m_fork : Nat → Int32) : Int32 × Int32 := if (F_X10_isStanding p0 m_standings) = 0 then (j_X10_standing_22 (fun o0 o1 => (o0, o1)) m_standings m_foot m_fork 0) else (if (F_X10_in p1 0 2) = 0 then (j_X10_standing_22 (fun o0 o1 => (o0, o1)) m_standings m_foot m_fork 0) else (if p1 = 0 then ((m_foot p0.toNatClampNeg), 0) else (if p1 = 1 then ((m_fork p0.toNatClampNeg), 0) else ((F_X10_downOf p0 m_fork), 0))))
set_option maxHeartbeats 200000 in
set_option maxRecDepth 10000 in
theorem dt_X10_standing {P Q : Int32 → Int32 → Prop} {p0 : Int32} {p1 : Int32} {m_standings : Int32} {m_thrown : Int32} {m_foot : Nat → Int32} {m_fork : Nat → Int32} (h : wp_X10_standing P p0 p1 m_standings m_thrown m_foot m_fork) (hq : ∀ o : Int32 × Int32, o = F_X10_standing p0 p1 m_standings m_thrown m_foot m_fork → P o.1 o.2 → Q o.1 o.2) : wp_X10_standing Q p0 p1 m_standings m_thrown m_foot m_fork := by
  rw [F_X10_standing] at hq
  refine du_X10_isStanding h ?_
  intro h
  refine And.intro (fun c1 => ?_) (fun c1 => ?_)
  · have h := And.left h c1
    rw [if_pos c1] at hq
    rw [j_X10_standing_22] at hq
    unfold ws_X10_standing_22 at h ⊢
    refine du_X10_lost h ?_
    intro h
    have q9 := hq _ rfl
    dsimp only at q9
    exact q9 h
  · have h := And.right h c1
    rw [if_neg c1] at hq
    refine du_X10_in h ?_
    intro h
    refine And.intro (fun c2 => ?_) (fun c2 => ?_)
    · have h := And.left h c2
      rw [if_neg c2] at hq
      refine And.intro (fun c3 => ?_) (fun c3 => ?_)
      · have h := And.left h c3
        rw [if_neg c3] at hq
        refine And.intro (fun c4 => ?_) (fun c4 => ?_)
        · have h := And.left h c4
          rw [if_neg c4] at hq
          refine du_X10_downOf h ?_
          intro h
          have q9 := hq _ rfl
          dsimp only at q9
          exact q9 h
        · have h := And.right h c4
          rw [if_pos c4] at hq
          refine And.intro (And.left h) ?_
          have h := And.right h
          refine ae ?_
          have h := h _ rfl
          have q9 := hq _ rfl
          dsimp only at q9
          exact q9 h
      · have h := And.right h c3
        rw [if_pos c3] at hq
        refine And.intro (And.left h) ?_
        have h := And.right h
        refine ae ?_
        have h := h _ rfl
        have q9 := hq _ rfl
        dsimp only at q9
        exact q9 h
    · have h := And.right h c2
      rw [if_pos c2] at hq
      rw [j_X10_standing_22] at hq
      unfold ws_X10_standing_22 at h ⊢
      refine du_X10_lost h ?_
      intro h
      have q9 := hq _ rfl
      dsimp only at q9
      exact q9 h
theorem du_X10_standing {P Q : Int32 → Int32 → Prop} {p0 : Int32} {p1 : Int32} {m_standings : Int32} {m_thrown : Int32} {m_foot : Nat → Int32} {m_fork : Nat → Int32} (h : wp_X10_standing P p0 p1 m_standings m_thrown m_foot m_fork) (hq : P (F_X10_standing p0 p1 m_standings m_thrown m_foot m_fork).1 (F_X10_standing p0 p1 m_standings m_thrown m_foot m_fork).2 → Q (F_X10_standing p0 p1 m_standings m_thrown m_foot m_fork).1 (F_X10_standing p0 p1 m_standings m_thrown m_foot m_fork).2) : wp_X10_standing Q p0 p1 m_standings m_thrown m_foot m_fork := dt_X10_standing h (fun o eo => by rw [eo]; exact hq)
theorem dw_X10_standing {Q : Int32 → Int32 → Prop} {p0 : Int32} {p1 : Int32} {m_standings : Int32} {m_thrown : Int32} {m_foot : Nat → Int32} {m_fork : Nat → Int32} (h : wp_X10_standing (fun o0 o1 => (o0, o1) = F_X10_standing p0 p1 m_standings m_thrown m_foot m_fork → Q o0 o1) p0 p1 m_standings m_thrown m_foot m_fork) : wp_X10_standing Q p0 p1 m_standings m_thrown m_foot m_fork := dt_X10_standing h (fun o eo hp => hp eo)
noncomputable def F_X3_hasFruit (p0 : Int32) (tr_fruits : Int32) : Int32 := if p0 < 0 then 0 else (if tr_fruits ≤ p0 then 0 else 1)
set_option maxHeartbeats 200000 in
set_option maxRecDepth 10000 in
theorem dt_X3_hasFruit {P Q : Int32 → Prop} {p0 : Int32} {tr_fruits : Int32} (h : wp_X3_hasFruit P p0 tr_fruits) (hq : ∀ o : Int32, o = F_X3_hasFruit p0 tr_fruits → P o → Q o) : wp_X3_hasFruit Q p0 tr_fruits := by
  rw [F_X3_hasFruit] at hq
  refine And.intro (fun c1 => ?_) (fun c1 => ?_)
  · have h := And.left h c1
    rw [if_pos c1] at hq
    have q9 := hq _ rfl
    exact q9 h
  · have h := And.right h c1
    rw [if_neg c1] at hq
    refine And.intro (fun c2 => ?_) (fun c2 => ?_)
    · have h := And.left h c2
      rw [if_pos c2] at hq
      have q9 := hq _ rfl
      exact q9 h
    · have h := And.right h c2
      rw [if_neg c2] at hq
      have q9 := hq _ rfl
      exact q9 h
theorem du_X3_hasFruit {P Q : Int32 → Prop} {p0 : Int32} {tr_fruits : Int32} (h : wp_X3_hasFruit P p0 tr_fruits) (hq : P (F_X3_hasFruit p0 tr_fruits) → Q (F_X3_hasFruit p0 tr_fruits)) : wp_X3_hasFruit Q p0 tr_fruits := dt_X3_hasFruit h (fun o eo => by rw [eo]; exact hq)
noncomputable def F_X3_aside (p0 : Int32) (p1 : Int32) (tr_x : Nat → Int32) (tr_foot : Nat → Int32) : Int32 := if (tr_x p0.toNatClampNeg) ≤ (tr_foot p1.toNatClampNeg) then ((tr_foot p1.toNatClampNeg) - (tr_x p0.toNatClampNeg)) else ((tr_x p0.toNatClampNeg) - (tr_foot p1.toNatClampNeg))
set_option maxHeartbeats 200000 in
set_option maxRecDepth 10000 in
theorem dt_X3_aside {P Q : Int32 → Prop} {p0 : Int32} {p1 : Int32} {tr_x : Nat → Int32} {tr_foot : Nat → Int32} (h : wp_X3_aside P p0 p1 tr_x tr_foot) (hq : ∀ o : Int32, o = F_X3_aside p0 p1 tr_x tr_foot → P o → Q o) : wp_X3_aside Q p0 p1 tr_x tr_foot := by
  rw [F_X3_aside] at hq
  refine And.intro (And.left h) ?_
  have h := And.right h
  refine ae ?_
  have h := h _ rfl
  refine And.intro (And.left h) ?_
  have h := And.right h
  refine And.intro (fun c1 => ?_) (fun c1 => ?_)
  · have h := And.left h c1
    rw [if_pos c1] at hq
    refine And.intro (And.left h) ?_
    have h := And.right h
    refine ae ?_
    have h := h _ rfl
    refine And.intro (And.left h) ?_
    have h := And.right h
    have q9 := hq _ rfl
    exact q9 h
  · have h := And.right h c1
    rw [if_neg c1] at hq
    refine And.intro (And.left h) ?_
    have h := And.right h
    refine ae ?_
    have h := h _ rfl
    refine And.intro (And.left h) ?_
    have h := And.right h
    refine ae ?_
    have h := h _ rfl
    have q9 := hq _ rfl
    exact q9 h
theorem du_X3_aside {P Q : Int32 → Prop} {p0 : Int32} {p1 : Int32} {tr_x : Nat → Int32} {tr_foot : Nat → Int32} (h : wp_X3_aside P p0 p1 tr_x tr_foot) (hq : P (F_X3_aside p0 p1 tr_x tr_foot) → Q (F_X3_aside p0 p1 tr_x tr_foot)) : wp_X3_aside Q p0 p1 tr_x tr_foot := dt_X3_aside h (fun o eo => by rw [eo]; exact hq)
noncomputable def F_X3_above (p0 : Int32) (p1 : Int32) (tr_height : Nat → Int32) (tr_fork : Nat → Int32) : Int32 := if (tr_height p0.toNatClampNeg) ≤ (tr_fork p1.toNatClampNeg) then 0 else ((tr_height p0.toNatClampNeg) - (tr_fork p1.toNatClampNeg))
set_option maxHeartbeats 200000 in
set_option maxRecDepth 10000 in
theorem dt_X3_above {P Q : Int32 → Prop} {p0 : Int32} {p1 : Int32} {tr_height : Nat → Int32} {tr_fork : Nat → Int32} (h : wp_X3_above P p0 p1 tr_height tr_fork) (hq : ∀ o : Int32, o = F_X3_above p0 p1 tr_height tr_fork → P o → Q o) : wp_X3_above Q p0 p1 tr_height tr_fork := by
  rw [F_X3_above] at hq
  refine And.intro (And.left h) ?_
  have h := And.right h
  refine ae ?_
  have h := h _ rfl
  refine And.intro (And.left h) ?_
  have h := And.right h
  refine And.intro (fun c1 => ?_) (fun c1 => ?_)
  · have h := And.left h c1
    rw [if_pos c1] at hq
    have q9 := hq _ rfl
    exact q9 h
  · have h := And.right h c1
    rw [if_neg c1] at hq
    refine And.intro (And.left h) ?_
    have h := And.right h
    refine ae ?_
    have h := h _ rfl
    refine And.intro (And.left h) ?_
    have h := And.right h
    refine ae ?_
    have h := h _ rfl
    have q9 := hq _ rfl
    exact q9 h
theorem du_X3_above {P Q : Int32 → Prop} {p0 : Int32} {p1 : Int32} {tr_height : Nat → Int32} {tr_fork : Nat → Int32} (h : wp_X3_above P p0 p1 tr_height tr_fork) (hq : P (F_X3_above p0 p1 tr_height tr_fork) → Q (F_X3_above p0 p1 tr_height tr_fork)) : wp_X3_above Q p0 p1 tr_height tr_fork := dt_X3_above h (fun o eo => by rw [eo]; exact hq)
noncomputable def F_X3_isWithin (p0 : Int32) (p1 : Int32) (p2 : Int32) (tr_x : Nat → Int32) (tr_height : Nat → Int32) (tr_foot : Nat → Int32) (tr_fork : Nat → Int32) : Int32 := if (p2 * p2) < (((F_X3_aside p0 p1 tr_x tr_foot) * (F_X3_aside p0 p1 tr_x tr_foot)) + ((F_X3_above p0 p1 tr_height tr_fork) * (F_X3_above p0 p1 tr_height tr_fork))) then 0 else 1
set_option maxHeartbeats 200000 in
set_option maxRecDepth 10000 in
theorem dt_X3_isWithin {P Q : Int32 → Prop} {p0 : Int32} {p1 : Int32} {p2 : Int32} {tr_x : Nat → Int32} {tr_height : Nat → Int32} {tr_foot : Nat → Int32} {tr_fork : Nat → Int32} (h : wp_X3_isWithin P p0 p1 p2 tr_x tr_height tr_foot tr_fork) (hq : ∀ o : Int32, o = F_X3_isWithin p0 p1 p2 tr_x tr_height tr_foot tr_fork → P o → Q o) : wp_X3_isWithin Q p0 p1 p2 tr_x tr_height tr_foot tr_fork := by
  rw [F_X3_isWithin] at hq
  refine du_X3_aside h ?_
  intro h
  refine du_X3_above h ?_
  intro h
  refine ae ?_
  have h := h _ rfl
  refine ae ?_
  have h := h _ rfl
  refine And.intro (fun c1 => ?_) (fun c1 => ?_)
  · have h := And.left h c1
    rw [if_pos c1] at hq
    have q9 := hq _ rfl
    exact q9 h
  · have h := And.right h c1
    rw [if_neg c1] at hq
    have q9 := hq _ rfl
    exact q9 h
theorem du_X3_isWithin {P Q : Int32 → Prop} {p0 : Int32} {p1 : Int32} {p2 : Int32} {tr_x : Nat → Int32} {tr_height : Nat → Int32} {tr_foot : Nat → Int32} {tr_fork : Nat → Int32} (h : wp_X3_isWithin P p0 p1 p2 tr_x tr_height tr_foot tr_fork) (hq : P (F_X3_isWithin p0 p1 p2 tr_x tr_height tr_foot tr_fork) → Q (F_X3_isWithin p0 p1 p2 tr_x tr_height tr_foot tr_fork)) : wp_X3_isWithin Q p0 p1 p2 tr_x tr_height tr_foot tr_fork := dt_X3_isWithin h (fun o eo => by rw [eo]; exact hq)
noncomputable def fs_X3_leanNeeded_2 {R : Type} (po : Int32 → R) (tr_x : Nat → Int32) (tr_height : Nat → Int32) (tr_foot : Nat → Int32) (tr_fork : Nat → Int32) (tr_settings : Nat → Int32) (nx : Int32 → Int32 → Int32 → R) (x1 : Int32) (x2 : Int32) (x3 : Int32) : R := if 30 < x3 then (po (-2)) else (if (F_X3_isWithin x1 x2 ((tr_settings (0 : Int32).toNatClampNeg) + x3) tr_x tr_height tr_foot tr_fork) = 0 then (nx x1 x2 (x3 + 1)) else (po x3))
set_option maxHeartbeats 200000 in
set_option maxRecDepth 10000 in
theorem dl_X3_leanNeeded_2 {P Q : Int32 → Prop} {tr_x : Nat → Int32} {tr_height : Nat → Int32} {tr_foot : Nat → Int32} {tr_fork : Nat → Int32} {tr_settings : Nat → Int32} {R : Type} {po : Int32 → R} {d : Int32 → Int32 → Int32 → R} : ∀ (n m : Nat) (x1 : Int32) (x2 : Int32) (x3 : Int32), 0 ≤ Int32.toInt x3 ∧ Int32.toInt x3 ≤ 31 → 31 - Int32.toInt x3 < (m : Int) → wb_X3_leanNeeded_2 P tr_x tr_height tr_foot tr_fork tr_settings n x1 x2 x3 → (∀ (b0 : Int32), po b0 = flp (fs_X3_leanNeeded_2 po tr_x tr_height tr_foot tr_fork tr_settings) d m x1 x2 x3 → P b0 → Q b0) → wb_X3_leanNeeded_2 Q tr_x tr_height tr_foot tr_fork tr_settings n x1 x2 x3 := by
  have l1 : Int32.toInt (1 : Int32) = 1 := by decide
  have l30 : Int32.toInt (30 : Int32) = 30 := by decide
  intro n
  induction n with
  | zero => intro m x1 x2 x3 hv hm h hq; exact False.elim h
  | succ n ih =>
    intro m x1 x2 x3 hv hm h hq
    cases m with
    | zero => exfalso; omega
    | succ m =>
      rw [flp_s, fs_X3_leanNeeded_2] at hq
      have h : ws_X3_leanNeeded_2 P (wb_X3_leanNeeded_2 P tr_x tr_height tr_foot tr_fork tr_settings n) tr_x tr_height tr_foot tr_fork tr_settings x1 x2 x3 := h
      show ws_X3_leanNeeded_2 Q (wb_X3_leanNeeded_2 Q tr_x tr_height tr_foot tr_fork tr_settings n) tr_x tr_height tr_foot tr_fork tr_settings x1 x2 x3
      unfold ws_X3_leanNeeded_2 at h ⊢
      refine And.intro (fun c1 => ?_) (fun c1 => ?_)
      · have h := And.left h c1
        rw [if_pos c1] at hq
        have dc1 := (fa_lt _ _).mp c1
        exact hq _ rfl h
      · have h := And.right h c1
        rw [if_neg c1] at hq
        have dc1 := mt (fa_lt _ _).mpr c1
        refine ae ?_
        have h := h _ rfl
        refine ae ?_
        have h := h _ rfl
        refine du_X3_isWithin h ?_
        intro h
        refine And.intro (fun c2 => ?_) (fun c2 => ?_)
        · have h := And.left h c2
          rw [if_pos c2] at hq
          have dc2 := (fa_eq _ _).mp c2
          refine ae ?_
          have h := h _ rfl
          have f9 := ta_add x3 1 (by omega)
          exact ih m _ _ _ (by omega) (by omega) h hq
        · have h := And.right h c2
          rw [if_neg c2] at hq
          have dc2 := mt (fa_eq _ _).mpr c2
          exact hq _ rfl h
noncomputable def F_X3_leanNeeded (p0 : Int32) (p1 : Int32) (tr_x : Nat → Int32) (tr_height : Nat → Int32) (tr_foot : Nat → Int32) (tr_fork : Nat → Int32) (tr_settings : Nat → Int32) : Int32 := flp (fs_X3_leanNeeded_2 (fun o0 => o0) tr_x tr_height tr_foot tr_fork tr_settings) (fun _ _ _ => 0) 32 p0 p1 0
set_option maxHeartbeats 200000 in
set_option maxRecDepth 10000 in
theorem dt_X3_leanNeeded {P Q : Int32 → Prop} {p0 : Int32} {p1 : Int32} {tr_x : Nat → Int32} {tr_height : Nat → Int32} {tr_foot : Nat → Int32} {tr_fork : Nat → Int32} {tr_settings : Nat → Int32} (h : wp_X3_leanNeeded P p0 p1 tr_x tr_height tr_foot tr_fork tr_settings) (hq : ∀ o : Int32, o = F_X3_leanNeeded p0 p1 tr_x tr_height tr_foot tr_fork tr_settings → P o → Q o) : wp_X3_leanNeeded Q p0 p1 tr_x tr_height tr_foot tr_fork tr_settings := by
  rw [F_X3_leanNeeded] at hq
  obtain ⟨n1, h⟩ := h
  exact ⟨n1, dl_X3_leanNeeded_2 n1 32 _ _ _ (by decide) (by decide) h (fun b0 e9 h9 => hq b0 e9 h9)⟩
theorem du_X3_leanNeeded {P Q : Int32 → Prop} {p0 : Int32} {p1 : Int32} {tr_x : Nat → Int32} {tr_height : Nat → Int32} {tr_foot : Nat → Int32} {tr_fork : Nat → Int32} {tr_settings : Nat → Int32} (h : wp_X3_leanNeeded P p0 p1 tr_x tr_height tr_foot tr_fork tr_settings) (hq : P (F_X3_leanNeeded p0 p1 tr_x tr_height tr_foot tr_fork tr_settings) → Q (F_X3_leanNeeded p0 p1 tr_x tr_height tr_foot tr_fork tr_settings)) : wp_X3_leanNeeded Q p0 p1 tr_x tr_height tr_foot tr_fork tr_settings := dt_X3_leanNeeded h (fun o eo => by rw [eo]; exact hq)
noncomputable def F_X9_leaned (p0 : Int32) (p1 : Int32) (tr_fruits : Int32) (tr_standings : Int32) (tr_x : Nat → Int32) (tr_height : Nat → Int32) (tr_foot : Nat → Int32) (tr_fork : Nat → Int32) (tr_settings : Nat → Int32) : Int32 := if (F_X3_hasFruit p0 tr_fruits) = 0 then (-1) else (if (F_X3_hasStanding p1 tr_standings) = 0 then (-1) else (F_X3_leanNeeded p0 p1 tr_x tr_height tr_foot tr_fork tr_settings))
set_option maxHeartbeats 200000 in
set_option maxRecDepth 10000 in
theorem dt_X9_leaned {P Q : Int32 → Prop} {p0 : Int32} {p1 : Int32} {tr_fruits : Int32} {tr_standings : Int32} {tr_x : Nat → Int32} {tr_height : Nat → Int32} {tr_foot : Nat → Int32} {tr_fork : Nat → Int32} {tr_settings : Nat → Int32} (h : wp_X9_leaned P p0 p1 tr_fruits tr_standings tr_x tr_height tr_foot tr_fork tr_settings) (hq : ∀ o : Int32, o = F_X9_leaned p0 p1 tr_fruits tr_standings tr_x tr_height tr_foot tr_fork tr_settings → P o → Q o) : wp_X9_leaned Q p0 p1 tr_fruits tr_standings tr_x tr_height tr_foot tr_fork tr_settings := by
  rw [F_X9_leaned] at hq
  refine du_X3_hasFruit h ?_
  intro h
  refine And.intro (fun c1 => ?_) (fun c1 => ?_)
  · have h := And.left h c1
    rw [if_pos c1] at hq
    have q9 := hq _ rfl
    exact q9 h
  · have h := And.right h c1
    rw [if_neg c1] at hq
    refine du_X3_hasStanding h ?_
    intro h
    refine And.intro (fun c2 => ?_) (fun c2 => ?_)
    · have h := And.left h c2
      rw [if_neg c2] at hq
      refine du_X3_leanNeeded h ?_
      intro h
      have q9 := hq _ rfl
      exact q9 h
    · have h := And.right h c2
      rw [if_pos c2] at hq
      have q9 := hq _ rfl
      exact q9 h
theorem du_X9_leaned {P Q : Int32 → Prop} {p0 : Int32} {p1 : Int32} {tr_fruits : Int32} {tr_standings : Int32} {tr_x : Nat → Int32} {tr_height : Nat → Int32} {tr_foot : Nat → Int32} {tr_fork : Nat → Int32} {tr_settings : Nat → Int32} (h : wp_X9_leaned P p0 p1 tr_fruits tr_standings tr_x tr_height tr_foot tr_fork tr_settings) (hq : P (F_X9_leaned p0 p1 tr_fruits tr_standings tr_x tr_height tr_foot tr_fork tr_settings) → Q (F_X9_leaned p0 p1 tr_fruits tr_standings tr_x tr_height tr_foot tr_fork tr_settings)) : wp_X9_leaned Q p0 p1 tr_fruits tr_standings tr_x tr_height tr_foot tr_fork tr_settings := dt_X9_leaned h (fun o eo => by rw [eo]; exact hq)
theorem dw_X9_leaned {Q : Int32 → Prop} {p0 : Int32} {p1 : Int32} {tr_fruits : Int32} {tr_standings : Int32} {tr_x : Nat → Int32} {tr_height : Nat → Int32} {tr_foot : Nat → Int32} {tr_fork : Nat → Int32} {tr_settings : Nat → Int32} (h : wp_X9_leaned (fun o0 => o0 = F_X9_leaned p0 p1 tr_fruits tr_standings tr_x tr_height tr_foot tr_fork tr_settings → Q o0) p0 p1 tr_fruits tr_standings tr_x tr_height tr_foot tr_fork tr_settings) : wp_X9_leaned Q p0 p1 tr_fruits tr_standings tr_x tr_height tr_foot tr_fork tr_settings := dt_X9_leaned h (fun o eo hp => hp eo)
noncomputable def F_X10_isFruit (p0 : Int32) (m_fruits : Int32) : Int32 := (F_X10_in p0 0 (m_fruits - 1))
set_option maxHeartbeats 200000 in
set_option maxRecDepth 10000 in
theorem dt_X10_isFruit {P Q : Int32 → Prop} {p0 : Int32} {m_fruits : Int32} (h : wp_X10_isFruit P p0 m_fruits) (hq : ∀ o : Int32, o = F_X10_isFruit p0 m_fruits → P o → Q o) : wp_X10_isFruit Q p0 m_fruits := by
  rw [F_X10_isFruit] at hq
  refine ae ?_
  have h := h _ rfl
  refine du_X10_in h ?_
  intro h
  refine And.intro (And.left h) ?_
  have h := And.right h
  have q9 := hq _ rfl
  exact q9 h
theorem du_X10_isFruit {P Q : Int32 → Prop} {p0 : Int32} {m_fruits : Int32} (h : wp_X10_isFruit P p0 m_fruits) (hq : P (F_X10_isFruit p0 m_fruits) → Q (F_X10_isFruit p0 m_fruits)) : wp_X10_isFruit Q p0 m_fruits := dt_X10_isFruit h (fun o eo => by rw [eo]; exact hq)
theorem dw_X10_isFruit {Q : Int32 → Prop} {p0 : Int32} {m_fruits : Int32} (h : wp_X10_isFruit (fun o0 => o0 = F_X10_isFruit p0 m_fruits → Q o0) p0 m_fruits) : wp_X10_isFruit Q p0 m_fruits := dt_X10_isFruit h (fun o eo hp => hp eo)
noncomputable def F_X10_far (p0 : Int32) (p1 : Int32) (m_x : Nat → Int32) (m_foot : Nat → Int32) : Int32 := (if 0 ≤ ((m_x p0.toNatClampNeg) - (m_foot p1.toNatClampNeg)) then ((m_x p0.toNatClampNeg) - (m_foot p1.toNatClampNeg)) else 0 - ((m_x p0.toNatClampNeg) - (m_foot p1.toNatClampNeg)))
set_option maxHeartbeats 200000 in
set_option maxRecDepth 10000 in
theorem dt_X10_far {P Q : Int32 → Prop} {p0 : Int32} {p1 : Int32} {m_x : Nat → Int32} {m_foot : Nat → Int32} (h : wp_X10_far P p0 p1 m_x m_foot) (hq : ∀ o : Int32, o = F_X10_far p0 p1 m_x m_foot → P o → Q o) : wp_X10_far Q p0 p1 m_x m_foot := by
  rw [F_X10_far] at hq
  refine And.intro (And.left h) ?_
  have h := And.right h
  refine ae ?_
  have h := h _ rfl
  refine And.intro (And.left h) ?_
  have h := And.right h
  refine ae ?_
  have h := h _ rfl
  refine ae ?_
  have h := h _ rfl
  have q9 := hq _ rfl
  exact q9 h
theorem du_X10_far {P Q : Int32 → Prop} {p0 : Int32} {p1 : Int32} {m_x : Nat → Int32} {m_foot : Nat → Int32} (h : wp_X10_far P p0 p1 m_x m_foot) (hq : P (F_X10_far p0 p1 m_x m_foot) → Q (F_X10_far p0 p1 m_x m_foot)) : wp_X10_far Q p0 p1 m_x m_foot := dt_X10_far h (fun o eo => by rw [eo]; exact hq)
theorem dw_X10_far {Q : Int32 → Prop} {p0 : Int32} {p1 : Int32} {m_x : Nat → Int32} {m_foot : Nat → Int32} (h : wp_X10_far (fun o0 => o0 = F_X10_far p0 p1 m_x m_foot → Q o0) p0 p1 m_x m_foot) : wp_X10_far Q p0 p1 m_x m_foot := dt_X10_far h (fun o eo hp => hp eo)
noncomputable def F_X10_above (p0 : Int32) (p1 : Int32) (m_height : Nat → Int32) (m_fork : Nat → Int32) : Int32 := (if 0 < ((m_height p0.toNatClampNeg) - (m_fork p1.toNatClampNeg)) then ((m_height p0.toNatClampNeg) - (m_fork p1.toNatClampNeg)) else 0)
set_option maxHeartbeats 200000 in
set_option maxRecDepth 10000 in
theorem dt_X10_above {P Q : Int32 → Prop} {p0 : Int32} {p1 : Int32} {m_height : Nat → Int32} {m_fork : Nat → Int32} (h : wp_X10_above P p0 p1 m_height m_fork) (hq : ∀ o : Int32, o = F_X10_above p0 p1 m_height m_fork → P o → Q o) : wp_X10_above Q p0 p1 m_height m_fork := by
  rw [F_X10_above] at hq
  refine And.intro (And.left h) ?_
  have h := And.right h
  refine ae ?_
  have h := h _ rfl
  refine And.intro (And.left h) ?_
  have h := And.right h
  refine ae ?_
  have h := h _ rfl
  refine ae ?_
  have h := h _ rfl
  have q9 := hq _ rfl
  exact q9 h
theorem du_X10_above {P Q : Int32 → Prop} {p0 : Int32} {p1 : Int32} {m_height : Nat → Int32} {m_fork : Nat → Int32} (h : wp_X10_above P p0 p1 m_height m_fork) (hq : P (F_X10_above p0 p1 m_height m_fork) → Q (F_X10_above p0 p1 m_height m_fork)) : wp_X10_above Q p0 p1 m_height m_fork := dt_X10_above h (fun o eo => by rw [eo]; exact hq)
theorem dw_X10_above {Q : Int32 → Prop} {p0 : Int32} {p1 : Int32} {m_height : Nat → Int32} {m_fork : Nat → Int32} (h : wp_X10_above (fun o0 => o0 = F_X10_above p0 p1 m_height m_fork → Q o0) p0 p1 m_height m_fork) : wp_X10_above Q p0 p1 m_height m_fork := dt_X10_above h (fun o eo hp => hp eo)
noncomputable def F_X10_isWithin (p0 : Int32) (p1 : Int32) (p2 : Int32) (m_x : Nat → Int32) (m_height : Nat → Int32) (m_foot : Nat → Int32) (m_fork : Nat → Int32) : Int32 := if (p2 * p2) < (((F_X10_far p0 p1 m_x m_foot) * (F_X10_far p0 p1 m_x m_foot)) + ((F_X10_above p0 p1 m_height m_fork) * (F_X10_above p0 p1 m_height m_fork))) then 0 else 1
set_option maxHeartbeats 200000 in
set_option maxRecDepth 10000 in
theorem dt_X10_isWithin {P Q : Int32 → Prop} {p0 : Int32} {p1 : Int32} {p2 : Int32} {m_x : Nat → Int32} {m_height : Nat → Int32} {m_foot : Nat → Int32} {m_fork : Nat → Int32} (h : wp_X10_isWithin P p0 p1 p2 m_x m_height m_foot m_fork) (hq : ∀ o : Int32, o = F_X10_isWithin p0 p1 p2 m_x m_height m_foot m_fork → P o → Q o) : wp_X10_isWithin Q p0 p1 p2 m_x m_height m_foot m_fork := by
  rw [F_X10_isWithin] at hq
  refine du_X10_far h ?_
  intro h
  refine du_X10_far h ?_
  intro h
  refine ae ?_
  have h := h _ rfl
  refine du_X10_above h ?_
  intro h
  refine du_X10_above h ?_
  intro h
  refine ae ?_
  have h := h _ rfl
  refine And.intro (fun c1 => ?_) (fun c1 => ?_)
  · have h := And.left h c1
    rw [if_pos c1] at hq
    have q9 := hq _ rfl
    exact q9 h
  · have h := And.right h c1
    rw [if_neg c1] at hq
    have q9 := hq _ rfl
    exact q9 h
theorem du_X10_isWithin {P Q : Int32 → Prop} {p0 : Int32} {p1 : Int32} {p2 : Int32} {m_x : Nat → Int32} {m_height : Nat → Int32} {m_foot : Nat → Int32} {m_fork : Nat → Int32} (h : wp_X10_isWithin P p0 p1 p2 m_x m_height m_foot m_fork) (hq : P (F_X10_isWithin p0 p1 p2 m_x m_height m_foot m_fork) → Q (F_X10_isWithin p0 p1 p2 m_x m_height m_foot m_fork)) : wp_X10_isWithin Q p0 p1 p2 m_x m_height m_foot m_fork := dt_X10_isWithin h (fun o eo => by rw [eo]; exact hq)
theorem dw_X10_isWithin {Q : Int32 → Prop} {p0 : Int32} {p1 : Int32} {p2 : Int32} {m_x : Nat → Int32} {m_height : Nat → Int32} {m_foot : Nat → Int32} {m_fork : Nat → Int32} (h : wp_X10_isWithin (fun o0 => o0 = F_X10_isWithin p0 p1 p2 m_x m_height m_foot m_fork → Q o0) p0 p1 p2 m_x m_height m_foot m_fork) : wp_X10_isWithin Q p0 p1 p2 m_x m_height m_foot m_fork := dt_X10_isWithin h (fun o eo hp => hp eo)
noncomputable def fs_X10_leanOf_2 {R : Type} (po : Int32 → R) (m_x : Nat → Int32) (m_height : Nat → Int32) (m_foot : Nat → Int32) (m_fork : Nat → Int32) (m_told : Nat → Int32) (nx : Int32 → Int32 → Int32 → R) (x1 : Int32) (x2 : Int32) (x3 : Int32) : R := if 30 < x3 then (po x3) else (if (F_X10_isWithin x1 x2 ((m_told (0 : Int32).toNatClampNeg) + x3) m_x m_height m_foot m_fork) = 0 then (nx x1 x2 (x3 + 1)) else (po x3))
set_option maxHeartbeats 200000 in
set_option maxRecDepth 10000 in
theorem dl_X10_leanOf_2 {P Q : Int32 → Prop} {m_x : Nat → Int32} {m_height : Nat → Int32} {m_foot : Nat → Int32} {m_fork : Nat → Int32} {m_told : Nat → Int32} {R : Type} {po : Int32 → R} {d : Int32 → Int32 → Int32 → R} : ∀ (n m : Nat) (x1 : Int32) (x2 : Int32) (x3 : Int32), 0 ≤ Int32.toInt x3 ∧ Int32.toInt x3 ≤ 31 → 31 - Int32.toInt x3 < (m : Int) → wb_X10_leanOf_2 P m_x m_height m_foot m_fork m_told n x1 x2 x3 → (∀ (b0 : Int32), po b0 = flp (fs_X10_leanOf_2 po m_x m_height m_foot m_fork m_told) d m x1 x2 x3 → P b0 → Q b0) → wb_X10_leanOf_2 Q m_x m_height m_foot m_fork m_told n x1 x2 x3 := by
  have l1 : Int32.toInt (1 : Int32) = 1 := by decide
  have l30 : Int32.toInt (30 : Int32) = 30 := by decide
  intro n
  induction n with
  | zero => intro m x1 x2 x3 hv hm h hq; exact False.elim h
  | succ n ih =>
    intro m x1 x2 x3 hv hm h hq
    cases m with
    | zero => exfalso; omega
    | succ m =>
      rw [flp_s, fs_X10_leanOf_2] at hq
      have h : ws_X10_leanOf_2 P (wb_X10_leanOf_2 P m_x m_height m_foot m_fork m_told n) m_x m_height m_foot m_fork m_told x1 x2 x3 := h
      show ws_X10_leanOf_2 Q (wb_X10_leanOf_2 Q m_x m_height m_foot m_fork m_told n) m_x m_height m_foot m_fork m_told x1 x2 x3
      unfold ws_X10_leanOf_2 at h ⊢
      refine And.intro (fun c1 => ?_) (fun c1 => ?_)
      · have h := And.left h c1
        rw [if_pos c1] at hq
        have dc1 := (fa_lt _ _).mp c1
        exact hq _ rfl h
      · have h := And.right h c1
        rw [if_neg c1] at hq
        have dc1 := mt (fa_lt _ _).mpr c1
        refine ae ?_
        have h := h _ rfl
        refine ae ?_
        have h := h _ rfl
        refine du_X10_isWithin h ?_
        intro h
        refine And.intro (fun c2 => ?_) (fun c2 => ?_)
        · have h := And.left h c2
          rw [if_neg c2] at hq
          have dc2 := mt (fa_eq _ _).mpr c2
          exact hq _ rfl h
        · have h := And.right h c2
          rw [if_pos c2] at hq
          have dc2 := (fa_eq _ _).mp c2
          refine ae ?_
          have h := h _ rfl
          have f9 := ta_add x3 1 (by omega)
          exact ih m _ _ _ (by omega) (by omega) h hq
noncomputable def F_X10_leanOf (p0 : Int32) (p1 : Int32) (m_x : Nat → Int32) (m_height : Nat → Int32) (m_foot : Nat → Int32) (m_fork : Nat → Int32) (m_told : Nat → Int32) : Int32 := flp (fs_X10_leanOf_2 (fun o0 => o0) m_x m_height m_foot m_fork m_told) (fun _ _ _ => 0) 32 p0 p1 0
set_option maxHeartbeats 200000 in
set_option maxRecDepth 10000 in
theorem dt_X10_leanOf {P Q : Int32 → Prop} {p0 : Int32} {p1 : Int32} {m_x : Nat → Int32} {m_height : Nat → Int32} {m_foot : Nat → Int32} {m_fork : Nat → Int32} {m_told : Nat → Int32} (h : wp_X10_leanOf P p0 p1 m_x m_height m_foot m_fork m_told) (hq : ∀ o : Int32, o = F_X10_leanOf p0 p1 m_x m_height m_foot m_fork m_told → P o → Q o) : wp_X10_leanOf Q p0 p1 m_x m_height m_foot m_fork m_told := by
  rw [F_X10_leanOf] at hq
  obtain ⟨n1, h⟩ := h
  exact ⟨n1, dl_X10_leanOf_2 n1 32 _ _ _ (by decide) (by decide) h (fun b0 e9 h9 => hq b0 e9 h9)⟩
theorem du_X10_leanOf {P Q : Int32 → Prop} {p0 : Int32} {p1 : Int32} {m_x : Nat → Int32} {m_height : Nat → Int32} {m_foot : Nat → Int32} {m_fork : Nat → Int32} {m_told : Nat → Int32} (h : wp_X10_leanOf P p0 p1 m_x m_height m_foot m_fork m_told) (hq : P (F_X10_leanOf p0 p1 m_x m_height m_foot m_fork m_told) → Q (F_X10_leanOf p0 p1 m_x m_height m_foot m_fork m_told)) : wp_X10_leanOf Q p0 p1 m_x m_height m_foot m_fork m_told := dt_X10_leanOf h (fun o eo => by rw [eo]; exact hq)
theorem dw_X10_leanOf {Q : Int32 → Prop} {p0 : Int32} {p1 : Int32} {m_x : Nat → Int32} {m_height : Nat → Int32} {m_foot : Nat → Int32} {m_fork : Nat → Int32} {m_told : Nat → Int32} (h : wp_X10_leanOf (fun o0 => o0 = F_X10_leanOf p0 p1 m_x m_height m_foot m_fork m_told → Q o0) p0 p1 m_x m_height m_foot m_fork m_told) : wp_X10_leanOf Q p0 p1 m_x m_height m_foot m_fork m_told := dt_X10_leanOf h (fun o eo hp => hp eo)
noncomputable def F_X10_leaned (p0 : Int32) (p1 : Int32) (m_fruits : Int32) (m_standings : Int32) (m_thrown : Int32) (m_x : Nat → Int32) (m_height : Nat → Int32) (m_foot : Nat → Int32) (m_fork : Nat → Int32) (m_told : Nat → Int32) : Int32 × Int32 := if (F_X10_isFruit p0 m_fruits) = 0 then ((-1), 0) else (if (F_X10_isStanding p1 m_standings) = 0 then ((-1), 0) else (if (F_X10_leanOf p0 p1 m_x m_height m_foot m_fork m_told) ≤ 30 then ((F_X10_leanOf p0 p1 m_x m_height m_foot m_fork m_told), 0) else ((-2), 0)))
set_option maxHeartbeats 200000 in
set_option maxRecDepth 10000 in
theorem dt_X10_leaned {P Q : Int32 → Int32 → Prop} {p0 : Int32} {p1 : Int32} {m_fruits : Int32} {m_standings : Int32} {m_thrown : Int32} {m_x : Nat → Int32} {m_height : Nat → Int32} {m_foot : Nat → Int32} {m_fork : Nat → Int32} {m_told : Nat → Int32} (h : wp_X10_leaned P p0 p1 m_fruits m_standings m_thrown m_x m_height m_foot m_fork m_told) (hq : ∀ o : Int32 × Int32, o = F_X10_leaned p0 p1 m_fruits m_standings m_thrown m_x m_height m_foot m_fork m_told → P o.1 o.2 → Q o.1 o.2) : wp_X10_leaned Q p0 p1 m_fruits m_standings m_thrown m_x m_height m_foot m_fork m_told := by
  rw [F_X10_leaned] at hq
  refine du_X10_isFruit h ?_
  intro h
  refine And.intro (fun c1 => ?_) (fun c1 => ?_)
  · have h := And.left h c1
    rw [if_pos c1] at hq
    have q9 := hq _ rfl
    dsimp only at q9
    exact q9 h
  · have h := And.right h c1
    rw [if_neg c1] at hq
    refine du_X10_isStanding h ?_
    intro h
    refine And.intro (fun c2 => ?_) (fun c2 => ?_)
    · have h := And.left h c2
      rw [if_neg c2] at hq
      refine du_X10_leanOf h ?_
      intro h
      refine And.intro (fun c3 => ?_) (fun c3 => ?_)
      · have h := And.left h c3
        rw [if_pos c3] at hq
        have q9 := hq _ rfl
        dsimp only at q9
        exact q9 h
      · have h := And.right h c3
        rw [if_neg c3] at hq
        have q9 := hq _ rfl
        dsimp only at q9
        exact q9 h
    · have h := And.right h c2
      rw [if_pos c2] at hq
      have q9 := hq _ rfl
      dsimp only at q9
      exact q9 h
theorem du_X10_leaned {P Q : Int32 → Int32 → Prop} {p0 : Int32} {p1 : Int32} {m_fruits : Int32} {m_standings : Int32} {m_thrown : Int32} {m_x : Nat → Int32} {m_height : Nat → Int32} {m_foot : Nat → Int32} {m_fork : Nat → Int32} {m_told : Nat → Int32} (h : wp_X10_leaned P p0 p1 m_fruits m_standings m_thrown m_x m_height m_foot m_fork m_told) (hq : P (F_X10_leaned p0 p1 m_fruits m_standings m_thrown m_x m_height m_foot m_fork m_told).1 (F_X10_leaned p0 p1 m_fruits m_standings m_thrown m_x m_height m_foot m_fork m_told).2 → Q (F_X10_leaned p0 p1 m_fruits m_standings m_thrown m_x m_height m_foot m_fork m_told).1 (F_X10_leaned p0 p1 m_fruits m_standings m_thrown m_x m_height m_foot m_fork m_told).2) : wp_X10_leaned Q p0 p1 m_fruits m_standings m_thrown m_x m_height m_foot m_fork m_told := dt_X10_leaned h (fun o eo => by rw [eo]; exact hq)
theorem dw_X10_leaned {Q : Int32 → Int32 → Prop} {p0 : Int32} {p1 : Int32} {m_fruits : Int32} {m_standings : Int32} {m_thrown : Int32} {m_x : Nat → Int32} {m_height : Nat → Int32} {m_foot : Nat → Int32} {m_fork : Nat → Int32} {m_told : Nat → Int32} (h : wp_X10_leaned (fun o0 o1 => (o0, o1) = F_X10_leaned p0 p1 m_fruits m_standings m_thrown m_x m_height m_foot m_fork m_told → Q o0 o1) p0 p1 m_fruits m_standings m_thrown m_x m_height m_foot m_fork m_told) : wp_X10_leaned Q p0 p1 m_fruits m_standings m_thrown m_x m_height m_foot m_fork m_told := dt_X10_leaned h (fun o eo hp => hp eo)
noncomputable def F_X6_clear (ro_size : Int32) : Int32 := 0
set_option maxHeartbeats 200000 in
set_option maxRecDepth 10000 in
theorem dt_X6_clear {P Q : Int32 → Prop} {ro_size : Int32} (h : wp_X6_clear P ro_size) (hq : ∀ o : Int32, o = F_X6_clear ro_size → P o → Q o) : wp_X6_clear Q ro_size := by
  rw [F_X6_clear] at hq
  have q9 := hq _ rfl
  exact q9 h
theorem du_X6_clear {P Q : Int32 → Prop} {ro_size : Int32} (h : wp_X6_clear P ro_size) (hq : P (F_X6_clear ro_size) → Q (F_X6_clear ro_size)) : wp_X6_clear Q ro_size := dt_X6_clear h (fun o eo => by rw [eo]; exact hq)
noncomputable def F_X6_add (p0 : Int32) (ro_size : Int32) (ro_numbers : Nat → Int32) : Int32 × (Nat → Int32) := if 16 ≤ ro_size then (ro_size, ro_numbers) else ((ro_size + 1), (upd ro_numbers ro_size.toNatClampNeg p0))
set_option maxHeartbeats 200000 in
set_option maxRecDepth 10000 in
theorem dt_X6_add {P Q : Int32 → (Nat → Int32) → Prop} {p0 : Int32} {ro_size : Int32} {ro_numbers : Nat → Int32} (h : wp_X6_add P p0 ro_size ro_numbers) (hq : ∀ o : Int32 × (Nat → Int32), o = F_X6_add p0 ro_size ro_numbers → P o.1 o.2 → Q o.1 o.2) : wp_X6_add Q p0 ro_size ro_numbers := by
  rw [F_X6_add] at hq
  refine And.intro (fun c1 => ?_) (fun c1 => ?_)
  · have h := And.left h c1
    rw [if_pos c1] at hq
    have q9 := hq _ rfl
    dsimp only at q9
    exact q9 h
  · have h := And.right h c1
    rw [if_neg c1] at hq
    refine And.intro (And.left h) ?_
    have h := And.right h
    refine ae ?_
    have h := h _ rfl
    have q9 := hq _ rfl
    dsimp only at q9
    exact q9 h
theorem du_X6_add {P Q : Int32 → (Nat → Int32) → Prop} {p0 : Int32} {ro_size : Int32} {ro_numbers : Nat → Int32} (h : wp_X6_add P p0 ro_size ro_numbers) (hq : P (F_X6_add p0 ro_size ro_numbers).1 (F_X6_add p0 ro_size ro_numbers).2 → Q (F_X6_add p0 ro_size ro_numbers).1 (F_X6_add p0 ro_size ro_numbers).2) : wp_X6_add Q p0 ro_size ro_numbers := dt_X6_add h (fun o eo => by rw [eo]; exact hq)
noncomputable def F_X9_tell (p0 : Int32) (ro_size : Int32) (ro_numbers : Nat → Int32) : Int32 × (Nat → Int32) := ((F_X6_add p0 (F_X6_clear ro_size) ro_numbers).1, (F_X6_add p0 (F_X6_clear ro_size) ro_numbers).2)
set_option maxHeartbeats 200000 in
set_option maxRecDepth 10000 in
theorem dt_X9_tell {P Q : Int32 → (Nat → Int32) → Prop} {p0 : Int32} {ro_size : Int32} {ro_numbers : Nat → Int32} (h : wp_X9_tell P p0 ro_size ro_numbers) (hq : ∀ o : Int32 × (Nat → Int32), o = F_X9_tell p0 ro_size ro_numbers → P o.1 o.2 → Q o.1 o.2) : wp_X9_tell Q p0 ro_size ro_numbers := by
  rw [F_X9_tell] at hq
  refine du_X6_clear h ?_
  intro h
  refine du_X6_add h ?_
  intro h
  have q9 := hq _ rfl
  dsimp only at q9
  exact q9 h
theorem du_X9_tell {P Q : Int32 → (Nat → Int32) → Prop} {p0 : Int32} {ro_size : Int32} {ro_numbers : Nat → Int32} (h : wp_X9_tell P p0 ro_size ro_numbers) (hq : P (F_X9_tell p0 ro_size ro_numbers).1 (F_X9_tell p0 ro_size ro_numbers).2 → Q (F_X9_tell p0 ro_size ro_numbers).1 (F_X9_tell p0 ro_size ro_numbers).2) : wp_X9_tell Q p0 ro_size ro_numbers := dt_X9_tell h (fun o eo => by rw [eo]; exact hq)
theorem dw_X9_tell {Q : Int32 → (Nat → Int32) → Prop} {p0 : Int32} {ro_size : Int32} {ro_numbers : Nat → Int32} (h : wp_X9_tell (fun o0 o1 => (o0, o1) = F_X9_tell p0 ro_size ro_numbers → Q o0 o1) p0 ro_size ro_numbers) : wp_X9_tell Q p0 ro_size ro_numbers := dt_X9_tell h (fun o eo hp => hp eo)
noncomputable def j_X9_nearest_63 {R : Type} (k22 : Int32 → Int32 → Int32 → Int32 → Int32 → (Nat → Int32) → R) (tr_fruits : Int32) (tr_standings : Int32) (tr_x : Nat → Int32) (tr_height : Nat → Int32) (tr_foot : Nat → Int32) (tr_fork : Nat → Int32) (tr_settings : Nat → Int32) (x1 : Int32) (x2 : Int32) (x3 : Int32) (x4 : Int32) (ro_size : Int32) (ro_numbers : Nat → Int32) : R := k22 x1 x2 x3 (x4 + 1) ro_size ro_numbers
noncomputable def bd_X9_nearest_22 (tr_fruits : Int32) (tr_standings : Int32) (tr_x : Nat → Int32) (tr_height : Nat → Int32) (tr_foot : Nat → Int32) (tr_fork : Nat → Int32) (tr_settings : Nat → Int32) (x1 : Int32) (ro_size : Int32) (ro_numbers : Nat → Int32) (c : Int32) (s : Int32 × Int32) : Int32 × Int32 := if (F_X3_leanNeeded x1 c tr_x tr_height tr_foot tr_fork tr_settings) < 0 then (j_X9_nearest_63 (fun q0 q1 q2 q3 q4 q5 => (q1, q2)) tr_fruits tr_standings tr_x tr_height tr_foot tr_fork tr_settings x1 s.1 s.2 c ro_size ro_numbers) else (if s.2 ≤ (F_X3_leanNeeded x1 c tr_x tr_height tr_foot tr_fork tr_settings) then (j_X9_nearest_63 (fun q0 q1 q2 q3 q4 q5 => (q1, q2)) tr_fruits tr_standings tr_x tr_height tr_foot tr_fork tr_settings x1 s.1 s.2 c ro_size ro_numbers) else (j_X9_nearest_63 (fun q0 q1 q2 q3 q4 q5 => (q1, q2)) tr_fruits tr_standings tr_x tr_height tr_foot tr_fork tr_settings x1 c (F_X3_leanNeeded x1 c tr_x tr_height tr_foot tr_fork tr_settings) c ro_size ro_numbers))
noncomputable def ex_X9_nearest_22 {R : Type} (po : Int32 → Int32 → (Nat → Int32) → R) (tr_fruits : Int32) (tr_standings : Int32) (tr_x : Nat → Int32) (tr_height : Nat → Int32) (tr_foot : Nat → Int32) (tr_fork : Nat → Int32) (tr_settings : Nat → Int32) (x1 : Int32) (ro_size : Int32) (ro_numbers : Nat → Int32) (c : Int32) (s : Int32 × Int32) : R := if s.1 < 0 then (po s.1 ro_size ro_numbers) else (po s.1 ((F_X9_tell s.2 ro_size ro_numbers).1) ((F_X9_tell s.2 ro_size ro_numbers).2))
set_option maxHeartbeats 200000 in
set_option maxRecDepth 10000 in
theorem dl_X9_nearest_22 {P Q : Int32 → Int32 → (Nat → Int32) → Prop} {tr_fruits : Int32} {tr_standings : Int32} {tr_x : Nat → Int32} {tr_height : Nat → Int32} {tr_foot : Nat → Int32} {tr_fork : Nat → Int32} {tr_settings : Nat → Int32} {x1 : Int32} {ro_size : Int32} {ro_numbers : Nat → Int32} {a : Int32 × Int32} {i : Nat} (hi0 : i < 2147483648) (hE : ∀ (c : Int32) (s : Int32 × Int32), c = nI (i + (Int32.toInt tr_standings - ((i : Nat) : Int)).toNat) → s = itr (bd_X9_nearest_22 tr_fruits tr_standings tr_x tr_height tr_foot tr_fork tr_settings x1 ro_size ro_numbers) a i (Int32.toInt tr_standings - ((i : Nat) : Int)).toNat → ((s.1 < 0 → P s.1 ro_size ro_numbers) ∧ (¬ s.1 < 0 → wp_X9_tell (fun ro_size_2 ro_numbers_3 => P s.1 ro_size_2 ro_numbers_3) s.2 ro_size ro_numbers)) → ((s.1 < 0 → Q s.1 ro_size ro_numbers) ∧ (¬ s.1 < 0 → wp_X9_tell (fun ro_size_2 ro_numbers_3 => Q s.1 ro_size_2 ro_numbers_3) s.2 ro_size ro_numbers))) : ∀ (n k : Nat) (c : Int32), c = nI (i + k) → k ≤ (Int32.toInt tr_standings - ((i : Nat) : Int)).toNat → wb_X9_nearest_22 P tr_fruits tr_standings tr_x tr_height tr_foot tr_fork tr_settings n x1 (itr (bd_X9_nearest_22 tr_fruits tr_standings tr_x tr_height tr_foot tr_fork tr_settings x1 ro_size ro_numbers) a i k).1 (itr (bd_X9_nearest_22 tr_fruits tr_standings tr_x tr_height tr_foot tr_fork tr_settings x1 ro_size ro_numbers) a i k).2 c ro_size ro_numbers → wb_X9_nearest_22 Q tr_fruits tr_standings tr_x tr_height tr_foot tr_fork tr_settings n x1 (itr (bd_X9_nearest_22 tr_fruits tr_standings tr_x tr_height tr_foot tr_fork tr_settings x1 ro_size ro_numbers) a i k).1 (itr (bd_X9_nearest_22 tr_fruits tr_standings tr_x tr_height tr_foot tr_fork tr_settings x1 ro_size ro_numbers) a i k).2 c ro_size ro_numbers := by
  intro n
  induction n with
  | zero => intro k c hc hk h; exact False.elim h
  | succ n ih =>
    intro k c hc hk h
    have hr := tp_r tr_standings
    have hi : Int32.toInt c = ((i + k : Nat) : Int) := by rw [hc]; exact nI_toInt (by omega)
    refine And.intro (fun t0 => ?_) (fun t0 => ?_)
    · have h := And.left h t0
      have t1 := (fa_le _ _).mp t0
      have hk2 : k = (Int32.toInt tr_standings - ((i : Nat) : Int)).toNat := by omega
      subst hk2
      exact hE _ _ hc rfl h
    · have h := And.right h t0
      have t1 := mt (fa_le _ _).mpr t0
      have hs : ∀ o : Int32 × Int32, o = itr (bd_X9_nearest_22 tr_fruits tr_standings tr_x tr_height tr_foot tr_fork tr_settings x1 ro_size ro_numbers) a i (k + 1) → wb_X9_nearest_22 P tr_fruits tr_standings tr_x tr_height tr_foot tr_fork tr_settings n x1 o.1 o.2 (c + 1) ro_size ro_numbers → wb_X9_nearest_22 Q tr_fruits tr_standings tr_x tr_height tr_foot tr_fork tr_settings n x1 o.1 o.2 (c + 1) ro_size ro_numbers := by
        intro o eo h9
        have q := ih (k + 1) (c + 1) (by rw [hc]; exact nI_1 _) (by omega)
        rw [← eo] at q
        exact q h9
      rw [itr_s, ← hc, bd_X9_nearest_22] at hs
      refine du_X3_leanNeeded h ?_
      intro h
      refine And.intro (fun c1 => ?_) (fun c1 => ?_)
      · have h := And.left h c1
        rw [if_pos c1] at hs
        rw [j_X9_nearest_63] at hs
        unfold ws_X9_nearest_63 at h ⊢
        refine ae ?_
        have h := h _ rfl
        have q9 := hs _ rfl
        dsimp only at q9
        exact q9 h
      · have h := And.right h c1
        rw [if_neg c1] at hs
        refine And.intro (fun c2 => ?_) (fun c2 => ?_)
        · have h := And.left h c2
          rw [if_pos c2] at hs
          rw [j_X9_nearest_63] at hs
          unfold ws_X9_nearest_63 at h ⊢
          refine ae ?_
          have h := h _ rfl
          have q9 := hs _ rfl
          dsimp only at q9
          exact q9 h
        · have h := And.right h c2
          rw [if_neg c2] at hs
          rw [j_X9_nearest_63] at hs
          unfold ws_X9_nearest_63 at h ⊢
          refine ae ?_
          have h := h _ rfl
          have q9 := hs _ rfl
          dsimp only at q9
          exact q9 h
noncomputable def F_X9_nearest (p0 : Int32) (tr_fruits : Int32) (tr_standings : Int32) (tr_x : Nat → Int32) (tr_height : Nat → Int32) (tr_foot : Nat → Int32) (tr_fork : Nat → Int32) (tr_settings : Nat → Int32) (ro_size : Int32) (ro_numbers : Nat → Int32) : Int32 × Int32 × (Nat → Int32) := if (F_X3_hasFruit p0 tr_fruits) = 0 then ((-1), ro_size, ro_numbers) else (ex_X9_nearest_22 (fun o0 o1 o2 => (o0, o1, o2)) tr_fruits tr_standings tr_x tr_height tr_foot tr_fork tr_settings p0 ro_size ro_numbers (nI (0 + (Int32.toInt tr_standings - ((0 : Nat) : Int)).toNat)) (itr (bd_X9_nearest_22 tr_fruits tr_standings tr_x tr_height tr_foot tr_fork tr_settings p0 ro_size ro_numbers) ((-2), 31) 0 (Int32.toInt tr_standings - ((0 : Nat) : Int)).toNat))
set_option maxHeartbeats 200000 in
set_option maxRecDepth 10000 in
theorem dt_X9_nearest {P Q : Int32 → Int32 → (Nat → Int32) → Prop} {p0 : Int32} {tr_fruits : Int32} {tr_standings : Int32} {tr_x : Nat → Int32} {tr_height : Nat → Int32} {tr_foot : Nat → Int32} {tr_fork : Nat → Int32} {tr_settings : Nat → Int32} {ro_size : Int32} {ro_numbers : Nat → Int32} (h : wp_X9_nearest P p0 tr_fruits tr_standings tr_x tr_height tr_foot tr_fork tr_settings ro_size ro_numbers) (hq : ∀ o : Int32 × Int32 × (Nat → Int32), o = F_X9_nearest p0 tr_fruits tr_standings tr_x tr_height tr_foot tr_fork tr_settings ro_size ro_numbers → P o.1 o.2.1 o.2.2 → Q o.1 o.2.1 o.2.2) : wp_X9_nearest Q p0 tr_fruits tr_standings tr_x tr_height tr_foot tr_fork tr_settings ro_size ro_numbers := by
  rw [F_X9_nearest] at hq
  refine du_X3_hasFruit h ?_
  intro h
  refine And.intro (fun c1 => ?_) (fun c1 => ?_)
  · have h := And.left h c1
    rw [if_neg c1] at hq
    obtain ⟨n2, h⟩ := h
    refine ⟨n2, dl_X9_nearest_22 (a := ((-2), 31)) (i := 0) (by decide) ?_ n2 0 0 (by decide) (Nat.zero_le _) h⟩
    intro cc3 s4 ec5 es6 h
    rw [← ec5, ← es6, ex_X9_nearest_22] at hq
    refine And.intro (fun c7 => ?_) (fun c7 => ?_)
    · have h := And.left h c7
      rw [if_pos c7] at hq
      have q9 := hq _ rfl
      dsimp only at q9
      exact q9 h
    · have h := And.right h c7
      rw [if_neg c7] at hq
      refine du_X9_tell h ?_
      intro h
      have q9 := hq _ rfl
      dsimp only at q9
      exact q9 h
  · have h := And.right h c1
    rw [if_pos c1] at hq
    have q9 := hq _ rfl
    dsimp only at q9
    exact q9 h
theorem du_X9_nearest {P Q : Int32 → Int32 → (Nat → Int32) → Prop} {p0 : Int32} {tr_fruits : Int32} {tr_standings : Int32} {tr_x : Nat → Int32} {tr_height : Nat → Int32} {tr_foot : Nat → Int32} {tr_fork : Nat → Int32} {tr_settings : Nat → Int32} {ro_size : Int32} {ro_numbers : Nat → Int32} (h : wp_X9_nearest P p0 tr_fruits tr_standings tr_x tr_height tr_foot tr_fork tr_settings ro_size ro_numbers) (hq : P (F_X9_nearest p0 tr_fruits tr_standings tr_x tr_height tr_foot tr_fork tr_settings ro_size ro_numbers).1 (F_X9_nearest p0 tr_fruits tr_standings tr_x tr_height tr_foot tr_fork tr_settings ro_size ro_numbers).2.1 (F_X9_nearest p0 tr_fruits tr_standings tr_x tr_height tr_foot tr_fork tr_settings ro_size ro_numbers).2.2 → Q (F_X9_nearest p0 tr_fruits tr_standings tr_x tr_height tr_foot tr_fork tr_settings ro_size ro_numbers).1 (F_X9_nearest p0 tr_fruits tr_standings tr_x tr_height tr_foot tr_fork tr_settings ro_size ro_numbers).2.1 (F_X9_nearest p0 tr_fruits tr_standings tr_x tr_height tr_foot tr_fork tr_settings ro_size ro_numbers).2.2) : wp_X9_nearest Q p0 tr_fruits tr_standings tr_x tr_height tr_foot tr_fork tr_settings ro_size ro_numbers := dt_X9_nearest h (fun o eo => by rw [eo]; exact hq)
theorem dw_X9_nearest {Q : Int32 → Int32 → (Nat → Int32) → Prop} {p0 : Int32} {tr_fruits : Int32} {tr_standings : Int32} {tr_x : Nat → Int32} {tr_height : Nat → Int32} {tr_foot : Nat → Int32} {tr_fork : Nat → Int32} {tr_settings : Nat → Int32} {ro_size : Int32} {ro_numbers : Nat → Int32} (h : wp_X9_nearest (fun o0 o1 o2 => (o0, o1, o2) = F_X9_nearest p0 tr_fruits tr_standings tr_x tr_height tr_foot tr_fork tr_settings ro_size ro_numbers → Q o0 o1 o2) p0 tr_fruits tr_standings tr_x tr_height tr_foot tr_fork tr_settings ro_size ro_numbers) : wp_X9_nearest Q p0 tr_fruits tr_standings tr_x tr_height tr_foot tr_fork tr_settings ro_size ro_numbers := dt_X9_nearest h (fun o eo hp => hp eo)
noncomputable def F_X10_tell (p0 : Int32) (m_rowMany : Int32) (m_row : Nat → Int32) : Int32 × (Nat → Int32) := ((m_rowMany + 1), (upd m_row m_rowMany.toNatClampNeg p0))
set_option maxHeartbeats 200000 in
set_option maxRecDepth 10000 in
theorem dt_X10_tell {P Q : Int32 → (Nat → Int32) → Prop} {p0 : Int32} {m_rowMany : Int32} {m_row : Nat → Int32} (h : wp_X10_tell P p0 m_rowMany m_row) (hq : ∀ o : Int32 × (Nat → Int32), o = F_X10_tell p0 m_rowMany m_row → P o.1 o.2 → Q o.1 o.2) : wp_X10_tell Q p0 m_rowMany m_row := by
  rw [F_X10_tell] at hq
  refine And.intro (And.left h) ?_
  have h := And.right h
  refine ae ?_
  have h := h _ rfl
  have q9 := hq _ rfl
  dsimp only at q9
  exact q9 h
theorem du_X10_tell {P Q : Int32 → (Nat → Int32) → Prop} {p0 : Int32} {m_rowMany : Int32} {m_row : Nat → Int32} (h : wp_X10_tell P p0 m_rowMany m_row) (hq : P (F_X10_tell p0 m_rowMany m_row).1 (F_X10_tell p0 m_rowMany m_row).2 → Q (F_X10_tell p0 m_rowMany m_row).1 (F_X10_tell p0 m_rowMany m_row).2) : wp_X10_tell Q p0 m_rowMany m_row := dt_X10_tell h (fun o eo => by rw [eo]; exact hq)
theorem dw_X10_tell {Q : Int32 → (Nat → Int32) → Prop} {p0 : Int32} {m_rowMany : Int32} {m_row : Nat → Int32} (h : wp_X10_tell (fun o0 o1 => (o0, o1) = F_X10_tell p0 m_rowMany m_row → Q o0 o1) p0 m_rowMany m_row) : wp_X10_tell Q p0 m_rowMany m_row := dt_X10_tell h (fun o eo hp => hp eo)
noncomputable def j_X10_nearest_60 {R : Type} (k20 : Int32 → Int32 → Int32 → Int32 → Int32 → (Nat → Int32) → R) (m_fruits : Int32) (m_standings : Int32) (m_x : Nat → Int32) (m_height : Nat → Int32) (m_foot : Nat → Int32) (m_fork : Nat → Int32) (m_told : Nat → Int32) (x1 : Int32) (x2 : Int32) (x3 : Int32) (m_rowMany : Int32) (m_thrown : Int32) (m_row : Nat → Int32) : R := k20 x1 x2 (x3 + 1) m_rowMany m_thrown m_row
noncomputable def j_X10_nearest_58 {R : Type} (k20 : Int32 → Int32 → Int32 → Int32 → Int32 → (Nat → Int32) → R) (m_fruits : Int32) (m_standings : Int32) (m_x : Nat → Int32) (m_height : Nat → Int32) (m_foot : Nat → Int32) (m_fork : Nat → Int32) (m_told : Nat → Int32) (x1 : Int32) (x3 : Int32) (m_rowMany : Int32) (m_thrown : Int32) (m_row : Nat → Int32) : R := j_X10_nearest_60 k20 m_fruits m_standings m_x m_height m_foot m_fork m_told x1 x3 x3 m_rowMany m_thrown m_row
noncomputable def bd_X10_nearest_20 (m_fruits : Int32) (m_standings : Int32) (m_x : Nat → Int32) (m_height : Nat → Int32) (m_foot : Nat → Int32) (m_fork : Nat → Int32) (m_told : Nat → Int32) (x1 : Int32) (m_rowMany : Int32) (m_thrown : Int32) (m_row : Nat → Int32) (c : Int32) (s : Int32) : Int32 := if 30 < (F_X10_leanOf x1 c m_x m_height m_foot m_fork m_told) then (j_X10_nearest_60 (fun q0 q1 q2 q3 q4 q5 => q1) m_fruits m_standings m_x m_height m_foot m_fork m_told x1 s c m_rowMany m_thrown m_row) else (if s < 0 then (j_X10_nearest_58 (fun q0 q1 q2 q3 q4 q5 => q1) m_fruits m_standings m_x m_height m_foot m_fork m_told x1 c m_rowMany m_thrown m_row) else (if (F_X10_leanOf x1 s m_x m_height m_foot m_fork m_told) ≤ (F_X10_leanOf x1 c m_x m_height m_foot m_fork m_told) then (j_X10_nearest_60 (fun q0 q1 q2 q3 q4 q5 => q1) m_fruits m_standings m_x m_height m_foot m_fork m_told x1 s c m_rowMany m_thrown m_row) else (j_X10_nearest_58 (fun q0 q1 q2 q3 q4 q5 => q1) m_fruits m_standings m_x m_height m_foot m_fork m_told x1 c m_rowMany m_thrown m_row)))
noncomputable def ex_X10_nearest_20 {R : Type} (po : Int32 → Int32 → Int32 → (Nat → Int32) → R) (m_fruits : Int32) (m_standings : Int32) (m_x : Nat → Int32) (m_height : Nat → Int32) (m_foot : Nat → Int32) (m_fork : Nat → Int32) (m_told : Nat → Int32) (x1 : Int32) (m_rowMany : Int32) (m_thrown : Int32) (m_row : Nat → Int32) (c : Int32) (s : Int32) : R := if 0 ≤ s then (po s ((F_X10_tell (F_X10_leanOf x1 s m_x m_height m_foot m_fork m_told) 0 m_row).1) m_thrown ((F_X10_tell (F_X10_leanOf x1 s m_x m_height m_foot m_fork m_told) 0 m_row).2)) else (po (-2) m_rowMany m_thrown m_row)
set_option maxHeartbeats 200000 in
set_option maxRecDepth 10000 in
theorem dl_X10_nearest_20 {P Q : Int32 → Int32 → Int32 → (Nat → Int32) → Prop} {m_fruits : Int32} {m_standings : Int32} {m_x : Nat → Int32} {m_height : Nat → Int32} {m_foot : Nat → Int32} {m_fork : Nat → Int32} {m_told : Nat → Int32} {x1 : Int32} {m_rowMany : Int32} {m_thrown : Int32} {m_row : Nat → Int32} {a : Int32} {i : Nat} (hi0 : i < 2147483648) (hE : ∀ (c : Int32) (s : Int32), c = nI (i + (Int32.toInt m_standings - ((i : Nat) : Int)).toNat) → s = itr (bd_X10_nearest_20 m_fruits m_standings m_x m_height m_foot m_fork m_told x1 m_rowMany m_thrown m_row) a i (Int32.toInt m_standings - ((i : Nat) : Int)).toNat → ((0 ≤ s → wp_X10_leanOf (fun r_2 => wp_X10_tell (fun m_rowMany_3 m_row_4 => P s m_rowMany_3 m_thrown m_row_4) r_2 0 m_row) x1 s m_x m_height m_foot m_fork m_told) ∧ (¬ 0 ≤ s → P (-2) m_rowMany m_thrown m_row)) → ((0 ≤ s → wp_X10_leanOf (fun r_2 => wp_X10_tell (fun m_rowMany_3 m_row_4 => Q s m_rowMany_3 m_thrown m_row_4) r_2 0 m_row) x1 s m_x m_height m_foot m_fork m_told) ∧ (¬ 0 ≤ s → Q (-2) m_rowMany m_thrown m_row))) : ∀ (n k : Nat) (c : Int32), c = nI (i + k) → k ≤ (Int32.toInt m_standings - ((i : Nat) : Int)).toNat → wb_X10_nearest_20 P m_fruits m_standings m_x m_height m_foot m_fork m_told n x1 (itr (bd_X10_nearest_20 m_fruits m_standings m_x m_height m_foot m_fork m_told x1 m_rowMany m_thrown m_row) a i k) c m_rowMany m_thrown m_row → wb_X10_nearest_20 Q m_fruits m_standings m_x m_height m_foot m_fork m_told n x1 (itr (bd_X10_nearest_20 m_fruits m_standings m_x m_height m_foot m_fork m_told x1 m_rowMany m_thrown m_row) a i k) c m_rowMany m_thrown m_row := by
  intro n
  induction n with
  | zero => intro k c hc hk h; exact False.elim h
  | succ n ih =>
    intro k c hc hk h
    have hr := tp_r m_standings
    have hi : Int32.toInt c = ((i + k : Nat) : Int) := by rw [hc]; exact nI_toInt (by omega)
    refine And.intro (fun t0 => ?_) (fun t0 => ?_)
    · have h := And.left h t0
      have t1 := (fa_le _ _).mp t0
      have hk2 : k = (Int32.toInt m_standings - ((i : Nat) : Int)).toNat := by omega
      subst hk2
      exact hE _ _ hc rfl h
    · have h := And.right h t0
      have t1 := mt (fa_le _ _).mpr t0
      have hs : ∀ o : Int32, o = itr (bd_X10_nearest_20 m_fruits m_standings m_x m_height m_foot m_fork m_told x1 m_rowMany m_thrown m_row) a i (k + 1) → wb_X10_nearest_20 P m_fruits m_standings m_x m_height m_foot m_fork m_told n x1 o (c + 1) m_rowMany m_thrown m_row → wb_X10_nearest_20 Q m_fruits m_standings m_x m_height m_foot m_fork m_told n x1 o (c + 1) m_rowMany m_thrown m_row := by
        intro o eo h9
        have q := ih (k + 1) (c + 1) (by rw [hc]; exact nI_1 _) (by omega)
        rw [← eo] at q
        exact q h9
      rw [itr_s, ← hc, bd_X10_nearest_20] at hs
      refine du_X10_leanOf h ?_
      intro h
      refine And.intro (fun c1 => ?_) (fun c1 => ?_)
      · have h := And.left h c1
        rw [if_pos c1] at hs
        rw [j_X10_nearest_60] at hs
        unfold ws_X10_nearest_60 at h ⊢
        refine ae ?_
        have h := h _ rfl
        have q9 := hs _ rfl
        exact q9 h
      · have h := And.right h c1
        rw [if_neg c1] at hs
        refine And.intro (fun c2 => ?_) (fun c2 => ?_)
        · have h := And.left h c2
          rw [if_pos c2] at hs
          rw [j_X10_nearest_58] at hs
          unfold ws_X10_nearest_58 at h ⊢
          rw [j_X10_nearest_60] at hs
          unfold ws_X10_nearest_60 at h ⊢
          refine ae ?_
          have h := h _ rfl
          have q9 := hs _ rfl
          exact q9 h
        · have h := And.right h c2
          rw [if_neg c2] at hs
          refine du_X10_leanOf h ?_
          intro h
          refine du_X10_leanOf h ?_
          intro h
          refine And.intro (fun c3 => ?_) (fun c3 => ?_)
          · have h := And.left h c3
            rw [if_pos c3] at hs
            rw [j_X10_nearest_60] at hs
            unfold ws_X10_nearest_60 at h ⊢
            refine ae ?_
            have h := h _ rfl
            have q9 := hs _ rfl
            exact q9 h
          · have h := And.right h c3
            rw [if_neg c3] at hs
            rw [j_X10_nearest_58] at hs
            unfold ws_X10_nearest_58 at h ⊢
            rw [j_X10_nearest_60] at hs
            unfold ws_X10_nearest_60 at h ⊢
            refine ae ?_
            have h := h _ rfl
            have q9 := hs _ rfl
            exact q9 h
noncomputable def F_X10_nearest (p0 : Int32) (m_fruits : Int32) (m_standings : Int32) (m_rowMany : Int32) (m_thrown : Int32) (m_x : Nat → Int32) (m_height : Nat → Int32) (m_foot : Nat → Int32) (m_fork : Nat → Int32) (m_told : Nat → Int32) (m_row : Nat → Int32) : Int32 × Int32 × Int32 × (Nat → Int32) := if (F_X10_isFruit p0 m_fruits) = 0 then ((-1), m_rowMany, 0, m_row) else (ex_X10_nearest_20 (fun o0 o1 o2 o3 => (o0, o1, o2, o3)) m_fruits m_standings m_x m_height m_foot m_fork m_told p0 m_rowMany 0 m_row (nI (0 + (Int32.toInt m_standings - ((0 : Nat) : Int)).toNat)) (itr (bd_X10_nearest_20 m_fruits m_standings m_x m_height m_foot m_fork m_told p0 m_rowMany 0 m_row) (-2) 0 (Int32.toInt m_standings - ((0 : Nat) : Int)).toNat))
set_option maxHeartbeats 200000 in
set_option maxRecDepth 10000 in
theorem dt_X10_nearest {P Q : Int32 → Int32 → Int32 → (Nat → Int32) → Prop} {p0 : Int32} {m_fruits : Int32} {m_standings : Int32} {m_rowMany : Int32} {m_thrown : Int32} {m_x : Nat → Int32} {m_height : Nat → Int32} {m_foot : Nat → Int32} {m_fork : Nat → Int32} {m_told : Nat → Int32} {m_row : Nat → Int32} (h : wp_X10_nearest P p0 m_fruits m_standings m_rowMany m_thrown m_x m_height m_foot m_fork m_told m_row) (hq : ∀ o : Int32 × Int32 × Int32 × (Nat → Int32), o = F_X10_nearest p0 m_fruits m_standings m_rowMany m_thrown m_x m_height m_foot m_fork m_told m_row → P o.1 o.2.1 o.2.2.1 o.2.2.2 → Q o.1 o.2.1 o.2.2.1 o.2.2.2) : wp_X10_nearest Q p0 m_fruits m_standings m_rowMany m_thrown m_x m_height m_foot m_fork m_told m_row := by
  rw [F_X10_nearest] at hq
  refine du_X10_isFruit h ?_
  intro h
  refine And.intro (fun c1 => ?_) (fun c1 => ?_)
  · have h := And.left h c1
    rw [if_neg c1] at hq
    obtain ⟨n2, h⟩ := h
    refine ⟨n2, dl_X10_nearest_20 (a := (-2)) (i := 0) (by decide) ?_ n2 0 0 (by decide) (Nat.zero_le _) h⟩
    intro cc3 s4 ec5 es6 h
    rw [← ec5, ← es6, ex_X10_nearest_20] at hq
    refine And.intro (fun c7 => ?_) (fun c7 => ?_)
    · have h := And.left h c7
      rw [if_pos c7] at hq
      refine du_X10_leanOf h ?_
      intro h
      refine du_X10_tell h ?_
      intro h
      have q9 := hq _ rfl
      dsimp only at q9
      exact q9 h
    · have h := And.right h c7
      rw [if_neg c7] at hq
      have q9 := hq _ rfl
      dsimp only at q9
      exact q9 h
  · have h := And.right h c1
    rw [if_pos c1] at hq
    have q9 := hq _ rfl
    dsimp only at q9
    exact q9 h
theorem du_X10_nearest {P Q : Int32 → Int32 → Int32 → (Nat → Int32) → Prop} {p0 : Int32} {m_fruits : Int32} {m_standings : Int32} {m_rowMany : Int32} {m_thrown : Int32} {m_x : Nat → Int32} {m_height : Nat → Int32} {m_foot : Nat → Int32} {m_fork : Nat → Int32} {m_told : Nat → Int32} {m_row : Nat → Int32} (h : wp_X10_nearest P p0 m_fruits m_standings m_rowMany m_thrown m_x m_height m_foot m_fork m_told m_row) (hq : P (F_X10_nearest p0 m_fruits m_standings m_rowMany m_thrown m_x m_height m_foot m_fork m_told m_row).1 (F_X10_nearest p0 m_fruits m_standings m_rowMany m_thrown m_x m_height m_foot m_fork m_told m_row).2.1 (F_X10_nearest p0 m_fruits m_standings m_rowMany m_thrown m_x m_height m_foot m_fork m_told m_row).2.2.1 (F_X10_nearest p0 m_fruits m_standings m_rowMany m_thrown m_x m_height m_foot m_fork m_told m_row).2.2.2 → Q (F_X10_nearest p0 m_fruits m_standings m_rowMany m_thrown m_x m_height m_foot m_fork m_told m_row).1 (F_X10_nearest p0 m_fruits m_standings m_rowMany m_thrown m_x m_height m_foot m_fork m_told m_row).2.1 (F_X10_nearest p0 m_fruits m_standings m_rowMany m_thrown m_x m_height m_foot m_fork m_told m_row).2.2.1 (F_X10_nearest p0 m_fruits m_standings m_rowMany m_thrown m_x m_height m_foot m_fork m_told m_row).2.2.2) : wp_X10_nearest Q p0 m_fruits m_standings m_rowMany m_thrown m_x m_height m_foot m_fork m_told m_row := dt_X10_nearest h (fun o eo => by rw [eo]; exact hq)
theorem dw_X10_nearest {Q : Int32 → Int32 → Int32 → (Nat → Int32) → Prop} {p0 : Int32} {m_fruits : Int32} {m_standings : Int32} {m_rowMany : Int32} {m_thrown : Int32} {m_x : Nat → Int32} {m_height : Nat → Int32} {m_foot : Nat → Int32} {m_fork : Nat → Int32} {m_told : Nat → Int32} {m_row : Nat → Int32} (h : wp_X10_nearest (fun o0 o1 o2 o3 => (o0, o1, o2, o3) = F_X10_nearest p0 m_fruits m_standings m_rowMany m_thrown m_x m_height m_foot m_fork m_told m_row → Q o0 o1 o2 o3) p0 m_fruits m_standings m_rowMany m_thrown m_x m_height m_foot m_fork m_told m_row) : wp_X10_nearest Q p0 m_fruits m_standings m_rowMany m_thrown m_x m_height m_foot m_fork m_told m_row := dt_X10_nearest h (fun o eo hp => hp eo)
noncomputable def F_X3_reach (p0 : Int32) (p1 : Int32) (tr_settings : Nat → Int32) : Int32 := (((tr_settings (0 : Int32).toNatClampNeg) + (p0 * (tr_settings (1 : Int32).toNatClampNeg))) + (p1 * (tr_settings (2 : Int32).toNatClampNeg)))
set_option maxHeartbeats 200000 in
set_option maxRecDepth 10000 in
theorem dt_X3_reach {P Q : Int32 → Prop} {p0 : Int32} {p1 : Int32} {tr_settings : Nat → Int32} (h : wp_X3_reach P p0 p1 tr_settings) (hq : ∀ o : Int32, o = F_X3_reach p0 p1 tr_settings → P o → Q o) : wp_X3_reach Q p0 p1 tr_settings := by
  rw [F_X3_reach] at hq
  refine ae ?_
  have h := h _ rfl
  refine ae ?_
  have h := h _ rfl
  have q9 := hq _ rfl
  exact q9 h
theorem du_X3_reach {P Q : Int32 → Prop} {p0 : Int32} {p1 : Int32} {tr_settings : Nat → Int32} (h : wp_X3_reach P p0 p1 tr_settings) (hq : P (F_X3_reach p0 p1 tr_settings) → Q (F_X3_reach p0 p1 tr_settings)) : wp_X3_reach Q p0 p1 tr_settings := dt_X3_reach h (fun o eo => by rw [eo]; exact hq)
noncomputable def j_X3_within_32 {R : Type} (k5 : Int32 → Int32 → Int32 → Int32 → R) (tr_fruits : Int32) (tr_x : Nat → Int32) (tr_height : Nat → Int32) (tr_foot : Nat → Int32) (tr_fork : Nat → Int32) (x1 : Int32) (x2 : Int32) (x3 : Int32) (x4 : Int32) : R := k5 x1 x2 x3 (x4 + 1)
noncomputable def bd_X3_within_5 (tr_fruits : Int32) (tr_x : Nat → Int32) (tr_height : Nat → Int32) (tr_foot : Nat → Int32) (tr_fork : Nat → Int32) (x1 : Int32) (x2 : Int32) (c : Int32) (s : Int32) : Int32 := if (F_X3_isWithin c x1 x2 tr_x tr_height tr_foot tr_fork) = 0 then (j_X3_within_32 (fun q0 q1 q2 q3 => q2) tr_fruits tr_x tr_height tr_foot tr_fork x1 x2 s c) else (j_X3_within_32 (fun q0 q1 q2 q3 => q2) tr_fruits tr_x tr_height tr_foot tr_fork x1 x2 (s ||| (1 <<< (c &&& 31))) c)
noncomputable def ex_X3_within_5 {R : Type} (po : Int32 → R) (tr_fruits : Int32) (tr_x : Nat → Int32) (tr_height : Nat → Int32) (tr_foot : Nat → Int32) (tr_fork : Nat → Int32) (x1 : Int32) (x2 : Int32) (c : Int32) (s : Int32) : R := po s
set_option maxHeartbeats 200000 in
set_option maxRecDepth 10000 in
theorem dl_X3_within_5 {P Q : Int32 → Prop} {tr_fruits : Int32} {tr_x : Nat → Int32} {tr_height : Nat → Int32} {tr_foot : Nat → Int32} {tr_fork : Nat → Int32} {x1 : Int32} {x2 : Int32} {a : Int32} {i : Nat} (hi0 : i < 2147483648) (hE : ∀ (c : Int32) (s : Int32), c = nI (i + (Int32.toInt tr_fruits - ((i : Nat) : Int)).toNat) → s = itr (bd_X3_within_5 tr_fruits tr_x tr_height tr_foot tr_fork x1 x2) a i (Int32.toInt tr_fruits - ((i : Nat) : Int)).toNat → (P s) → (Q s)) : ∀ (n k : Nat) (c : Int32), c = nI (i + k) → k ≤ (Int32.toInt tr_fruits - ((i : Nat) : Int)).toNat → wb_X3_within_5 P tr_fruits tr_x tr_height tr_foot tr_fork n x1 x2 (itr (bd_X3_within_5 tr_fruits tr_x tr_height tr_foot tr_fork x1 x2) a i k) c → wb_X3_within_5 Q tr_fruits tr_x tr_height tr_foot tr_fork n x1 x2 (itr (bd_X3_within_5 tr_fruits tr_x tr_height tr_foot tr_fork x1 x2) a i k) c := by
  intro n
  induction n with
  | zero => intro k c hc hk h; exact False.elim h
  | succ n ih =>
    intro k c hc hk h
    have hr := tp_r tr_fruits
    have hi : Int32.toInt c = ((i + k : Nat) : Int) := by rw [hc]; exact nI_toInt (by omega)
    refine And.intro (fun t0 => ?_) (fun t0 => ?_)
    · have h := And.left h t0
      have t1 := (fa_le _ _).mp t0
      have hk2 : k = (Int32.toInt tr_fruits - ((i : Nat) : Int)).toNat := by omega
      subst hk2
      exact hE _ _ hc rfl h
    · have h := And.right h t0
      have t1 := mt (fa_le _ _).mpr t0
      have hs : ∀ o : Int32, o = itr (bd_X3_within_5 tr_fruits tr_x tr_height tr_foot tr_fork x1 x2) a i (k + 1) → wb_X3_within_5 P tr_fruits tr_x tr_height tr_foot tr_fork n x1 x2 o (c + 1) → wb_X3_within_5 Q tr_fruits tr_x tr_height tr_foot tr_fork n x1 x2 o (c + 1) := by
        intro o eo h9
        have q := ih (k + 1) (c + 1) (by rw [hc]; exact nI_1 _) (by omega)
        rw [← eo] at q
        exact q h9
      rw [itr_s, ← hc, bd_X3_within_5] at hs
      refine du_X3_isWithin h ?_
      intro h
      refine And.intro (fun c1 => ?_) (fun c1 => ?_)
      · have h := And.left h c1
        rw [if_pos c1] at hs
        rw [j_X3_within_32] at hs
        unfold ws_X3_within_32 at h ⊢
        refine ae ?_
        have h := h _ rfl
        have q9 := hs _ rfl
        exact q9 h
      · have h := And.right h c1
        rw [if_neg c1] at hs
        refine ae ?_
        have h := h _ rfl
        rw [j_X3_within_32] at hs
        unfold ws_X3_within_32 at h ⊢
        refine ae ?_
        have h := h _ rfl
        have q9 := hs _ rfl
        exact q9 h
noncomputable def F_X3_within (p0 : Int32) (p1 : Int32) (tr_fruits : Int32) (tr_x : Nat → Int32) (tr_height : Nat → Int32) (tr_foot : Nat → Int32) (tr_fork : Nat → Int32) : Int32 := ex_X3_within_5 (fun o0 => o0) tr_fruits tr_x tr_height tr_foot tr_fork p0 p1 (nI (0 + (Int32.toInt tr_fruits - ((0 : Nat) : Int)).toNat)) (itr (bd_X3_within_5 tr_fruits tr_x tr_height tr_foot tr_fork p0 p1) 0 0 (Int32.toInt tr_fruits - ((0 : Nat) : Int)).toNat)
set_option maxHeartbeats 200000 in
set_option maxRecDepth 10000 in
theorem dt_X3_within {P Q : Int32 → Prop} {p0 : Int32} {p1 : Int32} {tr_fruits : Int32} {tr_x : Nat → Int32} {tr_height : Nat → Int32} {tr_foot : Nat → Int32} {tr_fork : Nat → Int32} (h : wp_X3_within P p0 p1 tr_fruits tr_x tr_height tr_foot tr_fork) (hq : ∀ o : Int32, o = F_X3_within p0 p1 tr_fruits tr_x tr_height tr_foot tr_fork → P o → Q o) : wp_X3_within Q p0 p1 tr_fruits tr_x tr_height tr_foot tr_fork := by
  rw [F_X3_within] at hq
  obtain ⟨n1, h⟩ := h
  refine ⟨n1, dl_X3_within_5 (a := 0) (i := 0) (by decide) ?_ n1 0 0 (by decide) (Nat.zero_le _) h⟩
  intro cc2 s3 ec4 es5 h
  rw [← ec4, ← es5, ex_X3_within_5] at hq
  have q9 := hq _ rfl
  exact q9 h
theorem du_X3_within {P Q : Int32 → Prop} {p0 : Int32} {p1 : Int32} {tr_fruits : Int32} {tr_x : Nat → Int32} {tr_height : Nat → Int32} {tr_foot : Nat → Int32} {tr_fork : Nat → Int32} (h : wp_X3_within P p0 p1 tr_fruits tr_x tr_height tr_foot tr_fork) (hq : P (F_X3_within p0 p1 tr_fruits tr_x tr_height tr_foot tr_fork) → Q (F_X3_within p0 p1 tr_fruits tr_x tr_height tr_foot tr_fork)) : wp_X3_within Q p0 p1 tr_fruits tr_x tr_height tr_foot tr_fork := dt_X3_within h (fun o eo => by rw [eo]; exact hq)
noncomputable def F_X9_tell_ (p0 : Int32) (p1 : Int32) (ro_size : Int32) (ro_numbers : Nat → Int32) : Int32 × (Nat → Int32) := ((F_X6_add p1 (F_X9_tell p0 ro_size ro_numbers).1 (F_X9_tell p0 ro_size ro_numbers).2).1, (F_X6_add p1 (F_X9_tell p0 ro_size ro_numbers).1 (F_X9_tell p0 ro_size ro_numbers).2).2)
set_option maxHeartbeats 200000 in
set_option maxRecDepth 10000 in
theorem dt_X9_tell_ {P Q : Int32 → (Nat → Int32) → Prop} {p0 : Int32} {p1 : Int32} {ro_size : Int32} {ro_numbers : Nat → Int32} (h : wp_X9_tell_ P p0 p1 ro_size ro_numbers) (hq : ∀ o : Int32 × (Nat → Int32), o = F_X9_tell_ p0 p1 ro_size ro_numbers → P o.1 o.2 → Q o.1 o.2) : wp_X9_tell_ Q p0 p1 ro_size ro_numbers := by
  rw [F_X9_tell_] at hq
  refine du_X9_tell h ?_
  intro h
  refine du_X6_add h ?_
  intro h
  have q9 := hq _ rfl
  dsimp only at q9
  exact q9 h
theorem du_X9_tell_ {P Q : Int32 → (Nat → Int32) → Prop} {p0 : Int32} {p1 : Int32} {ro_size : Int32} {ro_numbers : Nat → Int32} (h : wp_X9_tell_ P p0 p1 ro_size ro_numbers) (hq : P (F_X9_tell_ p0 p1 ro_size ro_numbers).1 (F_X9_tell_ p0 p1 ro_size ro_numbers).2 → Q (F_X9_tell_ p0 p1 ro_size ro_numbers).1 (F_X9_tell_ p0 p1 ro_size ro_numbers).2) : wp_X9_tell_ Q p0 p1 ro_size ro_numbers := dt_X9_tell_ h (fun o eo => by rw [eo]; exact hq)
theorem dw_X9_tell_ {Q : Int32 → (Nat → Int32) → Prop} {p0 : Int32} {p1 : Int32} {ro_size : Int32} {ro_numbers : Nat → Int32} (h : wp_X9_tell_ (fun o0 o1 => (o0, o1) = F_X9_tell_ p0 p1 ro_size ro_numbers → Q o0 o1) p0 p1 ro_size ro_numbers) : wp_X9_tell_ Q p0 p1 ro_size ro_numbers := dt_X9_tell_ h (fun o eo hp => hp eo)
noncomputable def F_X9_reached (p0 : Int32) (tr_fruits : Int32) (tr_standings : Int32) (tr_x : Nat → Int32) (tr_height : Nat → Int32) (tr_foot : Nat → Int32) (tr_fork : Nat → Int32) (tr_settings : Nat → Int32) (ro_size : Int32) (ro_numbers : Nat → Int32) : Int32 × Int32 × (Nat → Int32) := if (F_X3_hasStanding p0 tr_standings) = 0 then ((-1), ro_size, ro_numbers) else ((F_X3_within p0 (F_X3_reach 0 0 tr_settings) tr_fruits tr_x tr_height tr_foot tr_fork), (F_X9_tell_ (F_X3_within p0 (F_X3_reach 1 0 tr_settings) tr_fruits tr_x tr_height tr_foot tr_fork) (F_X3_within p0 (F_X3_reach 1 1 tr_settings) tr_fruits tr_x tr_height tr_foot tr_fork) ro_size ro_numbers).1, (F_X9_tell_ (F_X3_within p0 (F_X3_reach 1 0 tr_settings) tr_fruits tr_x tr_height tr_foot tr_fork) (F_X3_within p0 (F_X3_reach 1 1 tr_settings) tr_fruits tr_x tr_height tr_foot tr_fork) ro_size ro_numbers).2)
set_option maxHeartbeats 200000 in
set_option maxRecDepth 10000 in
theorem dt_X9_reached {P Q : Int32 → Int32 → (Nat → Int32) → Prop} {p0 : Int32} {tr_fruits : Int32} {tr_standings : Int32} {tr_x : Nat → Int32} {tr_height : Nat → Int32} {tr_foot : Nat → Int32} {tr_fork : Nat → Int32} {tr_settings : Nat → Int32} {ro_size : Int32} {ro_numbers : Nat → Int32} (h : wp_X9_reached P p0 tr_fruits tr_standings tr_x tr_height tr_foot tr_fork tr_settings ro_size ro_numbers) (hq : ∀ o : Int32 × Int32 × (Nat → Int32), o = F_X9_reached p0 tr_fruits tr_standings tr_x tr_height tr_foot tr_fork tr_settings ro_size ro_numbers → P o.1 o.2.1 o.2.2 → Q o.1 o.2.1 o.2.2) : wp_X9_reached Q p0 tr_fruits tr_standings tr_x tr_height tr_foot tr_fork tr_settings ro_size ro_numbers := by
  rw [F_X9_reached] at hq
  refine du_X3_hasStanding h ?_
  intro h
  refine And.intro (fun c1 => ?_) (fun c1 => ?_)
  · have h := And.left h c1
    rw [if_neg c1] at hq
    refine du_X3_reach h ?_
    intro h
    refine du_X3_within h ?_
    intro h
    refine du_X3_reach h ?_
    intro h
    refine du_X3_within h ?_
    intro h
    refine du_X9_tell_ h ?_
    intro h
    refine du_X3_reach h ?_
    intro h
    refine du_X3_within h ?_
    intro h
    have q9 := hq _ rfl
    dsimp only at q9
    exact q9 h
  · have h := And.right h c1
    rw [if_pos c1] at hq
    have q9 := hq _ rfl
    dsimp only at q9
    exact q9 h
theorem du_X9_reached {P Q : Int32 → Int32 → (Nat → Int32) → Prop} {p0 : Int32} {tr_fruits : Int32} {tr_standings : Int32} {tr_x : Nat → Int32} {tr_height : Nat → Int32} {tr_foot : Nat → Int32} {tr_fork : Nat → Int32} {tr_settings : Nat → Int32} {ro_size : Int32} {ro_numbers : Nat → Int32} (h : wp_X9_reached P p0 tr_fruits tr_standings tr_x tr_height tr_foot tr_fork tr_settings ro_size ro_numbers) (hq : P (F_X9_reached p0 tr_fruits tr_standings tr_x tr_height tr_foot tr_fork tr_settings ro_size ro_numbers).1 (F_X9_reached p0 tr_fruits tr_standings tr_x tr_height tr_foot tr_fork tr_settings ro_size ro_numbers).2.1 (F_X9_reached p0 tr_fruits tr_standings tr_x tr_height tr_foot tr_fork tr_settings ro_size ro_numbers).2.2 → Q (F_X9_reached p0 tr_fruits tr_standings tr_x tr_height tr_foot tr_fork tr_settings ro_size ro_numbers).1 (F_X9_reached p0 tr_fruits tr_standings tr_x tr_height tr_foot tr_fork tr_settings ro_size ro_numbers).2.1 (F_X9_reached p0 tr_fruits tr_standings tr_x tr_height tr_foot tr_fork tr_settings ro_size ro_numbers).2.2) : wp_X9_reached Q p0 tr_fruits tr_standings tr_x tr_height tr_foot tr_fork tr_settings ro_size ro_numbers := dt_X9_reached h (fun o eo => by rw [eo]; exact hq)
theorem dw_X9_reached {Q : Int32 → Int32 → (Nat → Int32) → Prop} {p0 : Int32} {tr_fruits : Int32} {tr_standings : Int32} {tr_x : Nat → Int32} {tr_height : Nat → Int32} {tr_foot : Nat → Int32} {tr_fork : Nat → Int32} {tr_settings : Nat → Int32} {ro_size : Int32} {ro_numbers : Nat → Int32} (h : wp_X9_reached (fun o0 o1 o2 => (o0, o1, o2) = F_X9_reached p0 tr_fruits tr_standings tr_x tr_height tr_foot tr_fork tr_settings ro_size ro_numbers → Q o0 o1 o2) p0 tr_fruits tr_standings tr_x tr_height tr_foot tr_fork tr_settings ro_size ro_numbers) : wp_X9_reached Q p0 tr_fruits tr_standings tr_x tr_height tr_foot tr_fork tr_settings ro_size ro_numbers := dt_X9_reached h (fun o eo hp => hp eo)
noncomputable def F_X10_reachBy (p0 : Int32) (p1 : Int32) (m_told : Nat → Int32) : Int32 := (((m_told (0 : Int32).toNatClampNeg) + (p0 * (m_told (1 : Int32).toNatClampNeg))) + (p1 * (m_told (2 : Int32).toNatClampNeg)))
set_option maxHeartbeats 200000 in
set_option maxRecDepth 10000 in
theorem dt_X10_reachBy {P Q : Int32 → Prop} {p0 : Int32} {p1 : Int32} {m_told : Nat → Int32} (h : wp_X10_reachBy P p0 p1 m_told) (hq : ∀ o : Int32, o = F_X10_reachBy p0 p1 m_told → P o → Q o) : wp_X10_reachBy Q p0 p1 m_told := by
  rw [F_X10_reachBy] at hq
  refine ae ?_
  have h := h _ rfl
  refine ae ?_
  have h := h _ rfl
  have q9 := hq _ rfl
  exact q9 h
theorem du_X10_reachBy {P Q : Int32 → Prop} {p0 : Int32} {p1 : Int32} {m_told : Nat → Int32} (h : wp_X10_reachBy P p0 p1 m_told) (hq : P (F_X10_reachBy p0 p1 m_told) → Q (F_X10_reachBy p0 p1 m_told)) : wp_X10_reachBy Q p0 p1 m_told := dt_X10_reachBy h (fun o eo => by rw [eo]; exact hq)
theorem dw_X10_reachBy {Q : Int32 → Prop} {p0 : Int32} {p1 : Int32} {m_told : Nat → Int32} (h : wp_X10_reachBy (fun o0 => o0 = F_X10_reachBy p0 p1 m_told → Q o0) p0 p1 m_told) : wp_X10_reachBy Q p0 p1 m_told := dt_X10_reachBy h (fun o eo hp => hp eo)
noncomputable def j_X10_reachedFrom_41 {R : Type} (k6 : Int32 → Int32 → Int32 → Int32 → Int32 → R) (m_fruits : Int32) (m_x : Nat → Int32) (m_height : Nat → Int32) (m_foot : Nat → Int32) (m_fork : Nat → Int32) (m_told : Nat → Int32) (x1 : Int32) (x2 : Int32) (x3 : Int32) (x5 : Int32) (k0 : Int32) (k1 : Int32) : R := k6 x1 x2 x3 (k0 ||| k1) (x5 + 1)
noncomputable def bd_X10_reachedFrom_6 (m_fruits : Int32) (m_x : Nat → Int32) (m_height : Nat → Int32) (m_foot : Nat → Int32) (m_fork : Nat → Int32) (m_told : Nat → Int32) (x1 : Int32) (x2 : Int32) (x3 : Int32) (c : Int32) (s : Int32) : Int32 := if (F_X10_isWithin c x1 (F_X10_reachBy x2 x3 m_told) m_x m_height m_foot m_fork) = 0 then (j_X10_reachedFrom_41 (fun q0 q1 q2 q3 q4 => q3) m_fruits m_x m_height m_foot m_fork m_told x1 x2 x3 c s 0) else (j_X10_reachedFrom_41 (fun q0 q1 q2 q3 q4 => q3) m_fruits m_x m_height m_foot m_fork m_told x1 x2 x3 c s (1 <<< (c &&& 31)))
noncomputable def ex_X10_reachedFrom_6 {R : Type} (po : Int32 → R) (m_fruits : Int32) (m_x : Nat → Int32) (m_height : Nat → Int32) (m_foot : Nat → Int32) (m_fork : Nat → Int32) (m_told : Nat → Int32) (x1 : Int32) (x2 : Int32) (x3 : Int32) (c : Int32) (s : Int32) : R := po s
set_option maxHeartbeats 200000 in
set_option maxRecDepth 10000 in
theorem dl_X10_reachedFrom_6 {P Q : Int32 → Prop} {m_fruits : Int32} {m_x : Nat → Int32} {m_height : Nat → Int32} {m_foot : Nat → Int32} {m_fork : Nat → Int32} {m_told : Nat → Int32} {x1 : Int32} {x2 : Int32} {x3 : Int32} {a : Int32} {i : Nat} (hi0 : i < 2147483648) (hE : ∀ (c : Int32) (s : Int32), c = nI (i + (Int32.toInt m_fruits - ((i : Nat) : Int)).toNat) → s = itr (bd_X10_reachedFrom_6 m_fruits m_x m_height m_foot m_fork m_told x1 x2 x3) a i (Int32.toInt m_fruits - ((i : Nat) : Int)).toNat → (P s) → (Q s)) : ∀ (n k : Nat) (c : Int32), c = nI (i + k) → k ≤ (Int32.toInt m_fruits - ((i : Nat) : Int)).toNat → wb_X10_reachedFrom_6 P m_fruits m_x m_height m_foot m_fork m_told n x1 x2 x3 (itr (bd_X10_reachedFrom_6 m_fruits m_x m_height m_foot m_fork m_told x1 x2 x3) a i k) c → wb_X10_reachedFrom_6 Q m_fruits m_x m_height m_foot m_fork m_told n x1 x2 x3 (itr (bd_X10_reachedFrom_6 m_fruits m_x m_height m_foot m_fork m_told x1 x2 x3) a i k) c := by
  intro n
  induction n with
  | zero => intro k c hc hk h; exact False.elim h
  | succ n ih =>
    intro k c hc hk h
    have hr := tp_r m_fruits
    have hi : Int32.toInt c = ((i + k : Nat) : Int) := by rw [hc]; exact nI_toInt (by omega)
    refine And.intro (fun t0 => ?_) (fun t0 => ?_)
    · have h := And.left h t0
      have t1 := (fa_le _ _).mp t0
      have hk2 : k = (Int32.toInt m_fruits - ((i : Nat) : Int)).toNat := by omega
      subst hk2
      exact hE _ _ hc rfl h
    · have h := And.right h t0
      have t1 := mt (fa_le _ _).mpr t0
      have hs : ∀ o : Int32, o = itr (bd_X10_reachedFrom_6 m_fruits m_x m_height m_foot m_fork m_told x1 x2 x3) a i (k + 1) → wb_X10_reachedFrom_6 P m_fruits m_x m_height m_foot m_fork m_told n x1 x2 x3 o (c + 1) → wb_X10_reachedFrom_6 Q m_fruits m_x m_height m_foot m_fork m_told n x1 x2 x3 o (c + 1) := by
        intro o eo h9
        have q := ih (k + 1) (c + 1) (by rw [hc]; exact nI_1 _) (by omega)
        rw [← eo] at q
        exact q h9
      rw [itr_s, ← hc, bd_X10_reachedFrom_6] at hs
      refine du_X10_reachBy h ?_
      intro h
      refine du_X10_isWithin h ?_
      intro h
      refine And.intro (fun c1 => ?_) (fun c1 => ?_)
      · have h := And.left h c1
        rw [if_pos c1] at hs
        rw [j_X10_reachedFrom_41] at hs
        unfold ws_X10_reachedFrom_41 at h ⊢
        refine ae ?_
        have h := h _ rfl
        refine ae ?_
        have h := h _ rfl
        have q9 := hs _ rfl
        exact q9 h
      · have h := And.right h c1
        rw [if_neg c1] at hs
        refine ae ?_
        have h := h _ rfl
        rw [j_X10_reachedFrom_41] at hs
        unfold ws_X10_reachedFrom_41 at h ⊢
        refine ae ?_
        have h := h _ rfl
        refine ae ?_
        have h := h _ rfl
        have q9 := hs _ rfl
        exact q9 h
noncomputable def F_X10_reachedFrom (p0 : Int32) (p1 : Int32) (p2 : Int32) (m_fruits : Int32) (m_x : Nat → Int32) (m_height : Nat → Int32) (m_foot : Nat → Int32) (m_fork : Nat → Int32) (m_told : Nat → Int32) : Int32 := ex_X10_reachedFrom_6 (fun o0 => o0) m_fruits m_x m_height m_foot m_fork m_told p0 p1 p2 (nI (0 + (Int32.toInt m_fruits - ((0 : Nat) : Int)).toNat)) (itr (bd_X10_reachedFrom_6 m_fruits m_x m_height m_foot m_fork m_told p0 p1 p2) 0 0 (Int32.toInt m_fruits - ((0 : Nat) : Int)).toNat)
set_option maxHeartbeats 200000 in
set_option maxRecDepth 10000 in
theorem dt_X10_reachedFrom {P Q : Int32 → Prop} {p0 : Int32} {p1 : Int32} {p2 : Int32} {m_fruits : Int32} {m_x : Nat → Int32} {m_height : Nat → Int32} {m_foot : Nat → Int32} {m_fork : Nat → Int32} {m_told : Nat → Int32} (h : wp_X10_reachedFrom P p0 p1 p2 m_fruits m_x m_height m_foot m_fork m_told) (hq : ∀ o : Int32, o = F_X10_reachedFrom p0 p1 p2 m_fruits m_x m_height m_foot m_fork m_told → P o → Q o) : wp_X10_reachedFrom Q p0 p1 p2 m_fruits m_x m_height m_foot m_fork m_told := by
  rw [F_X10_reachedFrom] at hq
  obtain ⟨n1, h⟩ := h
  refine ⟨n1, dl_X10_reachedFrom_6 (a := 0) (i := 0) (by decide) ?_ n1 0 0 (by decide) (Nat.zero_le _) h⟩
  intro cc2 s3 ec4 es5 h
  rw [← ec4, ← es5, ex_X10_reachedFrom_6] at hq
  have q9 := hq _ rfl
  exact q9 h
theorem du_X10_reachedFrom {P Q : Int32 → Prop} {p0 : Int32} {p1 : Int32} {p2 : Int32} {m_fruits : Int32} {m_x : Nat → Int32} {m_height : Nat → Int32} {m_foot : Nat → Int32} {m_fork : Nat → Int32} {m_told : Nat → Int32} (h : wp_X10_reachedFrom P p0 p1 p2 m_fruits m_x m_height m_foot m_fork m_told) (hq : P (F_X10_reachedFrom p0 p1 p2 m_fruits m_x m_height m_foot m_fork m_told) → Q (F_X10_reachedFrom p0 p1 p2 m_fruits m_x m_height m_foot m_fork m_told)) : wp_X10_reachedFrom Q p0 p1 p2 m_fruits m_x m_height m_foot m_fork m_told := dt_X10_reachedFrom h (fun o eo => by rw [eo]; exact hq)
theorem dw_X10_reachedFrom {Q : Int32 → Prop} {p0 : Int32} {p1 : Int32} {p2 : Int32} {m_fruits : Int32} {m_x : Nat → Int32} {m_height : Nat → Int32} {m_foot : Nat → Int32} {m_fork : Nat → Int32} {m_told : Nat → Int32} (h : wp_X10_reachedFrom (fun o0 => o0 = F_X10_reachedFrom p0 p1 p2 m_fruits m_x m_height m_foot m_fork m_told → Q o0) p0 p1 p2 m_fruits m_x m_height m_foot m_fork m_told) : wp_X10_reachedFrom Q p0 p1 p2 m_fruits m_x m_height m_foot m_fork m_told := dt_X10_reachedFrom h (fun o eo hp => hp eo)
noncomputable def F_X10_reached (p0 : Int32) (m_fruits : Int32) (m_standings : Int32) (m_rowMany : Int32) (m_thrown : Int32) (m_x : Nat → Int32) (m_height : Nat → Int32) (m_foot : Nat → Int32) (m_fork : Nat → Int32) (m_told : Nat → Int32) (m_row : Nat → Int32) : Int32 × Int32 × Int32 × (Nat → Int32) := if (F_X10_isStanding p0 m_standings) = 0 then ((-1), m_rowMany, 0, m_row) else ((F_X10_reachedFrom p0 0 0 m_fruits m_x m_height m_foot m_fork m_told), (F_X10_tell (F_X10_reachedFrom p0 1 1 m_fruits m_x m_height m_foot m_fork m_told) (F_X10_tell (F_X10_reachedFrom p0 1 0 m_fruits m_x m_height m_foot m_fork m_told) 0 m_row).1 (F_X10_tell (F_X10_reachedFrom p0 1 0 m_fruits m_x m_height m_foot m_fork m_told) 0 m_row).2).1, 0, (F_X10_tell (F_X10_reachedFrom p0 1 1 m_fruits m_x m_height m_foot m_fork m_told) (F_X10_tell (F_X10_reachedFrom p0 1 0 m_fruits m_x m_height m_foot m_fork m_told) 0 m_row).1 (F_X10_tell (F_X10_reachedFrom p0 1 0 m_fruits m_x m_height m_foot m_fork m_told) 0 m_row).2).2)
set_option maxHeartbeats 200000 in
set_option maxRecDepth 10000 in
theorem dt_X10_reached {P Q : Int32 → Int32 → Int32 → (Nat → Int32) → Prop} {p0 : Int32} {m_fruits : Int32} {m_standings : Int32} {m_rowMany : Int32} {m_thrown : Int32} {m_x : Nat → Int32} {m_height : Nat → Int32} {m_foot : Nat → Int32} {m_fork : Nat → Int32} {m_told : Nat → Int32} {m_row : Nat → Int32} (h : wp_X10_reached P p0 m_fruits m_standings m_rowMany m_thrown m_x m_height m_foot m_fork m_told m_row) (hq : ∀ o : Int32 × Int32 × Int32 × (Nat → Int32), o = F_X10_reached p0 m_fruits m_standings m_rowMany m_thrown m_x m_height m_foot m_fork m_told m_row → P o.1 o.2.1 o.2.2.1 o.2.2.2 → Q o.1 o.2.1 o.2.2.1 o.2.2.2) : wp_X10_reached Q p0 m_fruits m_standings m_rowMany m_thrown m_x m_height m_foot m_fork m_told m_row := by
  rw [F_X10_reached] at hq
  refine du_X10_isStanding h ?_
  intro h
  refine And.intro (fun c1 => ?_) (fun c1 => ?_)
  · have h := And.left h c1
    rw [if_neg c1] at hq
    refine du_X10_reachedFrom h ?_
    intro h
    refine du_X10_tell h ?_
    intro h
    refine du_X10_reachedFrom h ?_
    intro h
    refine du_X10_tell h ?_
    intro h
    refine du_X10_reachedFrom h ?_
    intro h
    have q9 := hq _ rfl
    dsimp only at q9
    exact q9 h
  · have h := And.right h c1
    rw [if_pos c1] at hq
    have q9 := hq _ rfl
    dsimp only at q9
    exact q9 h
theorem du_X10_reached {P Q : Int32 → Int32 → Int32 → (Nat → Int32) → Prop} {p0 : Int32} {m_fruits : Int32} {m_standings : Int32} {m_rowMany : Int32} {m_thrown : Int32} {m_x : Nat → Int32} {m_height : Nat → Int32} {m_foot : Nat → Int32} {m_fork : Nat → Int32} {m_told : Nat → Int32} {m_row : Nat → Int32} (h : wp_X10_reached P p0 m_fruits m_standings m_rowMany m_thrown m_x m_height m_foot m_fork m_told m_row) (hq : P (F_X10_reached p0 m_fruits m_standings m_rowMany m_thrown m_x m_height m_foot m_fork m_told m_row).1 (F_X10_reached p0 m_fruits m_standings m_rowMany m_thrown m_x m_height m_foot m_fork m_told m_row).2.1 (F_X10_reached p0 m_fruits m_standings m_rowMany m_thrown m_x m_height m_foot m_fork m_told m_row).2.2.1 (F_X10_reached p0 m_fruits m_standings m_rowMany m_thrown m_x m_height m_foot m_fork m_told m_row).2.2.2 → Q (F_X10_reached p0 m_fruits m_standings m_rowMany m_thrown m_x m_height m_foot m_fork m_told m_row).1 (F_X10_reached p0 m_fruits m_standings m_rowMany m_thrown m_x m_height m_foot m_fork m_told m_row).2.1 (F_X10_reached p0 m_fruits m_standings m_rowMany m_thrown m_x m_height m_foot m_fork m_told m_row).2.2.1 (F_X10_reached p0 m_fruits m_standings m_rowMany m_thrown m_x m_height m_foot m_fork m_told m_row).2.2.2) : wp_X10_reached Q p0 m_fruits m_standings m_rowMany m_thrown m_x m_height m_foot m_fork m_told m_row := dt_X10_reached h (fun o eo => by rw [eo]; exact hq)
theorem dw_X10_reached {Q : Int32 → Int32 → Int32 → (Nat → Int32) → Prop} {p0 : Int32} {m_fruits : Int32} {m_standings : Int32} {m_rowMany : Int32} {m_thrown : Int32} {m_x : Nat → Int32} {m_height : Nat → Int32} {m_foot : Nat → Int32} {m_fork : Nat → Int32} {m_told : Nat → Int32} {m_row : Nat → Int32} (h : wp_X10_reached (fun o0 o1 o2 o3 => (o0, o1, o2, o3) = F_X10_reached p0 m_fruits m_standings m_rowMany m_thrown m_x m_height m_foot m_fork m_told m_row → Q o0 o1 o2 o3) p0 m_fruits m_standings m_rowMany m_thrown m_x m_height m_foot m_fork m_told m_row) : wp_X10_reached Q p0 m_fruits m_standings m_rowMany m_thrown m_x m_height m_foot m_fork m_told m_row := dt_X10_reached h (fun o eo hp => hp eo)
noncomputable def bd_X10_orchard_105 (m_text : Nat → Int32) (m_rule : Nat → Int32) (m_standings : Int32) (m_typed : Int32) (m_thrown : Int32) (m_read : Nat) (m_length : Int32) (m_top : Int32) (m_at : Int32) (m_wrong : Int32) (m_newFruitMany : Int32) (m_newStandingMany : Int32) (m_undoMany : Int32) (m_came : Int32) (m_foot : Nat → Int32) (m_fork : Nat → Int32) (m_newFruits : Nat → Int32) (m_newStandings : Nat → Int32) (c : Int32) (s : Int32 × (Nat → Int32) × (Nat → Int32) × (Nat → Int32) × (Nat → Int32) × (Nat → Int32)) : Int32 × (Nat → Int32) × (Nat → Int32) × (Nat → Int32) × (Nat → Int32) × (Nat → Int32) := ((s.1 + 1), (upd s.2.1 s.1.toNatClampNeg 0), (upd s.2.2.1 s.1.toNatClampNeg (m_newFruits (4 * c).toNatClampNeg)), (upd s.2.2.2.1 s.1.toNatClampNeg (m_newFruits ((4 * c) + 1).toNatClampNeg)), (upd s.2.2.2.2.1 s.1.toNatClampNeg (m_newFruits ((4 * c) + 2).toNatClampNeg)), (upd s.2.2.2.2.2 s.1.toNatClampNeg (m_newFruits ((4 * c) + 3).toNatClampNeg)))
noncomputable def bd_X10_orchard_215 (m_text : Nat → Int32) (m_rule : Nat → Int32) (m_fruits : Int32) (m_typed : Int32) (m_thrown : Int32) (m_read : Nat) (m_length : Int32) (m_top : Int32) (m_at : Int32) (m_wrong : Int32) (m_newFruitMany : Int32) (m_newStandingMany : Int32) (m_undoMany : Int32) (m_came : Int32) (m_now : Nat → Int32) (m_x : Nat → Int32) (m_height : Nat → Int32) (m_worth : Nat → Int32) (m_ripe : Nat → Int32) (m_newFruits : Nat → Int32) (m_newStandings : Nat → Int32) (c : Int32) (s : Int32 × (Nat → Int32) × (Nat → Int32)) : Int32 × (Nat → Int32) × (Nat → Int32) := ((s.1 + 1), (upd s.2.1 s.1.toNatClampNeg (m_newStandings (2 * c).toNatClampNeg)), (upd s.2.2 s.1.toNatClampNeg (m_newStandings ((2 * c) + 1).toNatClampNeg)))
noncomputable def ex_X10_orchard_215 {R : Type} (po : Int32 → Int32 → Int32 → Int32 → Int32 → Nat → Int32 → Int32 → Int32 → Int32 → Int32 → Int32 → Int32 → Int32 → (Nat → Int32) → (Nat → Int32) → (Nat → Int32) → (Nat → Int32) → (Nat → Int32) → (Nat → Int32) → (Nat → Int32) → (Nat → Int32) → (Nat → Int32) → R) (m_text : Nat → Int32) (m_rule : Nat → Int32) (m_fruits : Int32) (m_typed : Int32) (m_thrown : Int32) (m_read : Nat) (m_length : Int32) (m_top : Int32) (m_at : Int32) (m_wrong : Int32) (m_newFruitMany : Int32) (m_newStandingMany : Int32) (m_undoMany : Int32) (m_came : Int32) (m_now : Nat → Int32) (m_x : Nat → Int32) (m_height : Nat → Int32) (m_worth : Nat → Int32) (m_ripe : Nat → Int32) (m_newFruits : Nat → Int32) (m_newStandings : Nat → Int32) (c : Int32) (s : Int32 × (Nat → Int32) × (Nat → Int32)) : R := po (m_newFruitMany + m_newStandingMany) m_fruits s.1 m_typed m_thrown m_read m_length m_top m_at m_wrong m_newFruitMany m_newStandingMany 0 (m_came + 1) m_now m_x m_height m_worth m_ripe s.2.1 s.2.2 m_newFruits m_newStandings
set_option maxHeartbeats 200000 in
set_option maxRecDepth 10000 in
theorem dl_X10_orchard_215 {P Q : Int32 → Int32 → Int32 → Int32 → Int32 → Nat → Int32 → Int32 → Int32 → Int32 → Int32 → Int32 → Int32 → Int32 → (Nat → Int32) → (Nat → Int32) → (Nat → Int32) → (Nat → Int32) → (Nat → Int32) → (Nat → Int32) → (Nat → Int32) → (Nat → Int32) → (Nat → Int32) → Prop} {m_text : Nat → Int32} {m_rule : Nat → Int32} {m_fruits : Int32} {m_typed : Int32} {m_thrown : Int32} {m_read : Nat} {m_length : Int32} {m_top : Int32} {m_at : Int32} {m_wrong : Int32} {m_newFruitMany : Int32} {m_newStandingMany : Int32} {m_undoMany : Int32} {m_came : Int32} {m_now : Nat → Int32} {m_x : Nat → Int32} {m_height : Nat → Int32} {m_worth : Nat → Int32} {m_ripe : Nat → Int32} {m_newFruits : Nat → Int32} {m_newStandings : Nat → Int32} {a : Int32 × (Nat → Int32) × (Nat → Int32)} {i : Nat} (hi0 : i < 2147483648) (hE : ∀ (c : Int32) (s : Int32 × (Nat → Int32) × (Nat → Int32)), c = nI (i + (Int32.toInt m_newStandingMany - ((i : Nat) : Int)).toNat) → s = itr (bd_X10_orchard_215 m_text m_rule m_fruits m_typed m_thrown m_read m_length m_top m_at m_wrong m_newFruitMany m_newStandingMany m_undoMany m_came m_now m_x m_height m_worth m_ripe m_newFruits m_newStandings) a i (Int32.toInt m_newStandingMany - ((i : Nat) : Int)).toNat → (∀ v_7 : Int32, v_7 = m_came + 1 → P (m_newFruitMany + m_newStandingMany) m_fruits s.1 m_typed m_thrown m_read m_length m_top m_at m_wrong m_newFruitMany m_newStandingMany 0 v_7 m_now m_x m_height m_worth m_ripe s.2.1 s.2.2 m_newFruits m_newStandings) → (∀ v_7 : Int32, v_7 = m_came + 1 → Q (m_newFruitMany + m_newStandingMany) m_fruits s.1 m_typed m_thrown m_read m_length m_top m_at m_wrong m_newFruitMany m_newStandingMany 0 v_7 m_now m_x m_height m_worth m_ripe s.2.1 s.2.2 m_newFruits m_newStandings)) : ∀ (n k : Nat) (c : Int32), c = nI (i + k) → k ≤ (Int32.toInt m_newStandingMany - ((i : Nat) : Int)).toNat → wb_X10_orchard_215 P m_text m_rule n c m_fruits (itr (bd_X10_orchard_215 m_text m_rule m_fruits m_typed m_thrown m_read m_length m_top m_at m_wrong m_newFruitMany m_newStandingMany m_undoMany m_came m_now m_x m_height m_worth m_ripe m_newFruits m_newStandings) a i k).1 m_typed m_thrown m_read m_length m_top m_at m_wrong m_newFruitMany m_newStandingMany m_undoMany m_came m_now m_x m_height m_worth m_ripe (itr (bd_X10_orchard_215 m_text m_rule m_fruits m_typed m_thrown m_read m_length m_top m_at m_wrong m_newFruitMany m_newStandingMany m_undoMany m_came m_now m_x m_height m_worth m_ripe m_newFruits m_newStandings) a i k).2.1 (itr (bd_X10_orchard_215 m_text m_rule m_fruits m_typed m_thrown m_read m_length m_top m_at m_wrong m_newFruitMany m_newStandingMany m_undoMany m_came m_now m_x m_height m_worth m_ripe m_newFruits m_newStandings) a i k).2.2 m_newFruits m_newStandings → wb_X10_orchard_215 Q m_text m_rule n c m_fruits (itr (bd_X10_orchard_215 m_text m_rule m_fruits m_typed m_thrown m_read m_length m_top m_at m_wrong m_newFruitMany m_newStandingMany m_undoMany m_came m_now m_x m_height m_worth m_ripe m_newFruits m_newStandings) a i k).1 m_typed m_thrown m_read m_length m_top m_at m_wrong m_newFruitMany m_newStandingMany m_undoMany m_came m_now m_x m_height m_worth m_ripe (itr (bd_X10_orchard_215 m_text m_rule m_fruits m_typed m_thrown m_read m_length m_top m_at m_wrong m_newFruitMany m_newStandingMany m_undoMany m_came m_now m_x m_height m_worth m_ripe m_newFruits m_newStandings) a i k).2.1 (itr (bd_X10_orchard_215 m_text m_rule m_fruits m_typed m_thrown m_read m_length m_top m_at m_wrong m_newFruitMany m_newStandingMany m_undoMany m_came m_now m_x m_height m_worth m_ripe m_newFruits m_newStandings) a i k).2.2 m_newFruits m_newStandings := by
  intro n
  induction n with
  | zero => intro k c hc hk h; exact False.elim h
  | succ n ih =>
    intro k c hc hk h
    have hr := tp_r m_newStandingMany
    have hi : Int32.toInt c = ((i + k : Nat) : Int) := by rw [hc]; exact nI_toInt (by omega)
    refine And.intro (fun t0 => ?_) (fun t0 => ?_)
    · have h := And.left h t0
      have t1 := (fa_le _ _).mp t0
      have hk2 : k = (Int32.toInt m_newStandingMany - ((i : Nat) : Int)).toNat := by omega
      subst hk2
      exact hE _ _ hc rfl h
    · have h := And.right h t0
      have t1 := mt (fa_le _ _).mpr t0
      have hs : ∀ o : Int32 × (Nat → Int32) × (Nat → Int32), o = itr (bd_X10_orchard_215 m_text m_rule m_fruits m_typed m_thrown m_read m_length m_top m_at m_wrong m_newFruitMany m_newStandingMany m_undoMany m_came m_now m_x m_height m_worth m_ripe m_newFruits m_newStandings) a i (k + 1) → wb_X10_orchard_215 P m_text m_rule n (c + 1) m_fruits o.1 m_typed m_thrown m_read m_length m_top m_at m_wrong m_newFruitMany m_newStandingMany m_undoMany m_came m_now m_x m_height m_worth m_ripe o.2.1 o.2.2 m_newFruits m_newStandings → wb_X10_orchard_215 Q m_text m_rule n (c + 1) m_fruits o.1 m_typed m_thrown m_read m_length m_top m_at m_wrong m_newFruitMany m_newStandingMany m_undoMany m_came m_now m_x m_height m_worth m_ripe o.2.1 o.2.2 m_newFruits m_newStandings := by
        intro o eo h9
        have q := ih (k + 1) (c + 1) (by rw [hc]; exact nI_1 _) (by omega)
        rw [← eo] at q
        exact q h9
      rw [itr_s, ← hc, bd_X10_orchard_215] at hs
      refine ae ?_
      have h := h _ rfl
      refine And.intro (And.left h) ?_
      have h := And.right h
      refine ae ?_
      have h := h _ rfl
      refine And.intro (And.left h) ?_
      have h := And.right h
      refine ae ?_
      have h := h _ rfl
      refine ae ?_
      have h := h _ rfl
      refine And.intro (And.left h) ?_
      have h := And.right h
      refine ae ?_
      have h := h _ rfl
      refine And.intro (And.left h) ?_
      have h := And.right h
      refine ae ?_
      have h := h _ rfl
      refine ae ?_
      have h := h _ rfl
      have q9 := hs _ rfl
      dsimp only at q9
      exact q9 h
noncomputable def ex_X10_orchard_105 {R : Type} (po : Int32 → Int32 → Int32 → Int32 → Int32 → Nat → Int32 → Int32 → Int32 → Int32 → Int32 → Int32 → Int32 → Int32 → (Nat → Int32) → (Nat → Int32) → (Nat → Int32) → (Nat → Int32) → (Nat → Int32) → (Nat → Int32) → (Nat → Int32) → (Nat → Int32) → (Nat → Int32) → R) (m_text : Nat → Int32) (m_rule : Nat → Int32) (m_standings : Int32) (m_typed : Int32) (m_thrown : Int32) (m_read : Nat) (m_length : Int32) (m_top : Int32) (m_at : Int32) (m_wrong : Int32) (m_newFruitMany : Int32) (m_newStandingMany : Int32) (m_undoMany : Int32) (m_came : Int32) (m_foot : Nat → Int32) (m_fork : Nat → Int32) (m_newFruits : Nat → Int32) (m_newStandings : Nat → Int32) (c : Int32) (s : Int32 × (Nat → Int32) × (Nat → Int32) × (Nat → Int32) × (Nat → Int32) × (Nat → Int32)) : R := ex_X10_orchard_215 po m_text m_rule s.1 m_typed m_thrown m_read m_length m_top m_at m_wrong m_newFruitMany m_newStandingMany m_undoMany m_came s.2.1 s.2.2.1 s.2.2.2.1 s.2.2.2.2.1 s.2.2.2.2.2 m_newFruits m_newStandings (nI (0 + (Int32.toInt m_newStandingMany - ((0 : Nat) : Int)).toNat)) (itr (bd_X10_orchard_215 m_text m_rule s.1 m_typed m_thrown m_read m_length m_top m_at m_wrong m_newFruitMany m_newStandingMany m_undoMany m_came s.2.1 s.2.2.1 s.2.2.2.1 s.2.2.2.2.1 s.2.2.2.2.2 m_newFruits m_newStandings) (m_standings, m_foot, m_fork) 0 (Int32.toInt m_newStandingMany - ((0 : Nat) : Int)).toNat)
set_option maxHeartbeats 200000 in
set_option maxRecDepth 10000 in
theorem dl_X10_orchard_105 {P Q : Int32 → Int32 → Int32 → Int32 → Int32 → Nat → Int32 → Int32 → Int32 → Int32 → Int32 → Int32 → Int32 → Int32 → (Nat → Int32) → (Nat → Int32) → (Nat → Int32) → (Nat → Int32) → (Nat → Int32) → (Nat → Int32) → (Nat → Int32) → (Nat → Int32) → (Nat → Int32) → Prop} {m_text : Nat → Int32} {m_rule : Nat → Int32} {m_standings : Int32} {m_typed : Int32} {m_thrown : Int32} {m_read : Nat} {m_length : Int32} {m_top : Int32} {m_at : Int32} {m_wrong : Int32} {m_newFruitMany : Int32} {m_newStandingMany : Int32} {m_undoMany : Int32} {m_came : Int32} {m_foot : Nat → Int32} {m_fork : Nat → Int32} {m_newFruits : Nat → Int32} {m_newStandings : Nat → Int32} {a : Int32 × (Nat → Int32) × (Nat → Int32) × (Nat → Int32) × (Nat → Int32) × (Nat → Int32)} {i : Nat} (hi0 : i < 2147483648) (hE : ∀ (c : Int32) (s : Int32 × (Nat → Int32) × (Nat → Int32) × (Nat → Int32) × (Nat → Int32) × (Nat → Int32)), c = nI (i + (Int32.toInt m_newFruitMany - ((i : Nat) : Int)).toNat) → s = itr (bd_X10_orchard_105 m_text m_rule m_standings m_typed m_thrown m_read m_length m_top m_at m_wrong m_newFruitMany m_newStandingMany m_undoMany m_came m_foot m_fork m_newFruits m_newStandings) a i (Int32.toInt m_newFruitMany - ((i : Nat) : Int)).toNat → (∃ n : Nat, wb_X10_orchard_215 P m_text m_rule n 0 s.1 m_standings m_typed m_thrown m_read m_length m_top m_at m_wrong m_newFruitMany m_newStandingMany m_undoMany m_came s.2.1 s.2.2.1 s.2.2.2.1 s.2.2.2.2.1 s.2.2.2.2.2 m_foot m_fork m_newFruits m_newStandings) → (∃ n : Nat, wb_X10_orchard_215 Q m_text m_rule n 0 s.1 m_standings m_typed m_thrown m_read m_length m_top m_at m_wrong m_newFruitMany m_newStandingMany m_undoMany m_came s.2.1 s.2.2.1 s.2.2.2.1 s.2.2.2.2.1 s.2.2.2.2.2 m_foot m_fork m_newFruits m_newStandings)) : ∀ (n k : Nat) (c : Int32), c = nI (i + k) → k ≤ (Int32.toInt m_newFruitMany - ((i : Nat) : Int)).toNat → wb_X10_orchard_105 P m_text m_rule n c (itr (bd_X10_orchard_105 m_text m_rule m_standings m_typed m_thrown m_read m_length m_top m_at m_wrong m_newFruitMany m_newStandingMany m_undoMany m_came m_foot m_fork m_newFruits m_newStandings) a i k).1 m_standings m_typed m_thrown m_read m_length m_top m_at m_wrong m_newFruitMany m_newStandingMany m_undoMany m_came (itr (bd_X10_orchard_105 m_text m_rule m_standings m_typed m_thrown m_read m_length m_top m_at m_wrong m_newFruitMany m_newStandingMany m_undoMany m_came m_foot m_fork m_newFruits m_newStandings) a i k).2.1 (itr (bd_X10_orchard_105 m_text m_rule m_standings m_typed m_thrown m_read m_length m_top m_at m_wrong m_newFruitMany m_newStandingMany m_undoMany m_came m_foot m_fork m_newFruits m_newStandings) a i k).2.2.1 (itr (bd_X10_orchard_105 m_text m_rule m_standings m_typed m_thrown m_read m_length m_top m_at m_wrong m_newFruitMany m_newStandingMany m_undoMany m_came m_foot m_fork m_newFruits m_newStandings) a i k).2.2.2.1 (itr (bd_X10_orchard_105 m_text m_rule m_standings m_typed m_thrown m_read m_length m_top m_at m_wrong m_newFruitMany m_newStandingMany m_undoMany m_came m_foot m_fork m_newFruits m_newStandings) a i k).2.2.2.2.1 (itr (bd_X10_orchard_105 m_text m_rule m_standings m_typed m_thrown m_read m_length m_top m_at m_wrong m_newFruitMany m_newStandingMany m_undoMany m_came m_foot m_fork m_newFruits m_newStandings) a i k).2.2.2.2.2 m_foot m_fork m_newFruits m_newStandings → wb_X10_orchard_105 Q m_text m_rule n c (itr (bd_X10_orchard_105 m_text m_rule m_standings m_typed m_thrown m_read m_length m_top m_at m_wrong m_newFruitMany m_newStandingMany m_undoMany m_came m_foot m_fork m_newFruits m_newStandings) a i k).1 m_standings m_typed m_thrown m_read m_length m_top m_at m_wrong m_newFruitMany m_newStandingMany m_undoMany m_came (itr (bd_X10_orchard_105 m_text m_rule m_standings m_typed m_thrown m_read m_length m_top m_at m_wrong m_newFruitMany m_newStandingMany m_undoMany m_came m_foot m_fork m_newFruits m_newStandings) a i k).2.1 (itr (bd_X10_orchard_105 m_text m_rule m_standings m_typed m_thrown m_read m_length m_top m_at m_wrong m_newFruitMany m_newStandingMany m_undoMany m_came m_foot m_fork m_newFruits m_newStandings) a i k).2.2.1 (itr (bd_X10_orchard_105 m_text m_rule m_standings m_typed m_thrown m_read m_length m_top m_at m_wrong m_newFruitMany m_newStandingMany m_undoMany m_came m_foot m_fork m_newFruits m_newStandings) a i k).2.2.2.1 (itr (bd_X10_orchard_105 m_text m_rule m_standings m_typed m_thrown m_read m_length m_top m_at m_wrong m_newFruitMany m_newStandingMany m_undoMany m_came m_foot m_fork m_newFruits m_newStandings) a i k).2.2.2.2.1 (itr (bd_X10_orchard_105 m_text m_rule m_standings m_typed m_thrown m_read m_length m_top m_at m_wrong m_newFruitMany m_newStandingMany m_undoMany m_came m_foot m_fork m_newFruits m_newStandings) a i k).2.2.2.2.2 m_foot m_fork m_newFruits m_newStandings := by
  intro n
  induction n with
  | zero => intro k c hc hk h; exact False.elim h
  | succ n ih =>
    intro k c hc hk h
    have hr := tp_r m_newFruitMany
    have hi : Int32.toInt c = ((i + k : Nat) : Int) := by rw [hc]; exact nI_toInt (by omega)
    refine And.intro (fun t0 => ?_) (fun t0 => ?_)
    · have h := And.left h t0
      have t1 := (fa_le _ _).mp t0
      have hk2 : k = (Int32.toInt m_newFruitMany - ((i : Nat) : Int)).toNat := by omega
      subst hk2
      exact hE _ _ hc rfl h
    · have h := And.right h t0
      have t1 := mt (fa_le _ _).mpr t0
      have hs : ∀ o : Int32 × (Nat → Int32) × (Nat → Int32) × (Nat → Int32) × (Nat → Int32) × (Nat → Int32), o = itr (bd_X10_orchard_105 m_text m_rule m_standings m_typed m_thrown m_read m_length m_top m_at m_wrong m_newFruitMany m_newStandingMany m_undoMany m_came m_foot m_fork m_newFruits m_newStandings) a i (k + 1) → wb_X10_orchard_105 P m_text m_rule n (c + 1) o.1 m_standings m_typed m_thrown m_read m_length m_top m_at m_wrong m_newFruitMany m_newStandingMany m_undoMany m_came o.2.1 o.2.2.1 o.2.2.2.1 o.2.2.2.2.1 o.2.2.2.2.2 m_foot m_fork m_newFruits m_newStandings → wb_X10_orchard_105 Q m_text m_rule n (c + 1) o.1 m_standings m_typed m_thrown m_read m_length m_top m_at m_wrong m_newFruitMany m_newStandingMany m_undoMany m_came o.2.1 o.2.2.1 o.2.2.2.1 o.2.2.2.2.1 o.2.2.2.2.2 m_foot m_fork m_newFruits m_newStandings := by
        intro o eo h9
        have q := ih (k + 1) (c + 1) (by rw [hc]; exact nI_1 _) (by omega)
        rw [← eo] at q
        exact q h9
      rw [itr_s, ← hc, bd_X10_orchard_105] at hs
      refine ae ?_
      have h := h _ rfl
      refine And.intro (And.left h) ?_
      have h := And.right h
      refine ae ?_
      have h := h _ rfl
      refine And.intro (And.left h) ?_
      have h := And.right h
      refine ae ?_
      have h := h _ rfl
      refine ae ?_
      have h := h _ rfl
      refine And.intro (And.left h) ?_
      have h := And.right h
      refine ae ?_
      have h := h _ rfl
      refine And.intro (And.left h) ?_
      have h := And.right h
      refine ae ?_
      have h := h _ rfl
      refine ae ?_
      have h := h _ rfl
      refine And.intro (And.left h) ?_
      have h := And.right h
      refine ae ?_
      have h := h _ rfl
      refine And.intro (And.left h) ?_
      have h := And.right h
      refine ae ?_
      have h := h _ rfl
      refine ae ?_
      have h := h _ rfl
      refine And.intro (And.left h) ?_
      have h := And.right h
      refine ae ?_
      have h := h _ rfl
      refine And.intro (And.left h) ?_
      have h := And.right h
      refine And.intro (And.left h) ?_
      have h := And.right h
      refine ae ?_
      have h := h _ rfl
      refine ae ?_
      have h := h _ rfl
      have q9 := hs _ rfl
      dsimp only at q9
      exact q9 h
noncomputable def F_X3_allFruits (tr_fruits : Int32) : Int32 := ((1 <<< (tr_fruits &&& 31)) - 1)
set_option maxHeartbeats 200000 in
set_option maxRecDepth 10000 in
theorem dt_X3_allFruits {P Q : Int32 → Prop} {tr_fruits : Int32} (h : wp_X3_allFruits P tr_fruits) (hq : ∀ o : Int32, o = F_X3_allFruits tr_fruits → P o → Q o) : wp_X3_allFruits Q tr_fruits := by
  rw [F_X3_allFruits] at hq
  refine ae ?_
  have h := h _ rfl
  have q9 := hq _ rfl
  exact q9 h
theorem du_X3_allFruits {P Q : Int32 → Prop} {tr_fruits : Int32} (h : wp_X3_allFruits P tr_fruits) (hq : P (F_X3_allFruits tr_fruits) → Q (F_X3_allFruits tr_fruits)) : wp_X3_allFruits Q tr_fruits := dt_X3_allFruits h (fun o eo => by rw [eo]; exact hq)
noncomputable def F_X0_hanging (tr_fruits : Int32) (no_apron : Int32) (no_basket : Int32) (no_ground : Int32) : Int32 := ((F_X3_allFruits tr_fruits) &&& (((no_apron ||| no_basket) ||| no_ground) ^^^ (-1)))
set_option maxHeartbeats 200000 in
set_option maxRecDepth 10000 in
theorem dt_X0_hanging {P Q : Int32 → Prop} {tr_fruits : Int32} {no_apron : Int32} {no_basket : Int32} {no_ground : Int32} (h : wp_X0_hanging P tr_fruits no_apron no_basket no_ground) (hq : ∀ o : Int32, o = F_X0_hanging tr_fruits no_apron no_basket no_ground → P o → Q o) : wp_X0_hanging Q tr_fruits no_apron no_basket no_ground := by
  rw [F_X0_hanging] at hq
  refine du_X3_allFruits h ?_
  intro h
  refine ae ?_
  have h := h _ rfl
  refine ae ?_
  have h := h _ rfl
  have q9 := hq _ rfl
  exact q9 h
theorem du_X0_hanging {P Q : Int32 → Prop} {tr_fruits : Int32} {no_apron : Int32} {no_basket : Int32} {no_ground : Int32} (h : wp_X0_hanging P tr_fruits no_apron no_basket no_ground) (hq : P (F_X0_hanging tr_fruits no_apron no_basket no_ground) → Q (F_X0_hanging tr_fruits no_apron no_basket no_ground)) : wp_X0_hanging Q tr_fruits no_apron no_basket no_ground := dt_X0_hanging h (fun o eo => by rw [eo]; exact hq)
noncomputable def j_X3_lowerThan_89 {R : Type} (k15 : Int32 → Int32 → Int32 → Int32 → R) (tr_fruits : Int32) (tr_x : Nat → Int32) (tr_height : Nat → Int32) (x1 : Int32) (x2 : Int32) (x3 : Int32) (x4 : Int32) : R := k15 x1 x2 x3 (x4 + 1)
noncomputable def j_X3_lowerThan_66 {R : Type} (k15 : Int32 → Int32 → Int32 → Int32 → R) (tr_fruits : Int32) (tr_x : Nat → Int32) (tr_height : Nat → Int32) (x1 : Int32) (x2 : Int32) (x3 : Int32) (x4 : Int32) (k0 : Int32) : R := if k0 = 0 then (j_X3_lowerThan_89 k15 tr_fruits tr_x tr_height x1 x2 x3 x4) else (if ((x2 >>> (x4 &&& 31)) &&& 1) = 0 then (j_X3_lowerThan_89 k15 tr_fruits tr_x tr_height x1 x2 x3 x4) else (j_X3_lowerThan_89 k15 tr_fruits tr_x tr_height x1 x2 (x3 ||| (1 <<< (x4 &&& 31))) x4))
noncomputable def j_X3_lowerThan_65 {R : Type} (k15 : Int32 → Int32 → Int32 → Int32 → R) (tr_fruits : Int32) (tr_x : Nat → Int32) (tr_height : Nat → Int32) (x1 : Int32) (x2 : Int32) (x3 : Int32) (x4 : Int32) : R := j_X3_lowerThan_66 k15 tr_fruits tr_x tr_height x1 x2 x3 x4 0
noncomputable def bd_X3_lowerThan_15 (tr_fruits : Int32) (tr_x : Nat → Int32) (tr_height : Nat → Int32) (x1 : Int32) (x2 : Int32) (c : Int32) (s : Int32) : Int32 := if 1 < (if 0 ≤ ((tr_x c.toNatClampNeg) - (tr_x x1.toNatClampNeg)) then ((tr_x c.toNatClampNeg) - (tr_x x1.toNatClampNeg)) else 0 - ((tr_x c.toNatClampNeg) - (tr_x x1.toNatClampNeg))) then (j_X3_lowerThan_65 (fun q0 q1 q2 q3 => q2) tr_fruits tr_x tr_height x1 x2 s c) else (if (tr_height x1.toNatClampNeg) ≤ (tr_height c.toNatClampNeg) then (j_X3_lowerThan_65 (fun q0 q1 q2 q3 => q2) tr_fruits tr_x tr_height x1 x2 s c) else (j_X3_lowerThan_66 (fun q0 q1 q2 q3 => q2) tr_fruits tr_x tr_height x1 x2 s c 1))
noncomputable def ex_X3_lowerThan_15 {R : Type} (po : Int32 → R) (tr_fruits : Int32) (tr_x : Nat → Int32) (tr_height : Nat → Int32) (x1 : Int32) (x2 : Int32) (c : Int32) (s : Int32) : R := po s
set_option maxHeartbeats 200000 in
set_option maxRecDepth 10000 in
theorem dl_X3_lowerThan_15 {P Q : Int32 → Prop} {tr_fruits : Int32} {tr_x : Nat → Int32} {tr_height : Nat → Int32} {x1 : Int32} {x2 : Int32} {a : Int32} {i : Nat} (hi0 : i < 2147483648) (hE : ∀ (c : Int32) (s : Int32), c = nI (i + (Int32.toInt tr_fruits - ((i : Nat) : Int)).toNat) → s = itr (bd_X3_lowerThan_15 tr_fruits tr_x tr_height x1 x2) a i (Int32.toInt tr_fruits - ((i : Nat) : Int)).toNat → (P s) → (Q s)) : ∀ (n k : Nat) (c : Int32), c = nI (i + k) → k ≤ (Int32.toInt tr_fruits - ((i : Nat) : Int)).toNat → wb_X3_lowerThan_15 P tr_fruits tr_x tr_height n x1 x2 (itr (bd_X3_lowerThan_15 tr_fruits tr_x tr_height x1 x2) a i k) c → wb_X3_lowerThan_15 Q tr_fruits tr_x tr_height n x1 x2 (itr (bd_X3_lowerThan_15 tr_fruits tr_x tr_height x1 x2) a i k) c := by
  intro n
  induction n with
  | zero => intro k c hc hk h; exact False.elim h
  | succ n ih =>
    intro k c hc hk h
    have hr := tp_r tr_fruits
    have hi : Int32.toInt c = ((i + k : Nat) : Int) := by rw [hc]; exact nI_toInt (by omega)
    refine And.intro (fun t0 => ?_) (fun t0 => ?_)
    · have h := And.left h t0
      have t1 := (fa_le _ _).mp t0
      have hk2 : k = (Int32.toInt tr_fruits - ((i : Nat) : Int)).toNat := by omega
      subst hk2
      exact hE _ _ hc rfl h
    · have h := And.right h t0
      have t1 := mt (fa_le _ _).mpr t0
      have hs : ∀ o : Int32, o = itr (bd_X3_lowerThan_15 tr_fruits tr_x tr_height x1 x2) a i (k + 1) → wb_X3_lowerThan_15 P tr_fruits tr_x tr_height n x1 x2 o (c + 1) → wb_X3_lowerThan_15 Q tr_fruits tr_x tr_height n x1 x2 o (c + 1) := by
        intro o eo h9
        have q := ih (k + 1) (c + 1) (by rw [hc]; exact nI_1 _) (by omega)
        rw [← eo] at q
        exact q h9
      rw [itr_s, ← hc, bd_X3_lowerThan_15] at hs
      refine And.intro (And.left h) ?_
      have h := And.right h
      refine ae ?_
      have h := h _ rfl
      refine And.intro (And.left h) ?_
      have h := And.right h
      refine ae ?_
      have h := h _ rfl
      refine ae ?_
      have h := h _ rfl
      refine And.intro (fun c1 => ?_) (fun c1 => ?_)
      · have h := And.left h c1
        rw [if_pos c1] at hs
        rw [j_X3_lowerThan_65] at hs
        unfold ws_X3_lowerThan_65 at h ⊢
        rw [j_X3_lowerThan_66] at hs
        unfold ws_X3_lowerThan_66 at h ⊢
        refine And.intro (fun c2 => ?_) (fun c2 => ?_)
        · have h := And.left h c2
          rw [if_pos c2] at hs
          rw [j_X3_lowerThan_89] at hs
          unfold ws_X3_lowerThan_89 at h ⊢
          refine ae ?_
          have h := h _ rfl
          have q9 := hs _ rfl
          exact q9 h
        · have h := And.right h c2
          rw [if_neg c2] at hs
          refine ae ?_
          have h := h _ rfl
          refine And.intro (fun c3 => ?_) (fun c3 => ?_)
          · have h := And.left h c3
            rw [if_pos c3] at hs
            rw [j_X3_lowerThan_89] at hs
            unfold ws_X3_lowerThan_89 at h ⊢
            refine ae ?_
            have h := h _ rfl
            have q9 := hs _ rfl
            exact q9 h
          · have h := And.right h c3
            rw [if_neg c3] at hs
            refine ae ?_
            have h := h _ rfl
            rw [j_X3_lowerThan_89] at hs
            unfold ws_X3_lowerThan_89 at h ⊢
            refine ae ?_
            have h := h _ rfl
            have q9 := hs _ rfl
            exact q9 h
      · have h := And.right h c1
        rw [if_neg c1] at hs
        refine And.intro (And.left h) ?_
        have h := And.right h
        refine ae ?_
        have h := h _ rfl
        refine And.intro (And.left h) ?_
        have h := And.right h
        refine And.intro (fun c4 => ?_) (fun c4 => ?_)
        · have h := And.left h c4
          rw [if_pos c4] at hs
          rw [j_X3_lowerThan_65] at hs
          unfold ws_X3_lowerThan_65 at h ⊢
          rw [j_X3_lowerThan_66] at hs
          unfold ws_X3_lowerThan_66 at h ⊢
          refine And.intro (fun c5 => ?_) (fun c5 => ?_)
          · have h := And.left h c5
            rw [if_pos c5] at hs
            rw [j_X3_lowerThan_89] at hs
            unfold ws_X3_lowerThan_89 at h ⊢
            refine ae ?_
            have h := h _ rfl
            have q9 := hs _ rfl
            exact q9 h
          · have h := And.right h c5
            rw [if_neg c5] at hs
            refine ae ?_
            have h := h _ rfl
            refine And.intro (fun c6 => ?_) (fun c6 => ?_)
            · have h := And.left h c6
              rw [if_pos c6] at hs
              rw [j_X3_lowerThan_89] at hs
              unfold ws_X3_lowerThan_89 at h ⊢
              refine ae ?_
              have h := h _ rfl
              have q9 := hs _ rfl
              exact q9 h
            · have h := And.right h c6
              rw [if_neg c6] at hs
              refine ae ?_
              have h := h _ rfl
              rw [j_X3_lowerThan_89] at hs
              unfold ws_X3_lowerThan_89 at h ⊢
              refine ae ?_
              have h := h _ rfl
              have q9 := hs _ rfl
              exact q9 h
        · have h := And.right h c4
          rw [if_neg c4] at hs
          rw [j_X3_lowerThan_66] at hs
          unfold ws_X3_lowerThan_66 at h ⊢
          refine And.intro (fun c7 => ?_) (fun c7 => ?_)
          · have h := And.left h c7
            rw [if_pos c7] at hs
            rw [j_X3_lowerThan_89] at hs
            unfold ws_X3_lowerThan_89 at h ⊢
            refine ae ?_
            have h := h _ rfl
            have q9 := hs _ rfl
            exact q9 h
          · have h := And.right h c7
            rw [if_neg c7] at hs
            refine ae ?_
            have h := h _ rfl
            refine And.intro (fun c8 => ?_) (fun c8 => ?_)
            · have h := And.left h c8
              rw [if_pos c8] at hs
              rw [j_X3_lowerThan_89] at hs
              unfold ws_X3_lowerThan_89 at h ⊢
              refine ae ?_
              have h := h _ rfl
              have q9 := hs _ rfl
              exact q9 h
            · have h := And.right h c8
              rw [if_neg c8] at hs
              refine ae ?_
              have h := h _ rfl
              rw [j_X3_lowerThan_89] at hs
              unfold ws_X3_lowerThan_89 at h ⊢
              refine ae ?_
              have h := h _ rfl
              have q9 := hs _ rfl
              exact q9 h
noncomputable def F_X3_lowerThan (p0 : Int32) (p1 : Int32) (tr_fruits : Int32) (tr_x : Nat → Int32) (tr_height : Nat → Int32) : Int32 := if ((p1 >>> (p0 &&& 31)) &&& 1) = 0 then 0 else (ex_X3_lowerThan_15 (fun o0 => o0) tr_fruits tr_x tr_height p0 p1 (nI (0 + (Int32.toInt tr_fruits - ((0 : Nat) : Int)).toNat)) (itr (bd_X3_lowerThan_15 tr_fruits tr_x tr_height p0 p1) 0 0 (Int32.toInt tr_fruits - ((0 : Nat) : Int)).toNat))
set_option maxHeartbeats 200000 in
set_option maxRecDepth 10000 in
theorem dt_X3_lowerThan {P Q : Int32 → Prop} {p0 : Int32} {p1 : Int32} {tr_fruits : Int32} {tr_x : Nat → Int32} {tr_height : Nat → Int32} (h : wp_X3_lowerThan P p0 p1 tr_fruits tr_x tr_height) (hq : ∀ o : Int32, o = F_X3_lowerThan p0 p1 tr_fruits tr_x tr_height → P o → Q o) : wp_X3_lowerThan Q p0 p1 tr_fruits tr_x tr_height := by
  rw [F_X3_lowerThan] at hq
  refine ae ?_
  have h := h _ rfl
  refine And.intro (fun c1 => ?_) (fun c1 => ?_)
  · have h := And.left h c1
    rw [if_neg c1] at hq
    obtain ⟨n2, h⟩ := h
    refine ⟨n2, dl_X3_lowerThan_15 (a := 0) (i := 0) (by decide) ?_ n2 0 0 (by decide) (Nat.zero_le _) h⟩
    intro cc3 s4 ec5 es6 h
    rw [← ec5, ← es6, ex_X3_lowerThan_15] at hq
    have q9 := hq _ rfl
    exact q9 h
  · have h := And.right h c1
    rw [if_pos c1] at hq
    have q9 := hq _ rfl
    exact q9 h
theorem du_X3_lowerThan {P Q : Int32 → Prop} {p0 : Int32} {p1 : Int32} {tr_fruits : Int32} {tr_x : Nat → Int32} {tr_height : Nat → Int32} (h : wp_X3_lowerThan P p0 p1 tr_fruits tr_x tr_height) (hq : P (F_X3_lowerThan p0 p1 tr_fruits tr_x tr_height) → Q (F_X3_lowerThan p0 p1 tr_fruits tr_x tr_height)) : wp_X3_lowerThan Q p0 p1 tr_fruits tr_x tr_height := dt_X3_lowerThan h (fun o eo => by rw [eo]; exact hq)
noncomputable def F_X2_write (p1 : Int32) (no_apron : Int32) (no_basket : Int32) (no_ground : Int32) (no_bruised : Int32) (no_ladder : Int32) (no_helper : Int32) (no_today : Int32) (no_clock : Int32) (pa_cells : Nat → Int32) : (Nat → Int32) := if p1 < 0 then pa_cells else (if p1 ≤ (104 - 8) then (upd (upd (upd (upd (upd (upd (upd (upd pa_cells p1.toNatClampNeg no_apron) (p1 + 1).toNatClampNeg no_basket) (p1 + 2).toNatClampNeg no_ground) (p1 + 3).toNatClampNeg no_bruised) (p1 + 4).toNatClampNeg no_ladder) (p1 + 5).toNatClampNeg no_helper) (p1 + 6).toNatClampNeg no_today) (p1 + 7).toNatClampNeg no_clock) else pa_cells)
set_option maxHeartbeats 200000 in
set_option maxRecDepth 10000 in
theorem dt_X2_write {P Q : (Nat → Int32) → Prop} {p1 : Int32} {no_apron : Int32} {no_basket : Int32} {no_ground : Int32} {no_bruised : Int32} {no_ladder : Int32} {no_helper : Int32} {no_today : Int32} {no_clock : Int32} {pa_cells : Nat → Int32} (h : wp_X2_write P p1 no_apron no_basket no_ground no_bruised no_ladder no_helper no_today no_clock pa_cells) (hq : ∀ o : (Nat → Int32), o = F_X2_write p1 no_apron no_basket no_ground no_bruised no_ladder no_helper no_today no_clock pa_cells → P o → Q o) : wp_X2_write Q p1 no_apron no_basket no_ground no_bruised no_ladder no_helper no_today no_clock pa_cells := by
  rw [F_X2_write] at hq
  refine And.intro (fun c1 => ?_) (fun c1 => ?_)
  · have h := And.left h c1
    rw [if_pos c1] at hq
    have q9 := hq _ rfl
    exact q9 h
  · have h := And.right h c1
    rw [if_neg c1] at hq
    refine And.intro (fun c2 => ?_) (fun c2 => ?_)
    · have h := And.left h c2
      rw [if_pos c2] at hq
      refine And.intro (And.left h) ?_
      have h := And.right h
      refine ae ?_
      have h := h _ rfl
      refine And.intro (And.left h) ?_
      have h := And.right h
      refine ae ?_
      have h := h _ rfl
      refine And.intro (And.left h) ?_
      have h := And.right h
      refine ae ?_
      have h := h _ rfl
      refine And.intro (And.left h) ?_
      have h := And.right h
      refine ae ?_
      have h := h _ rfl
      refine And.intro (And.left h) ?_
      have h := And.right h
      refine ae ?_
      have h := h _ rfl
      refine And.intro (And.left h) ?_
      have h := And.right h
      refine ae ?_
      have h := h _ rfl
      refine And.intro (And.left h) ?_
      have h := And.right h
      refine ae ?_
      have h := h _ rfl
      refine And.intro (And.left h) ?_
      have h := And.right h
      have q9 := hq _ rfl
      exact q9 h
    · have h := And.right h c2
      rw [if_neg c2] at hq
      have q9 := hq _ rfl
      exact q9 h
theorem du_X2_write {P Q : (Nat → Int32) → Prop} {p1 : Int32} {no_apron : Int32} {no_basket : Int32} {no_ground : Int32} {no_bruised : Int32} {no_ladder : Int32} {no_helper : Int32} {no_today : Int32} {no_clock : Int32} {pa_cells : Nat → Int32} (h : wp_X2_write P p1 no_apron no_basket no_ground no_bruised no_ladder no_helper no_today no_clock pa_cells) (hq : P (F_X2_write p1 no_apron no_basket no_ground no_bruised no_ladder no_helper no_today no_clock pa_cells) → Q (F_X2_write p1 no_apron no_basket no_ground no_bruised no_ladder no_helper no_today no_clock pa_cells)) : wp_X2_write Q p1 no_apron no_basket no_ground no_bruised no_ladder no_helper no_today no_clock pa_cells := dt_X2_write h (fun o eo => by rw [eo]; exact hq)
noncomputable def F_X4_note (no_apron : Int32) (no_basket : Int32) (no_ground : Int32) (no_bruised : Int32) (no_ladder : Int32) (no_helper : Int32) (no_today : Int32) (no_clock : Int32) (pa_free : Int32) (pa_cells : Nat → Int32) : (Nat → Int32) := (F_X2_write (pa_free * 8) no_apron no_basket no_ground no_bruised no_ladder no_helper no_today no_clock pa_cells)
set_option maxHeartbeats 200000 in
set_option maxRecDepth 10000 in
theorem dt_X4_note {P Q : (Nat → Int32) → Prop} {no_apron : Int32} {no_basket : Int32} {no_ground : Int32} {no_bruised : Int32} {no_ladder : Int32} {no_helper : Int32} {no_today : Int32} {no_clock : Int32} {pa_free : Int32} {pa_cells : Nat → Int32} (h : wp_X4_note P no_apron no_basket no_ground no_bruised no_ladder no_helper no_today no_clock pa_free pa_cells) (hq : ∀ o : (Nat → Int32), o = F_X4_note no_apron no_basket no_ground no_bruised no_ladder no_helper no_today no_clock pa_free pa_cells → P o → Q o) : wp_X4_note Q no_apron no_basket no_ground no_bruised no_ladder no_helper no_today no_clock pa_free pa_cells := by
  rw [F_X4_note] at hq
  refine ae ?_
  have h := h _ rfl
  refine du_X2_write h ?_
  intro h
  have q9 := hq _ rfl
  exact q9 h
theorem du_X4_note {P Q : (Nat → Int32) → Prop} {no_apron : Int32} {no_basket : Int32} {no_ground : Int32} {no_bruised : Int32} {no_ladder : Int32} {no_helper : Int32} {no_today : Int32} {no_clock : Int32} {pa_free : Int32} {pa_cells : Nat → Int32} (h : wp_X4_note P no_apron no_basket no_ground no_bruised no_ladder no_helper no_today no_clock pa_free pa_cells) (hq : P (F_X4_note no_apron no_basket no_ground no_bruised no_ladder no_helper no_today no_clock pa_free pa_cells) → Q (F_X4_note no_apron no_basket no_ground no_bruised no_ladder no_helper no_today no_clock pa_free pa_cells)) : wp_X4_note Q no_apron no_basket no_ground no_bruised no_ladder no_helper no_today no_clock pa_free pa_cells := dt_X4_note h (fun o eo => by rw [eo]; exact hq)
noncomputable def F_X3_moveSeconds (p0 : Int32) (p1 : Int32) (tr_foot : Nat → Int32) (tr_settings : Nat → Int32) : Int32 := if p0 = (-1) then 9 else (9 + ((tr_settings (3 : Int32).toNatClampNeg) * (if 0 ≤ ((tr_foot p0.toNatClampNeg) - (tr_foot p1.toNatClampNeg)) then ((tr_foot p0.toNatClampNeg) - (tr_foot p1.toNatClampNeg)) else 0 - ((tr_foot p0.toNatClampNeg) - (tr_foot p1.toNatClampNeg)))))
set_option maxHeartbeats 200000 in
set_option maxRecDepth 10000 in
theorem dt_X3_moveSeconds {P Q : Int32 → Prop} {p0 : Int32} {p1 : Int32} {tr_foot : Nat → Int32} {tr_settings : Nat → Int32} (h : wp_X3_moveSeconds P p0 p1 tr_foot tr_settings) (hq : ∀ o : Int32, o = F_X3_moveSeconds p0 p1 tr_foot tr_settings → P o → Q o) : wp_X3_moveSeconds Q p0 p1 tr_foot tr_settings := by
  rw [F_X3_moveSeconds] at hq
  refine And.intro (fun c1 => ?_) (fun c1 => ?_)
  · have h := And.left h c1
    rw [if_neg c1] at hq
    refine ae ?_
    have h := h _ rfl
    refine And.intro (And.left h) ?_
    have h := And.right h
    refine ae ?_
    have h := h _ rfl
    refine And.intro (And.left h) ?_
    have h := And.right h
    refine ae ?_
    have h := h _ rfl
    refine ae ?_
    have h := h _ rfl
    have q9 := hq _ rfl
    exact q9 h
  · have h := And.right h c1
    rw [if_pos c1] at hq
    have q9 := hq _ rfl
    exact q9 h
theorem du_X3_moveSeconds {P Q : Int32 → Prop} {p0 : Int32} {p1 : Int32} {tr_foot : Nat → Int32} {tr_settings : Nat → Int32} (h : wp_X3_moveSeconds P p0 p1 tr_foot tr_settings) (hq : P (F_X3_moveSeconds p0 p1 tr_foot tr_settings) → Q (F_X3_moveSeconds p0 p1 tr_foot tr_settings)) : wp_X3_moveSeconds Q p0 p1 tr_foot tr_settings := dt_X3_moveSeconds h (fun o eo => by rw [eo]; exact hq)
noncomputable def F_X2_emptyApron (no_apron : Int32) (no_basket : Int32) : Int32 × Int32 := (0, (no_basket ||| no_apron))
set_option maxHeartbeats 200000 in
set_option maxRecDepth 10000 in
theorem dt_X2_emptyApron {P Q : Int32 → Int32 → Prop} {no_apron : Int32} {no_basket : Int32} (h : wp_X2_emptyApron P no_apron no_basket) (hq : ∀ o : Int32 × Int32, o = F_X2_emptyApron no_apron no_basket → P o.1 o.2 → Q o.1 o.2) : wp_X2_emptyApron Q no_apron no_basket := by
  rw [F_X2_emptyApron] at hq
  refine ae ?_
  have h := h _ rfl
  have q9 := hq _ rfl
  dsimp only at q9
  exact q9 h
theorem du_X2_emptyApron {P Q : Int32 → Int32 → Prop} {no_apron : Int32} {no_basket : Int32} (h : wp_X2_emptyApron P no_apron no_basket) (hq : P (F_X2_emptyApron no_apron no_basket).1 (F_X2_emptyApron no_apron no_basket).2 → Q (F_X2_emptyApron no_apron no_basket).1 (F_X2_emptyApron no_apron no_basket).2) : wp_X2_emptyApron Q no_apron no_basket := dt_X2_emptyApron h (fun o eo => by rw [eo]; exact hq)
noncomputable def F_X2_spend (p0 : Int32) (no_clock : Int32) : Int32 := (if (no_clock + p0) < 9999 then (no_clock + p0) else 9999)
set_option maxHeartbeats 200000 in
set_option maxRecDepth 10000 in
theorem dt_X2_spend {P Q : Int32 → Prop} {p0 : Int32} {no_clock : Int32} (h : wp_X2_spend P p0 no_clock) (hq : ∀ o : Int32, o = F_X2_spend p0 no_clock → P o → Q o) : wp_X2_spend Q p0 no_clock := by
  rw [F_X2_spend] at hq
  refine ae ?_
  have h := h _ rfl
  refine ae ?_
  have h := h _ rfl
  have q9 := hq _ rfl
  exact q9 h
theorem du_X2_spend {P Q : Int32 → Prop} {p0 : Int32} {no_clock : Int32} (h : wp_X2_spend P p0 no_clock) (hq : P (F_X2_spend p0 no_clock) → Q (F_X2_spend p0 no_clock)) : wp_X2_spend Q p0 no_clock := dt_X2_spend h (fun o eo => by rw [eo]; exact hq)
noncomputable def j_X0_setLadder_81 {R : Type} (po : Int32 → Int32 → Int32 → Int32 → Int32 → R) (tr_standings : Int32) (tr_foot : Nat → Int32) (tr_fork : Nat → Int32) (tr_settings : Nat → Int32) (x1 : Int32) (x2 : Int32) (no_apron : Int32) (no_basket : Int32) (no_ladder : Int32) (no_clock : Int32) : R := po x2 ((F_X2_emptyApron no_apron no_basket).1) ((F_X2_emptyApron no_apron no_basket).2) x1 (F_X2_spend x2 no_clock)
noncomputable def F_X0_setLadder (p0 : Int32) (tr_standings : Int32) (tr_foot : Nat → Int32) (tr_fork : Nat → Int32) (tr_settings : Nat → Int32) (no_apron : Int32) (no_basket : Int32) (no_ladder : Int32) (no_clock : Int32) : Int32 × Int32 × Int32 × Int32 × Int32 := if (F_X3_hasStanding p0 tr_standings) = 0 then ((-1), no_apron, no_basket, no_ladder, no_clock) else (if p0 = no_ladder then ((-2), no_apron, no_basket, no_ladder, no_clock) else (if no_apron = 0 then (j_X0_setLadder_81 (fun o0 o1 o2 o3 o4 => (o0, o1, o2, o3, o4)) tr_standings tr_foot tr_fork tr_settings p0 (F_X3_moveSeconds no_ladder p0 tr_foot tr_settings) no_apron no_basket no_ladder no_clock) else (if no_ladder = (-1) then (j_X0_setLadder_81 (fun o0 o1 o2 o3 o4 => (o0, o1, o2, o3, o4)) tr_standings tr_foot tr_fork tr_settings p0 (F_X3_moveSeconds no_ladder p0 tr_foot tr_settings) no_apron no_basket no_ladder no_clock) else (j_X0_setLadder_81 (fun o0 o1 o2 o3 o4 => (o0, o1, o2, o3, o4)) tr_standings tr_foot tr_fork tr_settings p0 ((F_X3_moveSeconds no_ladder p0 tr_foot tr_settings) + (F_X3_downSeconds no_ladder tr_fork)) no_apron no_basket no_ladder no_clock))))
set_option maxHeartbeats 200000 in
set_option maxRecDepth 10000 in
theorem dt_X0_setLadder {P Q : Int32 → Int32 → Int32 → Int32 → Int32 → Prop} {p0 : Int32} {tr_standings : Int32} {tr_foot : Nat → Int32} {tr_fork : Nat → Int32} {tr_settings : Nat → Int32} {no_apron : Int32} {no_basket : Int32} {no_ladder : Int32} {no_clock : Int32} (h : wp_X0_setLadder P p0 tr_standings tr_foot tr_fork tr_settings no_apron no_basket no_ladder no_clock) (hq : ∀ o : Int32 × Int32 × Int32 × Int32 × Int32, o = F_X0_setLadder p0 tr_standings tr_foot tr_fork tr_settings no_apron no_basket no_ladder no_clock → P o.1 o.2.1 o.2.2.1 o.2.2.2.1 o.2.2.2.2 → Q o.1 o.2.1 o.2.2.1 o.2.2.2.1 o.2.2.2.2) : wp_X0_setLadder Q p0 tr_standings tr_foot tr_fork tr_settings no_apron no_basket no_ladder no_clock := by
  rw [F_X0_setLadder] at hq
  refine du_X3_hasStanding h ?_
  intro h
  refine And.intro (fun c1 => ?_) (fun c1 => ?_)
  · have h := And.left h c1
    rw [if_neg c1] at hq
    refine And.intro (fun c2 => ?_) (fun c2 => ?_)
    · have h := And.left h c2
      rw [if_neg c2] at hq
      refine du_X3_moveSeconds h ?_
      intro h
      refine And.intro (fun c3 => ?_) (fun c3 => ?_)
      · have h := And.left h c3
        rw [if_pos c3] at hq
        rw [j_X0_setLadder_81] at hq
        unfold ws_X0_setLadder_81 at h ⊢
        refine du_X2_emptyApron h ?_
        intro h
        refine du_X2_spend h ?_
        intro h
        have q9 := hq _ rfl
        dsimp only at q9
        exact q9 h
      · have h := And.right h c3
        rw [if_neg c3] at hq
        refine And.intro (fun c4 => ?_) (fun c4 => ?_)
        · have h := And.left h c4
          rw [if_pos c4] at hq
          rw [j_X0_setLadder_81] at hq
          unfold ws_X0_setLadder_81 at h ⊢
          refine du_X2_emptyApron h ?_
          intro h
          refine du_X2_spend h ?_
          intro h
          have q9 := hq _ rfl
          dsimp only at q9
          exact q9 h
        · have h := And.right h c4
          rw [if_neg c4] at hq
          refine du_X3_downSeconds h ?_
          intro h
          refine ae ?_
          have h := h _ rfl
          rw [j_X0_setLadder_81] at hq
          unfold ws_X0_setLadder_81 at h ⊢
          refine du_X2_emptyApron h ?_
          intro h
          refine du_X2_spend h ?_
          intro h
          have q9 := hq _ rfl
          dsimp only at q9
          exact q9 h
    · have h := And.right h c2
      rw [if_pos c2] at hq
      have q9 := hq _ rfl
      dsimp only at q9
      exact q9 h
  · have h := And.right h c1
    rw [if_pos c1] at hq
    have q9 := hq _ rfl
    dsimp only at q9
    exact q9 h
theorem du_X0_setLadder {P Q : Int32 → Int32 → Int32 → Int32 → Int32 → Prop} {p0 : Int32} {tr_standings : Int32} {tr_foot : Nat → Int32} {tr_fork : Nat → Int32} {tr_settings : Nat → Int32} {no_apron : Int32} {no_basket : Int32} {no_ladder : Int32} {no_clock : Int32} (h : wp_X0_setLadder P p0 tr_standings tr_foot tr_fork tr_settings no_apron no_basket no_ladder no_clock) (hq : P (F_X0_setLadder p0 tr_standings tr_foot tr_fork tr_settings no_apron no_basket no_ladder no_clock).1 (F_X0_setLadder p0 tr_standings tr_foot tr_fork tr_settings no_apron no_basket no_ladder no_clock).2.1 (F_X0_setLadder p0 tr_standings tr_foot tr_fork tr_settings no_apron no_basket no_ladder no_clock).2.2.1 (F_X0_setLadder p0 tr_standings tr_foot tr_fork tr_settings no_apron no_basket no_ladder no_clock).2.2.2.1 (F_X0_setLadder p0 tr_standings tr_foot tr_fork tr_settings no_apron no_basket no_ladder no_clock).2.2.2.2 → Q (F_X0_setLadder p0 tr_standings tr_foot tr_fork tr_settings no_apron no_basket no_ladder no_clock).1 (F_X0_setLadder p0 tr_standings tr_foot tr_fork tr_settings no_apron no_basket no_ladder no_clock).2.1 (F_X0_setLadder p0 tr_standings tr_foot tr_fork tr_settings no_apron no_basket no_ladder no_clock).2.2.1 (F_X0_setLadder p0 tr_standings tr_foot tr_fork tr_settings no_apron no_basket no_ladder no_clock).2.2.2.1 (F_X0_setLadder p0 tr_standings tr_foot tr_fork tr_settings no_apron no_basket no_ladder no_clock).2.2.2.2) : wp_X0_setLadder Q p0 tr_standings tr_foot tr_fork tr_settings no_apron no_basket no_ladder no_clock := dt_X0_setLadder h (fun o eo => by rw [eo]; exact hq)
noncomputable def F_X4_hold (pa_undoable : Int32) (pa_free : Int32) : Int32 × Int32 := ((if (pa_undoable + 1) < 12 then (pa_undoable + 1) else 12), ((pa_free + 1) - (pa_free + 1) / 13 * 13))
set_option maxHeartbeats 200000 in
set_option maxRecDepth 10000 in
theorem dt_X4_hold {P Q : Int32 → Int32 → Prop} {pa_undoable : Int32} {pa_free : Int32} (h : wp_X4_hold P pa_undoable pa_free) (hq : ∀ o : Int32 × Int32, o = F_X4_hold pa_undoable pa_free → P o.1 o.2 → Q o.1 o.2) : wp_X4_hold Q pa_undoable pa_free := by
  rw [F_X4_hold] at hq
  refine ae ?_
  have h := h _ rfl
  refine ae ?_
  have h := h _ rfl
  refine ae ?_
  have h := h _ rfl
  refine ae ?_
  have h := h _ rfl
  have q9 := hq _ rfl
  dsimp only at q9
  exact q9 h
theorem du_X4_hold {P Q : Int32 → Int32 → Prop} {pa_undoable : Int32} {pa_free : Int32} (h : wp_X4_hold P pa_undoable pa_free) (hq : P (F_X4_hold pa_undoable pa_free).1 (F_X4_hold pa_undoable pa_free).2 → Q (F_X4_hold pa_undoable pa_free).1 (F_X4_hold pa_undoable pa_free).2) : wp_X4_hold Q pa_undoable pa_free := dt_X4_hold h (fun o eo => by rw [eo]; exact hq)
noncomputable def F_X9_holdIfDone (p0 : Int32) (pa_undoable : Int32) (pa_free : Int32) : Int32 × Int32 × Int32 := if p0 < 0 then (p0, pa_undoable, pa_free) else (p0, (F_X4_hold pa_undoable pa_free).1, (F_X4_hold pa_undoable pa_free).2)
set_option maxHeartbeats 200000 in
set_option maxRecDepth 10000 in
theorem dt_X9_holdIfDone {P Q : Int32 → Int32 → Int32 → Prop} {p0 : Int32} {pa_undoable : Int32} {pa_free : Int32} (h : wp_X9_holdIfDone P p0 pa_undoable pa_free) (hq : ∀ o : Int32 × Int32 × Int32, o = F_X9_holdIfDone p0 pa_undoable pa_free → P o.1 o.2.1 o.2.2 → Q o.1 o.2.1 o.2.2) : wp_X9_holdIfDone Q p0 pa_undoable pa_free := by
  rw [F_X9_holdIfDone] at hq
  refine And.intro (fun c1 => ?_) (fun c1 => ?_)
  · have h := And.left h c1
    rw [if_pos c1] at hq
    have q9 := hq _ rfl
    dsimp only at q9
    exact q9 h
  · have h := And.right h c1
    rw [if_neg c1] at hq
    refine du_X4_hold h ?_
    intro h
    have q9 := hq _ rfl
    dsimp only at q9
    exact q9 h
theorem du_X9_holdIfDone {P Q : Int32 → Int32 → Int32 → Prop} {p0 : Int32} {pa_undoable : Int32} {pa_free : Int32} (h : wp_X9_holdIfDone P p0 pa_undoable pa_free) (hq : P (F_X9_holdIfDone p0 pa_undoable pa_free).1 (F_X9_holdIfDone p0 pa_undoable pa_free).2.1 (F_X9_holdIfDone p0 pa_undoable pa_free).2.2 → Q (F_X9_holdIfDone p0 pa_undoable pa_free).1 (F_X9_holdIfDone p0 pa_undoable pa_free).2.1 (F_X9_holdIfDone p0 pa_undoable pa_free).2.2) : wp_X9_holdIfDone Q p0 pa_undoable pa_free := dt_X9_holdIfDone h (fun o eo => by rw [eo]; exact hq)
theorem dw_X9_holdIfDone {Q : Int32 → Int32 → Int32 → Prop} {p0 : Int32} {pa_undoable : Int32} {pa_free : Int32} (h : wp_X9_holdIfDone (fun o0 o1 o2 => (o0, o1, o2) = F_X9_holdIfDone p0 pa_undoable pa_free → Q o0 o1 o2) p0 pa_undoable pa_free) : wp_X9_holdIfDone Q p0 pa_undoable pa_free := dt_X9_holdIfDone h (fun o eo hp => hp eo)
noncomputable def F_X9_move (p0 : Int32) (tr_standings : Int32) (tr_foot : Nat → Int32) (tr_fork : Nat → Int32) (tr_settings : Nat → Int32) (no_apron : Int32) (no_basket : Int32) (no_ground : Int32) (no_bruised : Int32) (no_ladder : Int32) (no_helper : Int32) (no_today : Int32) (no_clock : Int32) (pa_undoable : Int32) (pa_free : Int32) (pa_cells : Nat → Int32) : Int32 × Int32 × Int32 × Int32 × Int32 × Int32 × Int32 × (Nat → Int32) := ((F_X9_holdIfDone (F_X0_setLadder p0 tr_standings tr_foot tr_fork tr_settings no_apron no_basket no_ladder no_clock).1 pa_undoable pa_free).1, (F_X0_setLadder p0 tr_standings tr_foot tr_fork tr_settings no_apron no_basket no_ladder no_clock).2.1, (F_X0_setLadder p0 tr_standings tr_foot tr_fork tr_settings no_apron no_basket no_ladder no_clock).2.2.1, (F_X0_setLadder p0 tr_standings tr_foot tr_fork tr_settings no_apron no_basket no_ladder no_clock).2.2.2.1, (F_X0_setLadder p0 tr_standings tr_foot tr_fork tr_settings no_apron no_basket no_ladder no_clock).2.2.2.2, (F_X9_holdIfDone (F_X0_setLadder p0 tr_standings tr_foot tr_fork tr_settings no_apron no_basket no_ladder no_clock).1 pa_undoable pa_free).2.1, (F_X9_holdIfDone (F_X0_setLadder p0 tr_standings tr_foot tr_fork tr_settings no_apron no_basket no_ladder no_clock).1 pa_undoable pa_free).2.2, (F_X4_note no_apron no_basket no_ground no_bruised no_ladder no_helper no_today no_clock pa_free pa_cells))
set_option maxHeartbeats 200000 in
set_option maxRecDepth 10000 in
theorem dt_X9_move {P Q : Int32 → Int32 → Int32 → Int32 → Int32 → Int32 → Int32 → (Nat → Int32) → Prop} {p0 : Int32} {tr_standings : Int32} {tr_foot : Nat → Int32} {tr_fork : Nat → Int32} {tr_settings : Nat → Int32} {no_apron : Int32} {no_basket : Int32} {no_ground : Int32} {no_bruised : Int32} {no_ladder : Int32} {no_helper : Int32} {no_today : Int32} {no_clock : Int32} {pa_undoable : Int32} {pa_free : Int32} {pa_cells : Nat → Int32} (h : wp_X9_move P p0 tr_standings tr_foot tr_fork tr_settings no_apron no_basket no_ground no_bruised no_ladder no_helper no_today no_clock pa_undoable pa_free pa_cells) (hq : ∀ o : Int32 × Int32 × Int32 × Int32 × Int32 × Int32 × Int32 × (Nat → Int32), o = F_X9_move p0 tr_standings tr_foot tr_fork tr_settings no_apron no_basket no_ground no_bruised no_ladder no_helper no_today no_clock pa_undoable pa_free pa_cells → P o.1 o.2.1 o.2.2.1 o.2.2.2.1 o.2.2.2.2.1 o.2.2.2.2.2.1 o.2.2.2.2.2.2.1 o.2.2.2.2.2.2.2 → Q o.1 o.2.1 o.2.2.1 o.2.2.2.1 o.2.2.2.2.1 o.2.2.2.2.2.1 o.2.2.2.2.2.2.1 o.2.2.2.2.2.2.2) : wp_X9_move Q p0 tr_standings tr_foot tr_fork tr_settings no_apron no_basket no_ground no_bruised no_ladder no_helper no_today no_clock pa_undoable pa_free pa_cells := by
  rw [F_X9_move] at hq
  refine du_X4_note h ?_
  intro h
  refine du_X0_setLadder h ?_
  intro h
  refine du_X9_holdIfDone h ?_
  intro h
  have q9 := hq _ rfl
  dsimp only at q9
  exact q9 h
theorem du_X9_move {P Q : Int32 → Int32 → Int32 → Int32 → Int32 → Int32 → Int32 → (Nat → Int32) → Prop} {p0 : Int32} {tr_standings : Int32} {tr_foot : Nat → Int32} {tr_fork : Nat → Int32} {tr_settings : Nat → Int32} {no_apron : Int32} {no_basket : Int32} {no_ground : Int32} {no_bruised : Int32} {no_ladder : Int32} {no_helper : Int32} {no_today : Int32} {no_clock : Int32} {pa_undoable : Int32} {pa_free : Int32} {pa_cells : Nat → Int32} (h : wp_X9_move P p0 tr_standings tr_foot tr_fork tr_settings no_apron no_basket no_ground no_bruised no_ladder no_helper no_today no_clock pa_undoable pa_free pa_cells) (hq : P (F_X9_move p0 tr_standings tr_foot tr_fork tr_settings no_apron no_basket no_ground no_bruised no_ladder no_helper no_today no_clock pa_undoable pa_free pa_cells).1 (F_X9_move p0 tr_standings tr_foot tr_fork tr_settings no_apron no_basket no_ground no_bruised no_ladder no_helper no_today no_clock pa_undoable pa_free pa_cells).2.1 (F_X9_move p0 tr_standings tr_foot tr_fork tr_settings no_apron no_basket no_ground no_bruised no_ladder no_helper no_today no_clock pa_undoable pa_free pa_cells).2.2.1 (F_X9_move p0 tr_standings tr_foot tr_fork tr_settings no_apron no_basket no_ground no_bruised no_ladder no_helper no_today no_clock pa_undoable pa_free pa_cells).2.2.2.1 (F_X9_move p0 tr_standings tr_foot tr_fork tr_settings no_apron no_basket no_ground no_bruised no_ladder no_helper no_today no_clock pa_undoable pa_free pa_cells).2.2.2.2.1 (F_X9_move p0 tr_standings tr_foot tr_fork tr_settings no_apron no_basket no_ground no_bruised no_ladder no_helper no_today no_clock pa_undoable pa_free pa_cells).2.2.2.2.2.1 (F_X9_move p0 tr_standings tr_foot tr_fork tr_settings no_apron no_basket no_ground no_bruised no_ladder no_helper no_today no_clock pa_undoable pa_free pa_cells).2.2.2.2.2.2.1 (F_X9_move p0 tr_standings tr_foot tr_fork tr_settings no_apron no_basket no_ground no_bruised no_ladder no_helper no_today no_clock pa_undoable pa_free pa_cells).2.2.2.2.2.2.2 → Q (F_X9_move p0 tr_standings tr_foot tr_fork tr_settings no_apron no_basket no_ground no_bruised no_ladder no_helper no_today no_clock pa_undoable pa_free pa_cells).1 (F_X9_move p0 tr_standings tr_foot tr_fork tr_settings no_apron no_basket no_ground no_bruised no_ladder no_helper no_today no_clock pa_undoable pa_free pa_cells).2.1 (F_X9_move p0 tr_standings tr_foot tr_fork tr_settings no_apron no_basket no_ground no_bruised no_ladder no_helper no_today no_clock pa_undoable pa_free pa_cells).2.2.1 (F_X9_move p0 tr_standings tr_foot tr_fork tr_settings no_apron no_basket no_ground no_bruised no_ladder no_helper no_today no_clock pa_undoable pa_free pa_cells).2.2.2.1 (F_X9_move p0 tr_standings tr_foot tr_fork tr_settings no_apron no_basket no_ground no_bruised no_ladder no_helper no_today no_clock pa_undoable pa_free pa_cells).2.2.2.2.1 (F_X9_move p0 tr_standings tr_foot tr_fork tr_settings no_apron no_basket no_ground no_bruised no_ladder no_helper no_today no_clock pa_undoable pa_free pa_cells).2.2.2.2.2.1 (F_X9_move p0 tr_standings tr_foot tr_fork tr_settings no_apron no_basket no_ground no_bruised no_ladder no_helper no_today no_clock pa_undoable pa_free pa_cells).2.2.2.2.2.2.1 (F_X9_move p0 tr_standings tr_foot tr_fork tr_settings no_apron no_basket no_ground no_bruised no_ladder no_helper no_today no_clock pa_undoable pa_free pa_cells).2.2.2.2.2.2.2) : wp_X9_move Q p0 tr_standings tr_foot tr_fork tr_settings no_apron no_basket no_ground no_bruised no_ladder no_helper no_today no_clock pa_undoable pa_free pa_cells := dt_X9_move h (fun o eo => by rw [eo]; exact hq)
theorem dw_X9_move {Q : Int32 → Int32 → Int32 → Int32 → Int32 → Int32 → Int32 → (Nat → Int32) → Prop} {p0 : Int32} {tr_standings : Int32} {tr_foot : Nat → Int32} {tr_fork : Nat → Int32} {tr_settings : Nat → Int32} {no_apron : Int32} {no_basket : Int32} {no_ground : Int32} {no_bruised : Int32} {no_ladder : Int32} {no_helper : Int32} {no_today : Int32} {no_clock : Int32} {pa_undoable : Int32} {pa_free : Int32} {pa_cells : Nat → Int32} (h : wp_X9_move (fun o0 o1 o2 o3 o4 o5 o6 o7 => (o0, o1, o2, o3, o4, o5, o6, o7) = F_X9_move p0 tr_standings tr_foot tr_fork tr_settings no_apron no_basket no_ground no_bruised no_ladder no_helper no_today no_clock pa_undoable pa_free pa_cells → Q o0 o1 o2 o3 o4 o5 o6 o7) p0 tr_standings tr_foot tr_fork tr_settings no_apron no_basket no_ground no_bruised no_ladder no_helper no_today no_clock pa_undoable pa_free pa_cells) : wp_X9_move Q p0 tr_standings tr_foot tr_fork tr_settings no_apron no_basket no_ground no_bruised no_ladder no_helper no_today no_clock pa_undoable pa_free pa_cells := dt_X9_move h (fun o eo hp => hp eo)
noncomputable def j_X9_isYesOrNo_9 {R : Type} (po : Int32 → R) : R := po 1
noncomputable def F_X9_isYesOrNo (p0 : Int32) : Int32 := if p0 = 0 then (j_X9_isYesOrNo_9 (fun o0 => o0)) else (if p0 = 1 then (j_X9_isYesOrNo_9 (fun o0 => o0)) else 0)
set_option maxHeartbeats 200000 in
set_option maxRecDepth 10000 in
theorem dt_X9_isYesOrNo {P Q : Int32 → Prop} {p0 : Int32} (h : wp_X9_isYesOrNo P p0) (hq : ∀ o : Int32, o = F_X9_isYesOrNo p0 → P o → Q o) : wp_X9_isYesOrNo Q p0 := by
  rw [F_X9_isYesOrNo] at hq
  refine And.intro (fun c1 => ?_) (fun c1 => ?_)
  · have h := And.left h c1
    rw [if_pos c1] at hq
    rw [j_X9_isYesOrNo_9] at hq
    unfold ws_X9_isYesOrNo_9 at h ⊢
    have q9 := hq _ rfl
    exact q9 h
  · have h := And.right h c1
    rw [if_neg c1] at hq
    refine And.intro (fun c2 => ?_) (fun c2 => ?_)
    · have h := And.left h c2
      rw [if_neg c2] at hq
      have q9 := hq _ rfl
      exact q9 h
    · have h := And.right h c2
      rw [if_pos c2] at hq
      rw [j_X9_isYesOrNo_9] at hq
      unfold ws_X9_isYesOrNo_9 at h ⊢
      have q9 := hq _ rfl
      exact q9 h
theorem du_X9_isYesOrNo {P Q : Int32 → Prop} {p0 : Int32} (h : wp_X9_isYesOrNo P p0) (hq : P (F_X9_isYesOrNo p0) → Q (F_X9_isYesOrNo p0)) : wp_X9_isYesOrNo Q p0 := dt_X9_isYesOrNo h (fun o eo => by rw [eo]; exact hq)
theorem dw_X9_isYesOrNo {Q : Int32 → Prop} {p0 : Int32} (h : wp_X9_isYesOrNo (fun o0 => o0 = F_X9_isYesOrNo p0 → Q o0) p0) : wp_X9_isYesOrNo Q p0 := dt_X9_isYesOrNo h (fun o eo hp => hp eo)
noncomputable def F_X0_setHelper (p0 : Int32) (no_helper : Int32) : Int32 × Int32 := if (F_X9_isYesOrNo p0) = 0 then ((-1), no_helper) else (no_helper, p0)
set_option maxHeartbeats 200000 in
set_option maxRecDepth 10000 in
theorem dt_X0_setHelper {P Q : Int32 → Int32 → Prop} {p0 : Int32} {no_helper : Int32} (h : wp_X0_setHelper P p0 no_helper) (hq : ∀ o : Int32 × Int32, o = F_X0_setHelper p0 no_helper → P o.1 o.2 → Q o.1 o.2) : wp_X0_setHelper Q p0 no_helper := by
  rw [F_X0_setHelper] at hq
  refine du_X9_isYesOrNo h ?_
  intro h
  refine And.intro (fun c1 => ?_) (fun c1 => ?_)
  · have h := And.left h c1
    rw [if_neg c1] at hq
    have q9 := hq _ rfl
    dsimp only at q9
    exact q9 h
  · have h := And.right h c1
    rw [if_pos c1] at hq
    have q9 := hq _ rfl
    dsimp only at q9
    exact q9 h
theorem du_X0_setHelper {P Q : Int32 → Int32 → Prop} {p0 : Int32} {no_helper : Int32} (h : wp_X0_setHelper P p0 no_helper) (hq : P (F_X0_setHelper p0 no_helper).1 (F_X0_setHelper p0 no_helper).2 → Q (F_X0_setHelper p0 no_helper).1 (F_X0_setHelper p0 no_helper).2) : wp_X0_setHelper Q p0 no_helper := dt_X0_setHelper h (fun o eo => by rw [eo]; exact hq)
noncomputable def F_X9_foot (p0 : Int32) (no_apron : Int32) (no_basket : Int32) (no_ground : Int32) (no_bruised : Int32) (no_ladder : Int32) (no_helper : Int32) (no_today : Int32) (no_clock : Int32) (pa_undoable : Int32) (pa_free : Int32) (pa_cells : Nat → Int32) : Int32 × Int32 × Int32 × Int32 × (Nat → Int32) := ((F_X9_holdIfDone (F_X0_setHelper p0 no_helper).1 pa_undoable pa_free).1, (F_X0_setHelper p0 no_helper).2, (F_X9_holdIfDone (F_X0_setHelper p0 no_helper).1 pa_undoable pa_free).2.1, (F_X9_holdIfDone (F_X0_setHelper p0 no_helper).1 pa_undoable pa_free).2.2, (F_X4_note no_apron no_basket no_ground no_bruised no_ladder no_helper no_today no_clock pa_free pa_cells))
set_option maxHeartbeats 200000 in
set_option maxRecDepth 10000 in
theorem dt_X9_foot {P Q : Int32 → Int32 → Int32 → Int32 → (Nat → Int32) → Prop} {p0 : Int32} {no_apron : Int32} {no_basket : Int32} {no_ground : Int32} {no_bruised : Int32} {no_ladder : Int32} {no_helper : Int32} {no_today : Int32} {no_clock : Int32} {pa_undoable : Int32} {pa_free : Int32} {pa_cells : Nat → Int32} (h : wp_X9_foot P p0 no_apron no_basket no_ground no_bruised no_ladder no_helper no_today no_clock pa_undoable pa_free pa_cells) (hq : ∀ o : Int32 × Int32 × Int32 × Int32 × (Nat → Int32), o = F_X9_foot p0 no_apron no_basket no_ground no_bruised no_ladder no_helper no_today no_clock pa_undoable pa_free pa_cells → P o.1 o.2.1 o.2.2.1 o.2.2.2.1 o.2.2.2.2 → Q o.1 o.2.1 o.2.2.1 o.2.2.2.1 o.2.2.2.2) : wp_X9_foot Q p0 no_apron no_basket no_ground no_bruised no_ladder no_helper no_today no_clock pa_undoable pa_free pa_cells := by
  rw [F_X9_foot] at hq
  refine du_X4_note h ?_
  intro h
  refine du_X0_setHelper h ?_
  intro h
  refine du_X9_holdIfDone h ?_
  intro h
  have q9 := hq _ rfl
  dsimp only at q9
  exact q9 h
theorem du_X9_foot {P Q : Int32 → Int32 → Int32 → Int32 → (Nat → Int32) → Prop} {p0 : Int32} {no_apron : Int32} {no_basket : Int32} {no_ground : Int32} {no_bruised : Int32} {no_ladder : Int32} {no_helper : Int32} {no_today : Int32} {no_clock : Int32} {pa_undoable : Int32} {pa_free : Int32} {pa_cells : Nat → Int32} (h : wp_X9_foot P p0 no_apron no_basket no_ground no_bruised no_ladder no_helper no_today no_clock pa_undoable pa_free pa_cells) (hq : P (F_X9_foot p0 no_apron no_basket no_ground no_bruised no_ladder no_helper no_today no_clock pa_undoable pa_free pa_cells).1 (F_X9_foot p0 no_apron no_basket no_ground no_bruised no_ladder no_helper no_today no_clock pa_undoable pa_free pa_cells).2.1 (F_X9_foot p0 no_apron no_basket no_ground no_bruised no_ladder no_helper no_today no_clock pa_undoable pa_free pa_cells).2.2.1 (F_X9_foot p0 no_apron no_basket no_ground no_bruised no_ladder no_helper no_today no_clock pa_undoable pa_free pa_cells).2.2.2.1 (F_X9_foot p0 no_apron no_basket no_ground no_bruised no_ladder no_helper no_today no_clock pa_undoable pa_free pa_cells).2.2.2.2 → Q (F_X9_foot p0 no_apron no_basket no_ground no_bruised no_ladder no_helper no_today no_clock pa_undoable pa_free pa_cells).1 (F_X9_foot p0 no_apron no_basket no_ground no_bruised no_ladder no_helper no_today no_clock pa_undoable pa_free pa_cells).2.1 (F_X9_foot p0 no_apron no_basket no_ground no_bruised no_ladder no_helper no_today no_clock pa_undoable pa_free pa_cells).2.2.1 (F_X9_foot p0 no_apron no_basket no_ground no_bruised no_ladder no_helper no_today no_clock pa_undoable pa_free pa_cells).2.2.2.1 (F_X9_foot p0 no_apron no_basket no_ground no_bruised no_ladder no_helper no_today no_clock pa_undoable pa_free pa_cells).2.2.2.2) : wp_X9_foot Q p0 no_apron no_basket no_ground no_bruised no_ladder no_helper no_today no_clock pa_undoable pa_free pa_cells := dt_X9_foot h (fun o eo => by rw [eo]; exact hq)
theorem dw_X9_foot {Q : Int32 → Int32 → Int32 → Int32 → (Nat → Int32) → Prop} {p0 : Int32} {no_apron : Int32} {no_basket : Int32} {no_ground : Int32} {no_bruised : Int32} {no_ladder : Int32} {no_helper : Int32} {no_today : Int32} {no_clock : Int32} {pa_undoable : Int32} {pa_free : Int32} {pa_cells : Nat → Int32} (h : wp_X9_foot (fun o0 o1 o2 o3 o4 => (o0, o1, o2, o3, o4) = F_X9_foot p0 no_apron no_basket no_ground no_bruised no_ladder no_helper no_today no_clock pa_undoable pa_free pa_cells → Q o0 o1 o2 o3 o4) p0 no_apron no_basket no_ground no_bruised no_ladder no_helper no_today no_clock pa_undoable pa_free pa_cells) : wp_X9_foot Q p0 no_apron no_basket no_ground no_bruised no_ladder no_helper no_today no_clock pa_undoable pa_free pa_cells := dt_X9_foot h (fun o eo hp => hp eo)
noncomputable def F_J6_bitCount_0f7a4 (p0 : Int32) : Int32 := ((((((((p0 - (((p0.toUInt32 >>> ((1 : Int32).toUInt32 &&& Int32.toUInt32 31)).toInt32) &&& 1431655765)) &&& 858993459) + ((((p0 - (((p0.toUInt32 >>> ((1 : Int32).toUInt32 &&& Int32.toUInt32 31)).toInt32) &&& 1431655765)).toUInt32 >>> ((2 : Int32).toUInt32 &&& Int32.toUInt32 31)).toInt32) &&& 858993459)) + (((((p0 - (((p0.toUInt32 >>> ((1 : Int32).toUInt32 &&& Int32.toUInt32 31)).toInt32) &&& 1431655765)) &&& 858993459) + ((((p0 - (((p0.toUInt32 >>> ((1 : Int32).toUInt32 &&& Int32.toUInt32 31)).toInt32) &&& 1431655765)).toUInt32 >>> ((2 : Int32).toUInt32 &&& Int32.toUInt32 31)).toInt32) &&& 858993459)).toUInt32 >>> ((4 : Int32).toUInt32 &&& Int32.toUInt32 31)).toInt32)) &&& 252645135) + (((((((p0 - (((p0.toUInt32 >>> ((1 : Int32).toUInt32 &&& Int32.toUInt32 31)).toInt32) &&& 1431655765)) &&& 858993459) + ((((p0 - (((p0.toUInt32 >>> ((1 : Int32).toUInt32 &&& Int32.toUInt32 31)).toInt32) &&& 1431655765)).toUInt32 >>> ((2 : Int32).toUInt32 &&& Int32.toUInt32 31)).toInt32) &&& 858993459)) + (((((p0 - (((p0.toUInt32 >>> ((1 : Int32).toUInt32 &&& Int32.toUInt32 31)).toInt32) &&& 1431655765)) &&& 858993459) + ((((p0 - (((p0.toUInt32 >>> ((1 : Int32).toUInt32 &&& Int32.toUInt32 31)).toInt32) &&& 1431655765)).toUInt32 >>> ((2 : Int32).toUInt32 &&& Int32.toUInt32 31)).toInt32) &&& 858993459)).toUInt32 >>> ((4 : Int32).toUInt32 &&& Int32.toUInt32 31)).toInt32)) &&& 252645135).toUInt32 >>> ((8 : Int32).toUInt32 &&& Int32.toUInt32 31)).toInt32)) + ((((((((p0 - (((p0.toUInt32 >>> ((1 : Int32).toUInt32 &&& Int32.toUInt32 31)).toInt32) &&& 1431655765)) &&& 858993459) + ((((p0 - (((p0.toUInt32 >>> ((1 : Int32).toUInt32 &&& Int32.toUInt32 31)).toInt32) &&& 1431655765)).toUInt32 >>> ((2 : Int32).toUInt32 &&& Int32.toUInt32 31)).toInt32) &&& 858993459)) + (((((p0 - (((p0.toUInt32 >>> ((1 : Int32).toUInt32 &&& Int32.toUInt32 31)).toInt32) &&& 1431655765)) &&& 858993459) + ((((p0 - (((p0.toUInt32 >>> ((1 : Int32).toUInt32 &&& Int32.toUInt32 31)).toInt32) &&& 1431655765)).toUInt32 >>> ((2 : Int32).toUInt32 &&& Int32.toUInt32 31)).toInt32) &&& 858993459)).toUInt32 >>> ((4 : Int32).toUInt32 &&& Int32.toUInt32 31)).toInt32)) &&& 252645135) + (((((((p0 - (((p0.toUInt32 >>> ((1 : Int32).toUInt32 &&& Int32.toUInt32 31)).toInt32) &&& 1431655765)) &&& 858993459) + ((((p0 - (((p0.toUInt32 >>> ((1 : Int32).toUInt32 &&& Int32.toUInt32 31)).toInt32) &&& 1431655765)).toUInt32 >>> ((2 : Int32).toUInt32 &&& Int32.toUInt32 31)).toInt32) &&& 858993459)) + (((((p0 - (((p0.toUInt32 >>> ((1 : Int32).toUInt32 &&& Int32.toUInt32 31)).toInt32) &&& 1431655765)) &&& 858993459) + ((((p0 - (((p0.toUInt32 >>> ((1 : Int32).toUInt32 &&& Int32.toUInt32 31)).toInt32) &&& 1431655765)).toUInt32 >>> ((2 : Int32).toUInt32 &&& Int32.toUInt32 31)).toInt32) &&& 858993459)).toUInt32 >>> ((4 : Int32).toUInt32 &&& Int32.toUInt32 31)).toInt32)) &&& 252645135).toUInt32 >>> ((8 : Int32).toUInt32 &&& Int32.toUInt32 31)).toInt32)).toUInt32 >>> ((16 : Int32).toUInt32 &&& Int32.toUInt32 31)).toInt32)) &&& 63)
set_option maxHeartbeats 200000 in
set_option maxRecDepth 10000 in
theorem dt_J6_bitCount_0f7a4 {P Q : Int32 → Prop} {p0 : Int32} (h : wp_J6_bitCount_0f7a4 P p0) (hq : ∀ o : Int32, o = F_J6_bitCount_0f7a4 p0 → P o → Q o) : wp_J6_bitCount_0f7a4 Q p0 := by
  rw [F_J6_bitCount_0f7a4] at hq
  refine ae ?_
  have h := h _ rfl
  refine ae ?_
  have h := h _ rfl
  refine ae ?_
  have h := h _ rfl
  refine ae ?_
  have h := h _ rfl
  refine ae ?_
  have h := h _ rfl
  refine ae ?_
  have h := h _ rfl
  refine ae ?_
  have h := h _ rfl
  refine ae ?_
  have h := h _ rfl
  refine ae ?_
  have h := h _ rfl
  have q9 := hq _ rfl
  exact q9 h
theorem du_J6_bitCount_0f7a4 {P Q : Int32 → Prop} {p0 : Int32} (h : wp_J6_bitCount_0f7a4 P p0) (hq : P (F_J6_bitCount_0f7a4 p0) → Q (F_J6_bitCount_0f7a4 p0)) : wp_J6_bitCount_0f7a4 Q p0 := dt_J6_bitCount_0f7a4 h (fun o eo => by rw [eo]; exact hq)
theorem bc_r (x : Int32) : 0 ≤ Int32.toInt (F_J6_bitCount_0f7a4 x) ∧ Int32.toInt (F_J6_bitCount_0f7a4 x) ≤ 63 := by
  have l : Int32.toInt (63 : Int32) = 63 := by decide
  rw [F_J6_bitCount_0f7a4]
  have h := fun y => ti_andr y 63 (by decide)
  rw [l] at h
  exact h _
theorem bc63 (x : Int32) : (((Int32.toInt (F_J6_bitCount_0f7a4 x)).toNat : Nat) : Int) < ((64 : Nat) : Int) := by
  have h := bc_r x
  omega
noncomputable def j_X3_worthOf_54 {R : Type} (k5 : Int32 → Int32 → Int32 → Int32 → R) (tr_fruits : Int32) (tr_worth : Nat → Int32) (x1 : Int32) (x2 : Int32) (x3 : Int32) (x4 : Int32) : R := k5 x1 x2 x3 (x4 + 1)
noncomputable def j_X3_worthOf_52 {R : Type} (k5 : Int32 → Int32 → Int32 → Int32 → R) (tr_fruits : Int32) (tr_worth : Nat → Int32) (x1 : Int32) (x2 : Int32) (x4 : Int32) (k0 : Int32) (k1 : Int32) : R := j_X3_worthOf_54 k5 tr_fruits tr_worth x1 x2 (k0 + k1) x4
noncomputable def bd_X3_worthOf_5 (tr_fruits : Int32) (tr_worth : Nat → Int32) (x1 : Int32) (x2 : Int32) (c : Int32) (s : Int32) : Int32 := if ((x1 >>> (c &&& 31)) &&& 1) = 0 then (j_X3_worthOf_54 (fun q0 q1 q2 q3 => q2) tr_fruits tr_worth x1 x2 s c) else (if ((x2 >>> (c &&& 31)) &&& 1) = 0 then (j_X3_worthOf_52 (fun q0 q1 q2 q3 => q2) tr_fruits tr_worth x1 x2 c s (tr_worth c.toNatClampNeg)) else (j_X3_worthOf_52 (fun q0 q1 q2 q3 => q2) tr_fruits tr_worth x1 x2 c s ((tr_worth c.toNatClampNeg) / 2)))
noncomputable def ex_X3_worthOf_5 {R : Type} (po : Int32 → R) (tr_fruits : Int32) (tr_worth : Nat → Int32) (x1 : Int32) (x2 : Int32) (c : Int32) (s : Int32) : R := po s
set_option maxHeartbeats 200000 in
set_option maxRecDepth 10000 in
theorem dl_X3_worthOf_5 {P Q : Int32 → Prop} {tr_fruits : Int32} {tr_worth : Nat → Int32} {x1 : Int32} {x2 : Int32} {a : Int32} {i : Nat} (hi0 : i < 2147483648) (hE : ∀ (c : Int32) (s : Int32), c = nI (i + (Int32.toInt tr_fruits - ((i : Nat) : Int)).toNat) → s = itr (bd_X3_worthOf_5 tr_fruits tr_worth x1 x2) a i (Int32.toInt tr_fruits - ((i : Nat) : Int)).toNat → (P s) → (Q s)) : ∀ (n k : Nat) (c : Int32), c = nI (i + k) → k ≤ (Int32.toInt tr_fruits - ((i : Nat) : Int)).toNat → wb_X3_worthOf_5 P tr_fruits tr_worth n x1 x2 (itr (bd_X3_worthOf_5 tr_fruits tr_worth x1 x2) a i k) c → wb_X3_worthOf_5 Q tr_fruits tr_worth n x1 x2 (itr (bd_X3_worthOf_5 tr_fruits tr_worth x1 x2) a i k) c := by
  intro n
  induction n with
  | zero => intro k c hc hk h; exact False.elim h
  | succ n ih =>
    intro k c hc hk h
    have hr := tp_r tr_fruits
    have hi : Int32.toInt c = ((i + k : Nat) : Int) := by rw [hc]; exact nI_toInt (by omega)
    refine And.intro (fun t0 => ?_) (fun t0 => ?_)
    · have h := And.left h t0
      have t1 := (fa_le _ _).mp t0
      have hk2 : k = (Int32.toInt tr_fruits - ((i : Nat) : Int)).toNat := by omega
      subst hk2
      exact hE _ _ hc rfl h
    · have h := And.right h t0
      have t1 := mt (fa_le _ _).mpr t0
      have hs : ∀ o : Int32, o = itr (bd_X3_worthOf_5 tr_fruits tr_worth x1 x2) a i (k + 1) → wb_X3_worthOf_5 P tr_fruits tr_worth n x1 x2 o (c + 1) → wb_X3_worthOf_5 Q tr_fruits tr_worth n x1 x2 o (c + 1) := by
        intro o eo h9
        have q := ih (k + 1) (c + 1) (by rw [hc]; exact nI_1 _) (by omega)
        rw [← eo] at q
        exact q h9
      rw [itr_s, ← hc, bd_X3_worthOf_5] at hs
      refine ae ?_
      have h := h _ rfl
      refine And.intro (fun c1 => ?_) (fun c1 => ?_)
      · have h := And.left h c1
        rw [if_pos c1] at hs
        rw [j_X3_worthOf_54] at hs
        unfold ws_X3_worthOf_54 at h ⊢
        refine ae ?_
        have h := h _ rfl
        have q9 := hs _ rfl
        exact q9 h
      · have h := And.right h c1
        rw [if_neg c1] at hs
        refine ae ?_
        have h := h _ rfl
        refine And.intro (fun c2 => ?_) (fun c2 => ?_)
        · have h := And.left h c2
          rw [if_pos c2] at hs
          refine And.intro (And.left h) ?_
          have h := And.right h
          refine ae ?_
          have h := h _ rfl
          rw [j_X3_worthOf_52] at hs
          unfold ws_X3_worthOf_52 at h ⊢
          refine ae ?_
          have h := h _ rfl
          rw [j_X3_worthOf_54] at hs
          unfold ws_X3_worthOf_54 at h ⊢
          refine ae ?_
          have h := h _ rfl
          have q9 := hs _ rfl
          exact q9 h
        · have h := And.right h c2
          rw [if_neg c2] at hs
          refine And.intro (And.left h) ?_
          have h := And.right h
          refine ae ?_
          have h := h _ rfl
          refine ae ?_
          have h := h _ rfl
          rw [j_X3_worthOf_52] at hs
          unfold ws_X3_worthOf_52 at h ⊢
          refine ae ?_
          have h := h _ rfl
          rw [j_X3_worthOf_54] at hs
          unfold ws_X3_worthOf_54 at h ⊢
          refine ae ?_
          have h := h _ rfl
          have q9 := hs _ rfl
          exact q9 h
noncomputable def F_X3_worthOf (p0 : Int32) (p1 : Int32) (tr_fruits : Int32) (tr_worth : Nat → Int32) : Int32 := ex_X3_worthOf_5 (fun o0 => o0) tr_fruits tr_worth p0 p1 (nI (0 + (Int32.toInt tr_fruits - ((0 : Nat) : Int)).toNat)) (itr (bd_X3_worthOf_5 tr_fruits tr_worth p0 p1) 0 0 (Int32.toInt tr_fruits - ((0 : Nat) : Int)).toNat)
set_option maxHeartbeats 200000 in
set_option maxRecDepth 10000 in
theorem dt_X3_worthOf {P Q : Int32 → Prop} {p0 : Int32} {p1 : Int32} {tr_fruits : Int32} {tr_worth : Nat → Int32} (h : wp_X3_worthOf P p0 p1 tr_fruits tr_worth) (hq : ∀ o : Int32, o = F_X3_worthOf p0 p1 tr_fruits tr_worth → P o → Q o) : wp_X3_worthOf Q p0 p1 tr_fruits tr_worth := by
  rw [F_X3_worthOf] at hq
  obtain ⟨n1, h⟩ := h
  refine ⟨n1, dl_X3_worthOf_5 (a := 0) (i := 0) (by decide) ?_ n1 0 0 (by decide) (Nat.zero_le _) h⟩
  intro cc2 s3 ec4 es5 h
  rw [← ec4, ← es5, ex_X3_worthOf_5] at hq
  have q9 := hq _ rfl
  exact q9 h
theorem du_X3_worthOf {P Q : Int32 → Prop} {p0 : Int32} {p1 : Int32} {tr_fruits : Int32} {tr_worth : Nat → Int32} (h : wp_X3_worthOf P p0 p1 tr_fruits tr_worth) (hq : P (F_X3_worthOf p0 p1 tr_fruits tr_worth) → Q (F_X3_worthOf p0 p1 tr_fruits tr_worth)) : wp_X3_worthOf Q p0 p1 tr_fruits tr_worth := dt_X3_worthOf h (fun o eo => by rw [eo]; exact hq)
noncomputable def F_X0_worthOf (p0 : Int32) (tr_fruits : Int32) (tr_worth : Nat → Int32) (no_bruised : Int32) : Int32 := (F_X3_worthOf p0 no_bruised tr_fruits tr_worth)
set_option maxHeartbeats 200000 in
set_option maxRecDepth 10000 in
theorem dt_X0_worthOf {P Q : Int32 → Prop} {p0 : Int32} {tr_fruits : Int32} {tr_worth : Nat → Int32} {no_bruised : Int32} (h : wp_X0_worthOf P p0 tr_fruits tr_worth no_bruised) (hq : ∀ o : Int32, o = F_X0_worthOf p0 tr_fruits tr_worth no_bruised → P o → Q o) : wp_X0_worthOf Q p0 tr_fruits tr_worth no_bruised := by
  rw [F_X0_worthOf] at hq
  refine du_X3_worthOf h ?_
  intro h
  have q9 := hq _ rfl
  exact q9 h
theorem du_X0_worthOf {P Q : Int32 → Prop} {p0 : Int32} {tr_fruits : Int32} {tr_worth : Nat → Int32} {no_bruised : Int32} (h : wp_X0_worthOf P p0 tr_fruits tr_worth no_bruised) (hq : P (F_X0_worthOf p0 tr_fruits tr_worth no_bruised) → Q (F_X0_worthOf p0 tr_fruits tr_worth no_bruised)) : wp_X0_worthOf Q p0 tr_fruits tr_worth no_bruised := dt_X0_worthOf h (fun o eo => by rw [eo]; exact hq)
noncomputable def F_X7_join (p0 : Int32) (p1 : Int32) (p2 : Int32) : Int32 := if p0 = 42 then (p1 * p2) else (if p0 = 43 then (p1 + p2) else (if p0 = 45 then (p1 - p2) else (if p0 = 60 then (if p2 ≤ p1 then 0 else 1) else (if p0 = 61 then (if p1 = p2 then 1 else 0) else (if p0 = 62 then (if p1 ≤ p2 then 0 else 1) else (if p2 = 0 then 0 else (p1 / p2)))))))
set_option maxHeartbeats 200000 in
set_option maxRecDepth 10000 in
theorem dt_X7_join {P Q : Int32 → Prop} {p0 : Int32} {p1 : Int32} {p2 : Int32} (h : wp_X7_join P p0 p1 p2) (hq : ∀ o : Int32, o = F_X7_join p0 p1 p2 → P o → Q o) : wp_X7_join Q p0 p1 p2 := by
  rw [F_X7_join] at hq
  refine (And.intro (fun c1 => ?_) (And.intro (fun c2 => ?_) (And.intro (fun c3 => ?_) (And.intro (fun c4 => ?_) (And.intro (fun c5 => ?_) (And.intro (fun c6 => ?_) (fun c1 c2 c3 c4 c5 c6 => ?_)))))))
  · have h := And.left h c1
    rw [if_pos c1] at hq
    have q9 := hq _ rfl
    exact q9 h
  · have h := And.left (And.right h) c2
    rw [if_neg (fun e9 => absurd (e9.symm.trans c2) (by decide)), if_pos c2] at hq
    have q9 := hq _ rfl
    exact q9 h
  · have h := And.left (And.right (And.right h)) c3
    rw [if_neg (fun e9 => absurd (e9.symm.trans c3) (by decide)), if_neg (fun e9 => absurd (e9.symm.trans c3) (by decide)), if_pos c3] at hq
    have q9 := hq _ rfl
    exact q9 h
  · have h := And.left (And.right (And.right (And.right h))) c4
    rw [if_neg (fun e9 => absurd (e9.symm.trans c4) (by decide)), if_neg (fun e9 => absurd (e9.symm.trans c4) (by decide)), if_neg (fun e9 => absurd (e9.symm.trans c4) (by decide)), if_pos c4] at hq
    refine And.intro (fun c7 => ?_) (fun c7 => ?_)
    · have h := And.left h c7
      rw [if_pos c7] at hq
      have q9 := hq _ rfl
      exact q9 h
    · have h := And.right h c7
      rw [if_neg c7] at hq
      have q9 := hq _ rfl
      exact q9 h
  · have h := And.left (And.right (And.right (And.right (And.right h)))) c5
    rw [if_neg (fun e9 => absurd (e9.symm.trans c5) (by decide)), if_neg (fun e9 => absurd (e9.symm.trans c5) (by decide)), if_neg (fun e9 => absurd (e9.symm.trans c5) (by decide)), if_neg (fun e9 => absurd (e9.symm.trans c5) (by decide)), if_pos c5] at hq
    refine And.intro (fun c8 => ?_) (fun c8 => ?_)
    · have h := And.left h c8
      rw [if_neg c8] at hq
      have q9 := hq _ rfl
      exact q9 h
    · have h := And.right h c8
      rw [if_pos c8] at hq
      have q9 := hq _ rfl
      exact q9 h
  · have h := And.left (And.right (And.right (And.right (And.right (And.right h))))) c6
    rw [if_neg (fun e9 => absurd (e9.symm.trans c6) (by decide)), if_neg (fun e9 => absurd (e9.symm.trans c6) (by decide)), if_neg (fun e9 => absurd (e9.symm.trans c6) (by decide)), if_neg (fun e9 => absurd (e9.symm.trans c6) (by decide)), if_neg (fun e9 => absurd (e9.symm.trans c6) (by decide)), if_pos c6] at hq
    refine And.intro (fun c9 => ?_) (fun c9 => ?_)
    · have h := And.left h c9
      rw [if_pos c9] at hq
      have q9 := hq _ rfl
      exact q9 h
    · have h := And.right h c9
      rw [if_neg c9] at hq
      have q9 := hq _ rfl
      exact q9 h
  · have h := And.right (And.right (And.right (And.right (And.right (And.right h))))) c1 c2 c3 c4 c5 c6
    rw [if_neg c1, if_neg c2, if_neg c3, if_neg c4, if_neg c5, if_neg c6] at hq
    refine And.intro (fun c10 => ?_) (fun c10 => ?_)
    · have h := And.left h c10
      rw [if_neg c10] at hq
      refine And.intro (And.left h) ?_
      have h := And.right h
      have q9 := hq _ rfl
      exact q9 h
    · have h := And.right h c10
      rw [if_pos c10] at hq
      have q9 := hq _ rfl
      exact q9 h
theorem du_X7_join {P Q : Int32 → Prop} {p0 : Int32} {p1 : Int32} {p2 : Int32} (h : wp_X7_join P p0 p1 p2) (hq : P (F_X7_join p0 p1 p2) → Q (F_X7_join p0 p1 p2)) : wp_X7_join Q p0 p1 p2 := dt_X7_join h (fun o eo => by rw [eo]; exact hq)
noncomputable def F_X7_meant (p0 : Int32) (ru_given : Nat → Int32) : Int32 := if (p0 - 1000) < 0 then p0 else (if 7 ≤ (p0 - 1000) then p0 else (ru_given (p0 - 1000).toNatClampNeg))
set_option maxHeartbeats 200000 in
set_option maxRecDepth 10000 in
theorem dt_X7_meant {P Q : Int32 → Prop} {p0 : Int32} {ru_given : Nat → Int32} (h : wp_X7_meant P p0 ru_given) (hq : ∀ o : Int32, o = F_X7_meant p0 ru_given → P o → Q o) : wp_X7_meant Q p0 ru_given := by
  rw [F_X7_meant] at hq
  refine ae ?_
  have h := h _ rfl
  refine And.intro (fun c1 => ?_) (fun c1 => ?_)
  · have h := And.left h c1
    rw [if_pos c1] at hq
    have q9 := hq _ rfl
    exact q9 h
  · have h := And.right h c1
    rw [if_neg c1] at hq
    refine And.intro (fun c2 => ?_) (fun c2 => ?_)
    · have h := And.left h c2
      rw [if_pos c2] at hq
      have q9 := hq _ rfl
      exact q9 h
    · have h := And.right h c2
      rw [if_neg c2] at hq
      refine And.intro (And.left h) ?_
      have h := And.right h
      refine ae ?_
      have h := h _ rfl
      have q9 := hq _ rfl
      exact q9 h
theorem du_X7_meant {P Q : Int32 → Prop} {p0 : Int32} {ru_given : Nat → Int32} (h : wp_X7_meant P p0 ru_given) (hq : P (F_X7_meant p0 ru_given) → Q (F_X7_meant p0 ru_given)) : wp_X7_meant Q p0 ru_given := dt_X7_meant h (fun o eo => by rw [eo]; exact hq)
noncomputable def j_X7_reckon_136 {R : Type} (po : Int32 → (Nat → Int32) → R) (ru_length : Int32) (ru_given : Nat → Int32) (ru_program : Nat → Int32) (x1 : Int32) (ru_stack : Nat → Int32) : R := if x1 ≤ 0 then (po 0 ru_stack) else (po (ru_stack (x1 - 1).toNatClampNeg) ru_stack)
noncomputable def j_X7_reckon_130 {R : Type} (k4 : Int32 → Int32 → (Nat → Int32) → R) (ru_length : Int32) (ru_given : Nat → Int32) (ru_program : Nat → Int32) (x1 : Int32) (x2 : Int32) (ru_stack : Nat → Int32) : R := k4 x1 (x2 + 1) ru_stack
noncomputable def fs_X7_reckon_4 {R : Type} (po : Int32 → (Nat → Int32) → R) (ru_length : Int32) (ru_given : Nat → Int32) (ru_program : Nat → Int32) (nx : Int32 → Int32 → (Nat → Int32) → R) (x1 : Int32) (x2 : Int32) (ru_stack : Nat → Int32) : R := if ru_length ≤ x2 then (j_X7_reckon_136 po ru_length ru_given ru_program x1 ru_stack) else (if 40 ≤ x2 then (j_X7_reckon_136 po ru_length ru_given ru_program x1 ru_stack) else (if 2000 ≤ (ru_program x2.toNatClampNeg) then (if (ru_program x2.toNatClampNeg) = 2256 then (if x1 ≤ 0 then (j_X7_reckon_130 nx ru_length ru_given ru_program x1 x2 ru_stack) else (j_X7_reckon_130 nx ru_length ru_given ru_program x1 x2 (upd ru_stack (x1 - 1).toNatClampNeg (-(ru_stack (x1 - 1).toNatClampNeg))))) else (if x1 ≤ 1 then (j_X7_reckon_130 nx ru_length ru_given ru_program x1 x2 ru_stack) else (j_X7_reckon_130 nx ru_length ru_given ru_program (x1 + (-1)) x2 (upd ru_stack ((x1 + (-1)) - 1).toNatClampNeg (F_X7_join ((ru_program x2.toNatClampNeg) - 2000) (ru_stack ((x1 + (-1)) - 1).toNatClampNeg) (ru_stack (x1 + (-1)).toNatClampNeg)))))) else (if 40 ≤ x1 then (j_X7_reckon_130 nx ru_length ru_given ru_program x1 x2 ru_stack) else (j_X7_reckon_130 nx ru_length ru_given ru_program (x1 + 1) x2 (upd ru_stack x1.toNatClampNeg (F_X7_meant (ru_program x2.toNatClampNeg) ru_given))))))
set_option maxHeartbeats 200000 in
set_option maxRecDepth 10000 in
theorem dl_X7_reckon_4 {P Q : Int32 → (Nat → Int32) → Prop} {ru_length : Int32} {ru_given : Nat → Int32} {ru_program : Nat → Int32} {R : Type} {po : Int32 → (Nat → Int32) → R} {d : Int32 → Int32 → (Nat → Int32) → R} : ∀ (n m : Nat) (x1 : Int32) (x2 : Int32) (ru_stack : Nat → Int32), 0 ≤ Int32.toInt x2 ∧ Int32.toInt x2 ≤ 40 → 40 - Int32.toInt x2 < (m : Int) → wb_X7_reckon_4 P ru_length ru_given ru_program n x1 x2 ru_stack → (∀ (b0 : Int32) (b1 : Nat → Int32), po b0 b1 = flp (fs_X7_reckon_4 po ru_length ru_given ru_program) d m x1 x2 ru_stack → P b0 b1 → Q b0 b1) → wb_X7_reckon_4 Q ru_length ru_given ru_program n x1 x2 ru_stack := by
  have l1 : Int32.toInt (1 : Int32) = 1 := by decide
  have l40 : Int32.toInt (40 : Int32) = 40 := by decide
  intro n
  induction n with
  | zero => intro m x1 x2 ru_stack hv hm h hq; exact False.elim h
  | succ n ih =>
    intro m x1 x2 ru_stack hv hm h hq
    cases m with
    | zero => exfalso; omega
    | succ m =>
      rw [flp_s, fs_X7_reckon_4] at hq
      have h : ws_X7_reckon_4 P (wb_X7_reckon_4 P ru_length ru_given ru_program n) ru_length ru_given ru_program x1 x2 ru_stack := h
      show ws_X7_reckon_4 Q (wb_X7_reckon_4 Q ru_length ru_given ru_program n) ru_length ru_given ru_program x1 x2 ru_stack
      unfold ws_X7_reckon_4 at h ⊢
      refine And.intro (fun c1 => ?_) (fun c1 => ?_)
      · have h := And.left h c1
        rw [if_pos c1] at hq
        have dc1 := (fa_le _ _).mp c1
        rw [j_X7_reckon_136] at hq
        unfold ws_X7_reckon_136 at h ⊢
        refine And.intro (fun c2 => ?_) (fun c2 => ?_)
        · have h := And.left h c2
          rw [if_pos c2] at hq
          have dc2 := (fa_le _ _).mp c2
          exact hq _ _ rfl h
        · have h := And.right h c2
          rw [if_neg c2] at hq
          have dc2 := mt (fa_le _ _).mpr c2
          refine ae ?_
          have h := h _ rfl
          refine And.intro (And.left h) ?_
          have h := And.right h
          refine ae ?_
          have h := h _ rfl
          exact hq _ _ rfl h
      · have h := And.right h c1
        rw [if_neg c1] at hq
        have dc1 := mt (fa_le _ _).mpr c1
        refine And.intro (fun c3 => ?_) (fun c3 => ?_)
        · have h := And.left h c3
          rw [if_pos c3] at hq
          have dc3 := (fa_le _ _).mp c3
          rw [j_X7_reckon_136] at hq
          unfold ws_X7_reckon_136 at h ⊢
          refine And.intro (fun c4 => ?_) (fun c4 => ?_)
          · have h := And.left h c4
            rw [if_pos c4] at hq
            have dc4 := (fa_le _ _).mp c4
            exact hq _ _ rfl h
          · have h := And.right h c4
            rw [if_neg c4] at hq
            have dc4 := mt (fa_le _ _).mpr c4
            refine ae ?_
            have h := h _ rfl
            refine And.intro (And.left h) ?_
            have h := And.right h
            refine ae ?_
            have h := h _ rfl
            exact hq _ _ rfl h
        · have h := And.right h c3
          rw [if_neg c3] at hq
          have dc3 := mt (fa_le _ _).mpr c3
          refine And.intro (And.left h) ?_
          have h := And.right h
          refine ae ?_
          have h := h _ rfl
          refine And.intro (fun c5 => ?_) (fun c5 => ?_)
          · have h := And.left h c5
            rw [if_pos c5] at hq
            have dc5 := (fa_le _ _).mp c5
            refine And.intro (fun c6 => ?_) (fun c6 => ?_)
            · have h := And.left h c6
              rw [if_neg c6] at hq
              have dc6 := mt (fa_eq _ _).mpr c6
              refine And.intro (fun c7 => ?_) (fun c7 => ?_)
              · have h := And.left h c7
                rw [if_pos c7] at hq
                have dc7 := (fa_le _ _).mp c7
                rw [j_X7_reckon_130] at hq
                unfold ws_X7_reckon_130 at h ⊢
                refine ae ?_
                have h := h _ rfl
                have f9 := ta_add x2 1 (by omega)
                exact ih m _ _ _ (by omega) (by omega) h hq
              · have h := And.right h c7
                rw [if_neg c7] at hq
                have dc7 := mt (fa_le _ _).mpr c7
                refine ae ?_
                have h := h _ rfl
                refine ae ?_
                have h := h _ rfl
                refine ae ?_
                have h := h _ rfl
                refine ae ?_
                have h := h _ rfl
                refine And.intro (And.left h) ?_
                have h := And.right h
                refine ae ?_
                have h := h _ rfl
                refine And.intro (And.left h) ?_
                have h := And.right h
                refine ae ?_
                have h := h _ rfl
                refine du_X7_join h ?_
                intro h
                refine And.intro (And.left h) ?_
                have h := And.right h
                rw [j_X7_reckon_130] at hq
                unfold ws_X7_reckon_130 at h ⊢
                refine ae ?_
                have h := h _ rfl
                have f9 := ta_add x2 1 (by omega)
                exact ih m _ _ _ (by omega) (by omega) h hq
            · have h := And.right h c6
              rw [if_pos c6] at hq
              have dc6 := (fa_eq _ _).mp c6
              refine And.intro (fun c8 => ?_) (fun c8 => ?_)
              · have h := And.left h c8
                rw [if_pos c8] at hq
                have dc8 := (fa_le _ _).mp c8
                rw [j_X7_reckon_130] at hq
                unfold ws_X7_reckon_130 at h ⊢
                refine ae ?_
                have h := h _ rfl
                have f9 := ta_add x2 1 (by omega)
                exact ih m _ _ _ (by omega) (by omega) h hq
              · have h := And.right h c8
                rw [if_neg c8] at hq
                have dc8 := mt (fa_le _ _).mpr c8
                refine ae ?_
                have h := h _ rfl
                refine ae ?_
                have h := h _ rfl
                refine And.intro (And.left h) ?_
                have h := And.right h
                refine ae ?_
                have h := h _ rfl
                refine And.intro (And.left h) ?_
                have h := And.right h
                rw [j_X7_reckon_130] at hq
                unfold ws_X7_reckon_130 at h ⊢
                refine ae ?_
                have h := h _ rfl
                have f9 := ta_add x2 1 (by omega)
                exact ih m _ _ _ (by omega) (by omega) h hq
          · have h := And.right h c5
            rw [if_neg c5] at hq
            have dc5 := mt (fa_le _ _).mpr c5
            refine And.intro (fun c9 => ?_) (fun c9 => ?_)
            · have h := And.left h c9
              rw [if_pos c9] at hq
              have dc9 := (fa_le _ _).mp c9
              rw [j_X7_reckon_130] at hq
              unfold ws_X7_reckon_130 at h ⊢
              refine ae ?_
              have h := h _ rfl
              have f9 := ta_add x2 1 (by omega)
              exact ih m _ _ _ (by omega) (by omega) h hq
            · have h := And.right h c9
              rw [if_neg c9] at hq
              have dc9 := mt (fa_le _ _).mpr c9
              refine du_X7_meant h ?_
              intro h
              refine And.intro (And.left h) ?_
              have h := And.right h
              refine ae ?_
              have h := h _ rfl
              rw [j_X7_reckon_130] at hq
              unfold ws_X7_reckon_130 at h ⊢
              refine ae ?_
              have h := h _ rfl
              have f9 := ta_add x2 1 (by omega)
              exact ih m _ _ _ (by omega) (by omega) h hq
noncomputable def F_X7_reckon (ru_length : Int32) (ru_given : Nat → Int32) (ru_stack : Nat → Int32) (ru_program : Nat → Int32) : Int32 × (Nat → Int32) := flp (fs_X7_reckon_4 (fun o0 o1 => (o0, o1)) ru_length ru_given ru_program) (fun _ _ _ => (0, (fun _ => 0))) 41 0 0 ru_stack
set_option maxHeartbeats 200000 in
set_option maxRecDepth 10000 in
theorem dt_X7_reckon {P Q : Int32 → (Nat → Int32) → Prop} {ru_length : Int32} {ru_given : Nat → Int32} {ru_stack : Nat → Int32} {ru_program : Nat → Int32} (h : wp_X7_reckon P ru_length ru_given ru_stack ru_program) (hq : ∀ o : Int32 × (Nat → Int32), o = F_X7_reckon ru_length ru_given ru_stack ru_program → P o.1 o.2 → Q o.1 o.2) : wp_X7_reckon Q ru_length ru_given ru_stack ru_program := by
  rw [F_X7_reckon] at hq
  obtain ⟨n1, h⟩ := h
  exact ⟨n1, dl_X7_reckon_4 n1 41 _ _ _ (by decide) (by decide) h (fun b0 b1 e9 h9 => hq (b0, b1) e9 h9)⟩
theorem du_X7_reckon {P Q : Int32 → (Nat → Int32) → Prop} {ru_length : Int32} {ru_given : Nat → Int32} {ru_stack : Nat → Int32} {ru_program : Nat → Int32} (h : wp_X7_reckon P ru_length ru_given ru_stack ru_program) (hq : P (F_X7_reckon ru_length ru_given ru_stack ru_program).1 (F_X7_reckon ru_length ru_given ru_stack ru_program).2 → Q (F_X7_reckon ru_length ru_given ru_stack ru_program).1 (F_X7_reckon ru_length ru_given ru_stack ru_program).2) : wp_X7_reckon Q ru_length ru_given ru_stack ru_program := dt_X7_reckon h (fun o eo => by rw [eo]; exact hq)
noncomputable def j_X0_pickSeconds_123 {R : Type} (po : Int32 → (Nat → Int32) → (Nat → Int32) → R) (tr_fruits : Int32) (tr_x : Nat → Int32) (tr_height : Nat → Int32) (tr_worth : Nat → Int32) (tr_foot : Nat → Int32) (tr_fork : Nat → Int32) (no_bruised : Int32) (ru_length : Int32) (ru_program : Nat → Int32) (k0 : Int32) (ru_given : Nat → Int32) (ru_stack : Nat → Int32) : R := po (if 1 < (if k0 < 99 then k0 else 99) then (if k0 < 99 then k0 else 99) else 1) ru_given ru_stack
noncomputable def j_X0_pickSeconds_92 {R : Type} (po : Int32 → (Nat → Int32) → (Nat → Int32) → R) (tr_fruits : Int32) (tr_x : Nat → Int32) (tr_height : Nat → Int32) (tr_worth : Nat → Int32) (tr_foot : Nat → Int32) (tr_fork : Nat → Int32) (no_bruised : Int32) (ru_length : Int32) (ru_program : Nat → Int32) (x6 : Int32) (x7 : Int32) (ru_given : Nat → Int32) (ru_stack : Nat → Int32) : R := if ru_length = 0 then (j_X0_pickSeconds_123 po tr_fruits tr_x tr_height tr_worth tr_foot tr_fork no_bruised ru_length ru_program ((2 + (x6 / 4)) + (x7 / 2)) ru_given ru_stack) else (j_X0_pickSeconds_123 po tr_fruits tr_x tr_height tr_worth tr_foot tr_fork no_bruised ru_length ru_program ((F_X7_reckon ru_length ru_given ru_stack ru_program).1) ru_given ((F_X7_reckon ru_length ru_given ru_stack ru_program).2))
noncomputable def F_X0_pickSeconds (p0 : Int32) (p1 : Int32) (p2 : Int32) (p3 : Int32) (tr_fruits : Int32) (tr_x : Nat → Int32) (tr_height : Nat → Int32) (tr_worth : Nat → Int32) (tr_foot : Nat → Int32) (tr_fork : Nat → Int32) (no_bruised : Int32) (ru_length : Int32) (ru_given : Nat → Int32) (ru_stack : Nat → Int32) (ru_program : Nat → Int32) : Int32 × (Nat → Int32) × (Nat → Int32) := j_X0_pickSeconds_92 (fun o0 o1 o2 => (o0, o1, o2)) tr_fruits tr_x tr_height tr_worth tr_foot tr_fork no_bruised ru_length ru_program (F_X3_aside p0 p1 tr_x tr_foot) (F_X3_above p0 p1 tr_height tr_fork) (upd (upd (upd (upd (upd (upd (upd ru_given (0 : Int32).toNatClampNeg (F_X3_aside p0 p1 tr_x tr_foot)) (1 : Int32).toNatClampNeg (F_X3_above p0 p1 tr_height tr_fork)) (2 : Int32).toNatClampNeg (tr_height p0.toNatClampNeg)) (3 : Int32).toNatClampNeg (F_X0_worthOf (1 <<< (p0 &&& 31)) tr_fruits tr_worth no_bruised)) (4 : Int32).toNatClampNeg p1) (5 : Int32).toNatClampNeg p3) (6 : Int32).toNatClampNeg p2) ru_stack
set_option maxHeartbeats 200000 in
set_option maxRecDepth 10000 in
theorem dt_X0_pickSeconds {P Q : Int32 → (Nat → Int32) → (Nat → Int32) → Prop} {p0 : Int32} {p1 : Int32} {p2 : Int32} {p3 : Int32} {tr_fruits : Int32} {tr_x : Nat → Int32} {tr_height : Nat → Int32} {tr_worth : Nat → Int32} {tr_foot : Nat → Int32} {tr_fork : Nat → Int32} {no_bruised : Int32} {ru_length : Int32} {ru_given : Nat → Int32} {ru_stack : Nat → Int32} {ru_program : Nat → Int32} (h : wp_X0_pickSeconds P p0 p1 p2 p3 tr_fruits tr_x tr_height tr_worth tr_foot tr_fork no_bruised ru_length ru_given ru_stack ru_program) (hq : ∀ o : Int32 × (Nat → Int32) × (Nat → Int32), o = F_X0_pickSeconds p0 p1 p2 p3 tr_fruits tr_x tr_height tr_worth tr_foot tr_fork no_bruised ru_length ru_given ru_stack ru_program → P o.1 o.2.1 o.2.2 → Q o.1 o.2.1 o.2.2) : wp_X0_pickSeconds Q p0 p1 p2 p3 tr_fruits tr_x tr_height tr_worth tr_foot tr_fork no_bruised ru_length ru_given ru_stack ru_program := by
  rw [F_X0_pickSeconds] at hq
  refine du_X3_aside h ?_
  intro h
  refine du_X3_above h ?_
  intro h
  refine And.intro (And.left h) ?_
  have h := And.right h
  refine ae ?_
  have h := h _ rfl
  refine ae ?_
  have h := h _ rfl
  refine du_X0_worthOf h ?_
  intro h
  rw [j_X0_pickSeconds_92] at hq
  unfold ws_X0_pickSeconds_92 at h ⊢
  refine And.intro (fun c1 => ?_) (fun c1 => ?_)
  · have h := And.left h c1
    rw [if_neg c1] at hq
    refine du_X7_reckon h ?_
    intro h
    rw [j_X0_pickSeconds_123] at hq
    unfold ws_X0_pickSeconds_123 at h ⊢
    refine ae ?_
    have h := h _ rfl
    refine ae ?_
    have h := h _ rfl
    have q9 := hq _ rfl
    dsimp only at q9
    exact q9 h
  · have h := And.right h c1
    rw [if_pos c1] at hq
    refine ae ?_
    have h := h _ rfl
    refine ae ?_
    have h := h _ rfl
    rw [j_X0_pickSeconds_123] at hq
    unfold ws_X0_pickSeconds_123 at h ⊢
    refine ae ?_
    have h := h _ rfl
    refine ae ?_
    have h := h _ rfl
    have q9 := hq _ rfl
    dsimp only at q9
    exact q9 h
theorem du_X0_pickSeconds {P Q : Int32 → (Nat → Int32) → (Nat → Int32) → Prop} {p0 : Int32} {p1 : Int32} {p2 : Int32} {p3 : Int32} {tr_fruits : Int32} {tr_x : Nat → Int32} {tr_height : Nat → Int32} {tr_worth : Nat → Int32} {tr_foot : Nat → Int32} {tr_fork : Nat → Int32} {no_bruised : Int32} {ru_length : Int32} {ru_given : Nat → Int32} {ru_stack : Nat → Int32} {ru_program : Nat → Int32} (h : wp_X0_pickSeconds P p0 p1 p2 p3 tr_fruits tr_x tr_height tr_worth tr_foot tr_fork no_bruised ru_length ru_given ru_stack ru_program) (hq : P (F_X0_pickSeconds p0 p1 p2 p3 tr_fruits tr_x tr_height tr_worth tr_foot tr_fork no_bruised ru_length ru_given ru_stack ru_program).1 (F_X0_pickSeconds p0 p1 p2 p3 tr_fruits tr_x tr_height tr_worth tr_foot tr_fork no_bruised ru_length ru_given ru_stack ru_program).2.1 (F_X0_pickSeconds p0 p1 p2 p3 tr_fruits tr_x tr_height tr_worth tr_foot tr_fork no_bruised ru_length ru_given ru_stack ru_program).2.2 → Q (F_X0_pickSeconds p0 p1 p2 p3 tr_fruits tr_x tr_height tr_worth tr_foot tr_fork no_bruised ru_length ru_given ru_stack ru_program).1 (F_X0_pickSeconds p0 p1 p2 p3 tr_fruits tr_x tr_height tr_worth tr_foot tr_fork no_bruised ru_length ru_given ru_stack ru_program).2.1 (F_X0_pickSeconds p0 p1 p2 p3 tr_fruits tr_x tr_height tr_worth tr_foot tr_fork no_bruised ru_length ru_given ru_stack ru_program).2.2) : wp_X0_pickSeconds Q p0 p1 p2 p3 tr_fruits tr_x tr_height tr_worth tr_foot tr_fork no_bruised ru_length ru_given ru_stack ru_program := dt_X0_pickSeconds h (fun o eo => by rw [eo]; exact hq)
noncomputable def F_X0_pickFruit (p0 : Int32) (p1 : Int32) (tr_fruits : Int32) (tr_x : Nat → Int32) (tr_height : Nat → Int32) (tr_worth : Nat → Int32) (tr_ripe : Nat → Int32) (tr_foot : Nat → Int32) (tr_fork : Nat → Int32) (tr_settings : Nat → Int32) (no_apron : Int32) (no_basket : Int32) (no_ground : Int32) (no_bruised : Int32) (no_ladder : Int32) (no_helper : Int32) (no_today : Int32) (no_clock : Int32) (ru_length : Int32) (ru_given : Nat → Int32) (ru_stack : Nat → Int32) (ru_program : Nat → Int32) : Int32 × Int32 × Int32 × Int32 × (Nat → Int32) × (Nat → Int32) := if (F_X3_hasFruit p0 tr_fruits) = 0 then ((-1), no_apron, no_bruised, no_clock, ru_given, ru_stack) else (if (F_X9_isYesOrNo p1) = 0 then ((-1), no_apron, no_bruised, no_clock, ru_given, ru_stack) else (if (((F_X0_hanging tr_fruits no_apron no_basket no_ground) >>> (p0 &&& 31)) &&& 1) = 0 then ((-2), no_apron, no_bruised, no_clock, ru_given, ru_stack) else (if (tr_ripe p0.toNatClampNeg) ≤ no_today then (if no_ladder = (-1) then ((-4), no_apron, no_bruised, no_clock, ru_given, ru_stack) else (if (F_X3_isWithin p0 no_ladder (F_X3_reach no_helper p1 tr_settings) tr_x tr_height tr_foot tr_fork) = 0 then ((-4), no_apron, no_bruised, no_clock, ru_given, ru_stack) else (if (F_J6_bitCount_0f7a4 no_apron) < (tr_settings (4 : Int32).toNatClampNeg) then ((F_X0_pickSeconds p0 no_ladder p1 (F_J6_bitCount_0f7a4 no_apron) tr_fruits tr_x tr_height tr_worth tr_foot tr_fork no_bruised ru_length ru_given ru_stack ru_program).1, (no_apron ||| (1 <<< (p0 &&& 31))), (no_bruised ||| (F_X3_lowerThan p0 (F_X0_hanging tr_fruits no_apron no_basket no_ground) tr_fruits tr_x tr_height)), (F_X2_spend (F_X0_pickSeconds p0 no_ladder p1 (F_J6_bitCount_0f7a4 no_apron) tr_fruits tr_x tr_height tr_worth tr_foot tr_fork no_bruised ru_length ru_given ru_stack ru_program).1 no_clock), (F_X0_pickSeconds p0 no_ladder p1 (F_J6_bitCount_0f7a4 no_apron) tr_fruits tr_x tr_height tr_worth tr_foot tr_fork no_bruised ru_length ru_given ru_stack ru_program).2.1, (F_X0_pickSeconds p0 no_ladder p1 (F_J6_bitCount_0f7a4 no_apron) tr_fruits tr_x tr_height tr_worth tr_foot tr_fork no_bruised ru_length ru_given ru_stack ru_program).2.2) else ((-5), no_apron, no_bruised, no_clock, ru_given, ru_stack)))) else ((-3), no_apron, no_bruised, no_clock, ru_given, ru_stack))))
set_option maxHeartbeats 200000 in
set_option maxRecDepth 10000 in
theorem dt_X0_pickFruit {P Q : Int32 → Int32 → Int32 → Int32 → (Nat → Int32) → (Nat → Int32) → Prop} {p0 : Int32} {p1 : Int32} {tr_fruits : Int32} {tr_x : Nat → Int32} {tr_height : Nat → Int32} {tr_worth : Nat → Int32} {tr_ripe : Nat → Int32} {tr_foot : Nat → Int32} {tr_fork : Nat → Int32} {tr_settings : Nat → Int32} {no_apron : Int32} {no_basket : Int32} {no_ground : Int32} {no_bruised : Int32} {no_ladder : Int32} {no_helper : Int32} {no_today : Int32} {no_clock : Int32} {ru_length : Int32} {ru_given : Nat → Int32} {ru_stack : Nat → Int32} {ru_program : Nat → Int32} (h : wp_X0_pickFruit P p0 p1 tr_fruits tr_x tr_height tr_worth tr_ripe tr_foot tr_fork tr_settings no_apron no_basket no_ground no_bruised no_ladder no_helper no_today no_clock ru_length ru_given ru_stack ru_program) (hq : ∀ o : Int32 × Int32 × Int32 × Int32 × (Nat → Int32) × (Nat → Int32), o = F_X0_pickFruit p0 p1 tr_fruits tr_x tr_height tr_worth tr_ripe tr_foot tr_fork tr_settings no_apron no_basket no_ground no_bruised no_ladder no_helper no_today no_clock ru_length ru_given ru_stack ru_program → P o.1 o.2.1 o.2.2.1 o.2.2.2.1 o.2.2.2.2.1 o.2.2.2.2.2 → Q o.1 o.2.1 o.2.2.1 o.2.2.2.1 o.2.2.2.2.1 o.2.2.2.2.2) : wp_X0_pickFruit Q p0 p1 tr_fruits tr_x tr_height tr_worth tr_ripe tr_foot tr_fork tr_settings no_apron no_basket no_ground no_bruised no_ladder no_helper no_today no_clock ru_length ru_given ru_stack ru_program := by
  rw [F_X0_pickFruit] at hq
  refine du_X3_hasFruit h ?_
  intro h
  refine And.intro (fun c1 => ?_) (fun c1 => ?_)
  · have h := And.left h c1
    rw [if_pos c1] at hq
    have q9 := hq _ rfl
    dsimp only at q9
    exact q9 h
  · have h := And.right h c1
    rw [if_neg c1] at hq
    refine du_X9_isYesOrNo h ?_
    intro h
    refine And.intro (fun c2 => ?_) (fun c2 => ?_)
    · have h := And.left h c2
      rw [if_neg c2] at hq
      refine du_X0_hanging h ?_
      intro h
      refine ae ?_
      have h := h _ rfl
      refine And.intro (fun c3 => ?_) (fun c3 => ?_)
      · have h := And.left h c3
        rw [if_neg c3] at hq
        refine And.intro (And.left h) ?_
        have h := And.right h
        refine ae ?_
        have h := h _ rfl
        refine And.intro (fun c4 => ?_) (fun c4 => ?_)
        · have h := And.left h c4
          rw [if_pos c4] at hq
          refine And.intro (fun c5 => ?_) (fun c5 => ?_)
          · have h := And.left h c5
            rw [if_pos c5] at hq
            have q9 := hq _ rfl
            dsimp only at q9
            exact q9 h
          · have h := And.right h c5
            rw [if_neg c5] at hq
            refine du_X3_reach h ?_
            intro h
            refine du_X3_isWithin h ?_
            intro h
            refine And.intro (fun c6 => ?_) (fun c6 => ?_)
            · have h := And.left h c6
              rw [if_neg c6] at hq
              refine du_J6_bitCount_0f7a4 h ?_
              intro h
              refine And.intro (fun c7 => ?_) (fun c7 => ?_)
              · have h := And.left h c7
                rw [if_pos c7] at hq
                refine du_X0_pickSeconds h ?_
                intro h
                refine du_X3_lowerThan h ?_
                intro h
                refine ae ?_
                have h := h _ rfl
                refine ae ?_
                have h := h _ rfl
                refine du_X2_spend h ?_
                intro h
                have q9 := hq _ rfl
                dsimp only at q9
                exact q9 h
              · have h := And.right h c7
                rw [if_neg c7] at hq
                have q9 := hq _ rfl
                dsimp only at q9
                exact q9 h
            · have h := And.right h c6
              rw [if_pos c6] at hq
              have q9 := hq _ rfl
              dsimp only at q9
              exact q9 h
        · have h := And.right h c4
          rw [if_neg c4] at hq
          have q9 := hq _ rfl
          dsimp only at q9
          exact q9 h
      · have h := And.right h c3
        rw [if_pos c3] at hq
        have q9 := hq _ rfl
        dsimp only at q9
        exact q9 h
    · have h := And.right h c2
      rw [if_pos c2] at hq
      have q9 := hq _ rfl
      dsimp only at q9
      exact q9 h
theorem du_X0_pickFruit {P Q : Int32 → Int32 → Int32 → Int32 → (Nat → Int32) → (Nat → Int32) → Prop} {p0 : Int32} {p1 : Int32} {tr_fruits : Int32} {tr_x : Nat → Int32} {tr_height : Nat → Int32} {tr_worth : Nat → Int32} {tr_ripe : Nat → Int32} {tr_foot : Nat → Int32} {tr_fork : Nat → Int32} {tr_settings : Nat → Int32} {no_apron : Int32} {no_basket : Int32} {no_ground : Int32} {no_bruised : Int32} {no_ladder : Int32} {no_helper : Int32} {no_today : Int32} {no_clock : Int32} {ru_length : Int32} {ru_given : Nat → Int32} {ru_stack : Nat → Int32} {ru_program : Nat → Int32} (h : wp_X0_pickFruit P p0 p1 tr_fruits tr_x tr_height tr_worth tr_ripe tr_foot tr_fork tr_settings no_apron no_basket no_ground no_bruised no_ladder no_helper no_today no_clock ru_length ru_given ru_stack ru_program) (hq : P (F_X0_pickFruit p0 p1 tr_fruits tr_x tr_height tr_worth tr_ripe tr_foot tr_fork tr_settings no_apron no_basket no_ground no_bruised no_ladder no_helper no_today no_clock ru_length ru_given ru_stack ru_program).1 (F_X0_pickFruit p0 p1 tr_fruits tr_x tr_height tr_worth tr_ripe tr_foot tr_fork tr_settings no_apron no_basket no_ground no_bruised no_ladder no_helper no_today no_clock ru_length ru_given ru_stack ru_program).2.1 (F_X0_pickFruit p0 p1 tr_fruits tr_x tr_height tr_worth tr_ripe tr_foot tr_fork tr_settings no_apron no_basket no_ground no_bruised no_ladder no_helper no_today no_clock ru_length ru_given ru_stack ru_program).2.2.1 (F_X0_pickFruit p0 p1 tr_fruits tr_x tr_height tr_worth tr_ripe tr_foot tr_fork tr_settings no_apron no_basket no_ground no_bruised no_ladder no_helper no_today no_clock ru_length ru_given ru_stack ru_program).2.2.2.1 (F_X0_pickFruit p0 p1 tr_fruits tr_x tr_height tr_worth tr_ripe tr_foot tr_fork tr_settings no_apron no_basket no_ground no_bruised no_ladder no_helper no_today no_clock ru_length ru_given ru_stack ru_program).2.2.2.2.1 (F_X0_pickFruit p0 p1 tr_fruits tr_x tr_height tr_worth tr_ripe tr_foot tr_fork tr_settings no_apron no_basket no_ground no_bruised no_ladder no_helper no_today no_clock ru_length ru_given ru_stack ru_program).2.2.2.2.2 → Q (F_X0_pickFruit p0 p1 tr_fruits tr_x tr_height tr_worth tr_ripe tr_foot tr_fork tr_settings no_apron no_basket no_ground no_bruised no_ladder no_helper no_today no_clock ru_length ru_given ru_stack ru_program).1 (F_X0_pickFruit p0 p1 tr_fruits tr_x tr_height tr_worth tr_ripe tr_foot tr_fork tr_settings no_apron no_basket no_ground no_bruised no_ladder no_helper no_today no_clock ru_length ru_given ru_stack ru_program).2.1 (F_X0_pickFruit p0 p1 tr_fruits tr_x tr_height tr_worth tr_ripe tr_foot tr_fork tr_settings no_apron no_basket no_ground no_bruised no_ladder no_helper no_today no_clock ru_length ru_given ru_stack ru_program).2.2.1 (F_X0_pickFruit p0 p1 tr_fruits tr_x tr_height tr_worth tr_ripe tr_foot tr_fork tr_settings no_apron no_basket no_ground no_bruised no_ladder no_helper no_today no_clock ru_length ru_given ru_stack ru_program).2.2.2.1 (F_X0_pickFruit p0 p1 tr_fruits tr_x tr_height tr_worth tr_ripe tr_foot tr_fork tr_settings no_apron no_basket no_ground no_bruised no_ladder no_helper no_today no_clock ru_length ru_given ru_stack ru_program).2.2.2.2.1 (F_X0_pickFruit p0 p1 tr_fruits tr_x tr_height tr_worth tr_ripe tr_foot tr_fork tr_settings no_apron no_basket no_ground no_bruised no_ladder no_helper no_today no_clock ru_length ru_given ru_stack ru_program).2.2.2.2.2) : wp_X0_pickFruit Q p0 p1 tr_fruits tr_x tr_height tr_worth tr_ripe tr_foot tr_fork tr_settings no_apron no_basket no_ground no_bruised no_ladder no_helper no_today no_clock ru_length ru_given ru_stack ru_program := dt_X0_pickFruit h (fun o eo => by rw [eo]; exact hq)
noncomputable def F_X9_pick (p0 : Int32) (p1 : Int32) (tr_fruits : Int32) (tr_x : Nat → Int32) (tr_height : Nat → Int32) (tr_worth : Nat → Int32) (tr_ripe : Nat → Int32) (tr_foot : Nat → Int32) (tr_fork : Nat → Int32) (tr_settings : Nat → Int32) (no_apron : Int32) (no_basket : Int32) (no_ground : Int32) (no_bruised : Int32) (no_ladder : Int32) (no_helper : Int32) (no_today : Int32) (no_clock : Int32) (ru_length : Int32) (ru_given : Nat → Int32) (ru_stack : Nat → Int32) (ru_program : Nat → Int32) (pa_undoable : Int32) (pa_free : Int32) (pa_cells : Nat → Int32) : Int32 × Int32 × Int32 × Int32 × (Nat → Int32) × (Nat → Int32) × Int32 × Int32 × (Nat → Int32) := ((F_X9_holdIfDone (F_X0_pickFruit p0 p1 tr_fruits tr_x tr_height tr_worth tr_ripe tr_foot tr_fork tr_settings no_apron no_basket no_ground no_bruised no_ladder no_helper no_today no_clock ru_length ru_given ru_stack ru_program).1 pa_undoable pa_free).1, (F_X0_pickFruit p0 p1 tr_fruits tr_x tr_height tr_worth tr_ripe tr_foot tr_fork tr_settings no_apron no_basket no_ground no_bruised no_ladder no_helper no_today no_clock ru_length ru_given ru_stack ru_program).2.1, (F_X0_pickFruit p0 p1 tr_fruits tr_x tr_height tr_worth tr_ripe tr_foot tr_fork tr_settings no_apron no_basket no_ground no_bruised no_ladder no_helper no_today no_clock ru_length ru_given ru_stack ru_program).2.2.1, (F_X0_pickFruit p0 p1 tr_fruits tr_x tr_height tr_worth tr_ripe tr_foot tr_fork tr_settings no_apron no_basket no_ground no_bruised no_ladder no_helper no_today no_clock ru_length ru_given ru_stack ru_program).2.2.2.1, (F_X0_pickFruit p0 p1 tr_fruits tr_x tr_height tr_worth tr_ripe tr_foot tr_fork tr_settings no_apron no_basket no_ground no_bruised no_ladder no_helper no_today no_clock ru_length ru_given ru_stack ru_program).2.2.2.2.1, (F_X0_pickFruit p0 p1 tr_fruits tr_x tr_height tr_worth tr_ripe tr_foot tr_fork tr_settings no_apron no_basket no_ground no_bruised no_ladder no_helper no_today no_clock ru_length ru_given ru_stack ru_program).2.2.2.2.2, (F_X9_holdIfDone (F_X0_pickFruit p0 p1 tr_fruits tr_x tr_height tr_worth tr_ripe tr_foot tr_fork tr_settings no_apron no_basket no_ground no_bruised no_ladder no_helper no_today no_clock ru_length ru_given ru_stack ru_program).1 pa_undoable pa_free).2.1, (F_X9_holdIfDone (F_X0_pickFruit p0 p1 tr_fruits tr_x tr_height tr_worth tr_ripe tr_foot tr_fork tr_settings no_apron no_basket no_ground no_bruised no_ladder no_helper no_today no_clock ru_length ru_given ru_stack ru_program).1 pa_undoable pa_free).2.2, (F_X4_note no_apron no_basket no_ground no_bruised no_ladder no_helper no_today no_clock pa_free pa_cells))
set_option maxHeartbeats 200000 in
set_option maxRecDepth 10000 in
theorem dt_X9_pick {P Q : Int32 → Int32 → Int32 → Int32 → (Nat → Int32) → (Nat → Int32) → Int32 → Int32 → (Nat → Int32) → Prop} {p0 : Int32} {p1 : Int32} {tr_fruits : Int32} {tr_x : Nat → Int32} {tr_height : Nat → Int32} {tr_worth : Nat → Int32} {tr_ripe : Nat → Int32} {tr_foot : Nat → Int32} {tr_fork : Nat → Int32} {tr_settings : Nat → Int32} {no_apron : Int32} {no_basket : Int32} {no_ground : Int32} {no_bruised : Int32} {no_ladder : Int32} {no_helper : Int32} {no_today : Int32} {no_clock : Int32} {ru_length : Int32} {ru_given : Nat → Int32} {ru_stack : Nat → Int32} {ru_program : Nat → Int32} {pa_undoable : Int32} {pa_free : Int32} {pa_cells : Nat → Int32} (h : wp_X9_pick P p0 p1 tr_fruits tr_x tr_height tr_worth tr_ripe tr_foot tr_fork tr_settings no_apron no_basket no_ground no_bruised no_ladder no_helper no_today no_clock ru_length ru_given ru_stack ru_program pa_undoable pa_free pa_cells) (hq : ∀ o : Int32 × Int32 × Int32 × Int32 × (Nat → Int32) × (Nat → Int32) × Int32 × Int32 × (Nat → Int32), o = F_X9_pick p0 p1 tr_fruits tr_x tr_height tr_worth tr_ripe tr_foot tr_fork tr_settings no_apron no_basket no_ground no_bruised no_ladder no_helper no_today no_clock ru_length ru_given ru_stack ru_program pa_undoable pa_free pa_cells → P o.1 o.2.1 o.2.2.1 o.2.2.2.1 o.2.2.2.2.1 o.2.2.2.2.2.1 o.2.2.2.2.2.2.1 o.2.2.2.2.2.2.2.1 o.2.2.2.2.2.2.2.2 → Q o.1 o.2.1 o.2.2.1 o.2.2.2.1 o.2.2.2.2.1 o.2.2.2.2.2.1 o.2.2.2.2.2.2.1 o.2.2.2.2.2.2.2.1 o.2.2.2.2.2.2.2.2) : wp_X9_pick Q p0 p1 tr_fruits tr_x tr_height tr_worth tr_ripe tr_foot tr_fork tr_settings no_apron no_basket no_ground no_bruised no_ladder no_helper no_today no_clock ru_length ru_given ru_stack ru_program pa_undoable pa_free pa_cells := by
  rw [F_X9_pick] at hq
  refine du_X4_note h ?_
  intro h
  refine du_X0_pickFruit h ?_
  intro h
  refine du_X9_holdIfDone h ?_
  intro h
  have q9 := hq _ rfl
  dsimp only at q9
  exact q9 h
theorem du_X9_pick {P Q : Int32 → Int32 → Int32 → Int32 → (Nat → Int32) → (Nat → Int32) → Int32 → Int32 → (Nat → Int32) → Prop} {p0 : Int32} {p1 : Int32} {tr_fruits : Int32} {tr_x : Nat → Int32} {tr_height : Nat → Int32} {tr_worth : Nat → Int32} {tr_ripe : Nat → Int32} {tr_foot : Nat → Int32} {tr_fork : Nat → Int32} {tr_settings : Nat → Int32} {no_apron : Int32} {no_basket : Int32} {no_ground : Int32} {no_bruised : Int32} {no_ladder : Int32} {no_helper : Int32} {no_today : Int32} {no_clock : Int32} {ru_length : Int32} {ru_given : Nat → Int32} {ru_stack : Nat → Int32} {ru_program : Nat → Int32} {pa_undoable : Int32} {pa_free : Int32} {pa_cells : Nat → Int32} (h : wp_X9_pick P p0 p1 tr_fruits tr_x tr_height tr_worth tr_ripe tr_foot tr_fork tr_settings no_apron no_basket no_ground no_bruised no_ladder no_helper no_today no_clock ru_length ru_given ru_stack ru_program pa_undoable pa_free pa_cells) (hq : P (F_X9_pick p0 p1 tr_fruits tr_x tr_height tr_worth tr_ripe tr_foot tr_fork tr_settings no_apron no_basket no_ground no_bruised no_ladder no_helper no_today no_clock ru_length ru_given ru_stack ru_program pa_undoable pa_free pa_cells).1 (F_X9_pick p0 p1 tr_fruits tr_x tr_height tr_worth tr_ripe tr_foot tr_fork tr_settings no_apron no_basket no_ground no_bruised no_ladder no_helper no_today no_clock ru_length ru_given ru_stack ru_program pa_undoable pa_free pa_cells).2.1 (F_X9_pick p0 p1 tr_fruits tr_x tr_height tr_worth tr_ripe tr_foot tr_fork tr_settings no_apron no_basket no_ground no_bruised no_ladder no_helper no_today no_clock ru_length ru_given ru_stack ru_program pa_undoable pa_free pa_cells).2.2.1 (F_X9_pick p0 p1 tr_fruits tr_x tr_height tr_worth tr_ripe tr_foot tr_fork tr_settings no_apron no_basket no_ground no_bruised no_ladder no_helper no_today no_clock ru_length ru_given ru_stack ru_program pa_undoable pa_free pa_cells).2.2.2.1 (F_X9_pick p0 p1 tr_fruits tr_x tr_height tr_worth tr_ripe tr_foot tr_fork tr_settings no_apron no_basket no_ground no_bruised no_ladder no_helper no_today no_clock ru_length ru_given ru_stack ru_program pa_undoable pa_free pa_cells).2.2.2.2.1 (F_X9_pick p0 p1 tr_fruits tr_x tr_height tr_worth tr_ripe tr_foot tr_fork tr_settings no_apron no_basket no_ground no_bruised no_ladder no_helper no_today no_clock ru_length ru_given ru_stack ru_program pa_undoable pa_free pa_cells).2.2.2.2.2.1 (F_X9_pick p0 p1 tr_fruits tr_x tr_height tr_worth tr_ripe tr_foot tr_fork tr_settings no_apron no_basket no_ground no_bruised no_ladder no_helper no_today no_clock ru_length ru_given ru_stack ru_program pa_undoable pa_free pa_cells).2.2.2.2.2.2.1 (F_X9_pick p0 p1 tr_fruits tr_x tr_height tr_worth tr_ripe tr_foot tr_fork tr_settings no_apron no_basket no_ground no_bruised no_ladder no_helper no_today no_clock ru_length ru_given ru_stack ru_program pa_undoable pa_free pa_cells).2.2.2.2.2.2.2.1 (F_X9_pick p0 p1 tr_fruits tr_x tr_height tr_worth tr_ripe tr_foot tr_fork tr_settings no_apron no_basket no_ground no_bruised no_ladder no_helper no_today no_clock ru_length ru_given ru_stack ru_program pa_undoable pa_free pa_cells).2.2.2.2.2.2.2.2 → Q (F_X9_pick p0 p1 tr_fruits tr_x tr_height tr_worth tr_ripe tr_foot tr_fork tr_settings no_apron no_basket no_ground no_bruised no_ladder no_helper no_today no_clock ru_length ru_given ru_stack ru_program pa_undoable pa_free pa_cells).1 (F_X9_pick p0 p1 tr_fruits tr_x tr_height tr_worth tr_ripe tr_foot tr_fork tr_settings no_apron no_basket no_ground no_bruised no_ladder no_helper no_today no_clock ru_length ru_given ru_stack ru_program pa_undoable pa_free pa_cells).2.1 (F_X9_pick p0 p1 tr_fruits tr_x tr_height tr_worth tr_ripe tr_foot tr_fork tr_settings no_apron no_basket no_ground no_bruised no_ladder no_helper no_today no_clock ru_length ru_given ru_stack ru_program pa_undoable pa_free pa_cells).2.2.1 (F_X9_pick p0 p1 tr_fruits tr_x tr_height tr_worth tr_ripe tr_foot tr_fork tr_settings no_apron no_basket no_ground no_bruised no_ladder no_helper no_today no_clock ru_length ru_given ru_stack ru_program pa_undoable pa_free pa_cells).2.2.2.1 (F_X9_pick p0 p1 tr_fruits tr_x tr_height tr_worth tr_ripe tr_foot tr_fork tr_settings no_apron no_basket no_ground no_bruised no_ladder no_helper no_today no_clock ru_length ru_given ru_stack ru_program pa_undoable pa_free pa_cells).2.2.2.2.1 (F_X9_pick p0 p1 tr_fruits tr_x tr_height tr_worth tr_ripe tr_foot tr_fork tr_settings no_apron no_basket no_ground no_bruised no_ladder no_helper no_today no_clock ru_length ru_given ru_stack ru_program pa_undoable pa_free pa_cells).2.2.2.2.2.1 (F_X9_pick p0 p1 tr_fruits tr_x tr_height tr_worth tr_ripe tr_foot tr_fork tr_settings no_apron no_basket no_ground no_bruised no_ladder no_helper no_today no_clock ru_length ru_given ru_stack ru_program pa_undoable pa_free pa_cells).2.2.2.2.2.2.1 (F_X9_pick p0 p1 tr_fruits tr_x tr_height tr_worth tr_ripe tr_foot tr_fork tr_settings no_apron no_basket no_ground no_bruised no_ladder no_helper no_today no_clock ru_length ru_given ru_stack ru_program pa_undoable pa_free pa_cells).2.2.2.2.2.2.2.1 (F_X9_pick p0 p1 tr_fruits tr_x tr_height tr_worth tr_ripe tr_foot tr_fork tr_settings no_apron no_basket no_ground no_bruised no_ladder no_helper no_today no_clock ru_length ru_given ru_stack ru_program pa_undoable pa_free pa_cells).2.2.2.2.2.2.2.2) : wp_X9_pick Q p0 p1 tr_fruits tr_x tr_height tr_worth tr_ripe tr_foot tr_fork tr_settings no_apron no_basket no_ground no_bruised no_ladder no_helper no_today no_clock ru_length ru_given ru_stack ru_program pa_undoable pa_free pa_cells := dt_X9_pick h (fun o eo => by rw [eo]; exact hq)
theorem dw_X9_pick {Q : Int32 → Int32 → Int32 → Int32 → (Nat → Int32) → (Nat → Int32) → Int32 → Int32 → (Nat → Int32) → Prop} {p0 : Int32} {p1 : Int32} {tr_fruits : Int32} {tr_x : Nat → Int32} {tr_height : Nat → Int32} {tr_worth : Nat → Int32} {tr_ripe : Nat → Int32} {tr_foot : Nat → Int32} {tr_fork : Nat → Int32} {tr_settings : Nat → Int32} {no_apron : Int32} {no_basket : Int32} {no_ground : Int32} {no_bruised : Int32} {no_ladder : Int32} {no_helper : Int32} {no_today : Int32} {no_clock : Int32} {ru_length : Int32} {ru_given : Nat → Int32} {ru_stack : Nat → Int32} {ru_program : Nat → Int32} {pa_undoable : Int32} {pa_free : Int32} {pa_cells : Nat → Int32} (h : wp_X9_pick (fun o0 o1 o2 o3 o4 o5 o6 o7 o8 => (o0, o1, o2, o3, o4, o5, o6, o7, o8) = F_X9_pick p0 p1 tr_fruits tr_x tr_height tr_worth tr_ripe tr_foot tr_fork tr_settings no_apron no_basket no_ground no_bruised no_ladder no_helper no_today no_clock ru_length ru_given ru_stack ru_program pa_undoable pa_free pa_cells → Q o0 o1 o2 o3 o4 o5 o6 o7 o8) p0 p1 tr_fruits tr_x tr_height tr_worth tr_ripe tr_foot tr_fork tr_settings no_apron no_basket no_ground no_bruised no_ladder no_helper no_today no_clock ru_length ru_given ru_stack ru_program pa_undoable pa_free pa_cells) : wp_X9_pick Q p0 p1 tr_fruits tr_x tr_height tr_worth tr_ripe tr_foot tr_fork tr_settings no_apron no_basket no_ground no_bruised no_ladder no_helper no_today no_clock ru_length ru_given ru_stack ru_program pa_undoable pa_free pa_cells := dt_X9_pick h (fun o eo hp => hp eo)
noncomputable def F_X0_goDown (tr_fork : Nat → Int32) (no_apron : Int32) (no_basket : Int32) (no_ladder : Int32) (no_clock : Int32) : Int32 × Int32 × Int32 × Int32 := if no_ladder = (-1) then ((-2), no_apron, no_basket, no_clock) else (if no_apron = 0 then ((-2), no_apron, no_basket, no_clock) else ((F_J6_bitCount_0f7a4 no_apron), (F_X2_emptyApron no_apron no_basket).1, (F_X2_emptyApron no_apron no_basket).2, (F_X2_spend (F_X3_downSeconds no_ladder tr_fork) no_clock)))
set_option maxHeartbeats 200000 in
set_option maxRecDepth 10000 in
theorem dt_X0_goDown {P Q : Int32 → Int32 → Int32 → Int32 → Prop} {tr_fork : Nat → Int32} {no_apron : Int32} {no_basket : Int32} {no_ladder : Int32} {no_clock : Int32} (h : wp_X0_goDown P tr_fork no_apron no_basket no_ladder no_clock) (hq : ∀ o : Int32 × Int32 × Int32 × Int32, o = F_X0_goDown tr_fork no_apron no_basket no_ladder no_clock → P o.1 o.2.1 o.2.2.1 o.2.2.2 → Q o.1 o.2.1 o.2.2.1 o.2.2.2) : wp_X0_goDown Q tr_fork no_apron no_basket no_ladder no_clock := by
  rw [F_X0_goDown] at hq
  refine And.intro (fun c1 => ?_) (fun c1 => ?_)
  · have h := And.left h c1
    rw [if_pos c1] at hq
    have q9 := hq _ rfl
    dsimp only at q9
    exact q9 h
  · have h := And.right h c1
    rw [if_neg c1] at hq
    refine And.intro (fun c2 => ?_) (fun c2 => ?_)
    · have h := And.left h c2
      rw [if_neg c2] at hq
      refine du_J6_bitCount_0f7a4 h ?_
      intro h
      refine du_X2_emptyApron h ?_
      intro h
      refine du_X3_downSeconds h ?_
      intro h
      refine du_X2_spend h ?_
      intro h
      have q9 := hq _ rfl
      dsimp only at q9
      exact q9 h
    · have h := And.right h c2
      rw [if_pos c2] at hq
      have q9 := hq _ rfl
      dsimp only at q9
      exact q9 h
theorem du_X0_goDown {P Q : Int32 → Int32 → Int32 → Int32 → Prop} {tr_fork : Nat → Int32} {no_apron : Int32} {no_basket : Int32} {no_ladder : Int32} {no_clock : Int32} (h : wp_X0_goDown P tr_fork no_apron no_basket no_ladder no_clock) (hq : P (F_X0_goDown tr_fork no_apron no_basket no_ladder no_clock).1 (F_X0_goDown tr_fork no_apron no_basket no_ladder no_clock).2.1 (F_X0_goDown tr_fork no_apron no_basket no_ladder no_clock).2.2.1 (F_X0_goDown tr_fork no_apron no_basket no_ladder no_clock).2.2.2 → Q (F_X0_goDown tr_fork no_apron no_basket no_ladder no_clock).1 (F_X0_goDown tr_fork no_apron no_basket no_ladder no_clock).2.1 (F_X0_goDown tr_fork no_apron no_basket no_ladder no_clock).2.2.1 (F_X0_goDown tr_fork no_apron no_basket no_ladder no_clock).2.2.2) : wp_X0_goDown Q tr_fork no_apron no_basket no_ladder no_clock := dt_X0_goDown h (fun o eo => by rw [eo]; exact hq)
noncomputable def F_X9_down (tr_fork : Nat → Int32) (no_apron : Int32) (no_basket : Int32) (no_ground : Int32) (no_bruised : Int32) (no_ladder : Int32) (no_helper : Int32) (no_today : Int32) (no_clock : Int32) (pa_undoable : Int32) (pa_free : Int32) (pa_cells : Nat → Int32) : Int32 × Int32 × Int32 × Int32 × Int32 × Int32 × (Nat → Int32) := ((F_X9_holdIfDone (F_X0_goDown tr_fork no_apron no_basket no_ladder no_clock).1 pa_undoable pa_free).1, (F_X0_goDown tr_fork no_apron no_basket no_ladder no_clock).2.1, (F_X0_goDown tr_fork no_apron no_basket no_ladder no_clock).2.2.1, (F_X0_goDown tr_fork no_apron no_basket no_ladder no_clock).2.2.2, (F_X9_holdIfDone (F_X0_goDown tr_fork no_apron no_basket no_ladder no_clock).1 pa_undoable pa_free).2.1, (F_X9_holdIfDone (F_X0_goDown tr_fork no_apron no_basket no_ladder no_clock).1 pa_undoable pa_free).2.2, (F_X4_note no_apron no_basket no_ground no_bruised no_ladder no_helper no_today no_clock pa_free pa_cells))
set_option maxHeartbeats 200000 in
set_option maxRecDepth 10000 in
theorem dt_X9_down {P Q : Int32 → Int32 → Int32 → Int32 → Int32 → Int32 → (Nat → Int32) → Prop} {tr_fork : Nat → Int32} {no_apron : Int32} {no_basket : Int32} {no_ground : Int32} {no_bruised : Int32} {no_ladder : Int32} {no_helper : Int32} {no_today : Int32} {no_clock : Int32} {pa_undoable : Int32} {pa_free : Int32} {pa_cells : Nat → Int32} (h : wp_X9_down P tr_fork no_apron no_basket no_ground no_bruised no_ladder no_helper no_today no_clock pa_undoable pa_free pa_cells) (hq : ∀ o : Int32 × Int32 × Int32 × Int32 × Int32 × Int32 × (Nat → Int32), o = F_X9_down tr_fork no_apron no_basket no_ground no_bruised no_ladder no_helper no_today no_clock pa_undoable pa_free pa_cells → P o.1 o.2.1 o.2.2.1 o.2.2.2.1 o.2.2.2.2.1 o.2.2.2.2.2.1 o.2.2.2.2.2.2 → Q o.1 o.2.1 o.2.2.1 o.2.2.2.1 o.2.2.2.2.1 o.2.2.2.2.2.1 o.2.2.2.2.2.2) : wp_X9_down Q tr_fork no_apron no_basket no_ground no_bruised no_ladder no_helper no_today no_clock pa_undoable pa_free pa_cells := by
  rw [F_X9_down] at hq
  refine du_X4_note h ?_
  intro h
  refine du_X0_goDown h ?_
  intro h
  refine du_X9_holdIfDone h ?_
  intro h
  have q9 := hq _ rfl
  dsimp only at q9
  exact q9 h
theorem du_X9_down {P Q : Int32 → Int32 → Int32 → Int32 → Int32 → Int32 → (Nat → Int32) → Prop} {tr_fork : Nat → Int32} {no_apron : Int32} {no_basket : Int32} {no_ground : Int32} {no_bruised : Int32} {no_ladder : Int32} {no_helper : Int32} {no_today : Int32} {no_clock : Int32} {pa_undoable : Int32} {pa_free : Int32} {pa_cells : Nat → Int32} (h : wp_X9_down P tr_fork no_apron no_basket no_ground no_bruised no_ladder no_helper no_today no_clock pa_undoable pa_free pa_cells) (hq : P (F_X9_down tr_fork no_apron no_basket no_ground no_bruised no_ladder no_helper no_today no_clock pa_undoable pa_free pa_cells).1 (F_X9_down tr_fork no_apron no_basket no_ground no_bruised no_ladder no_helper no_today no_clock pa_undoable pa_free pa_cells).2.1 (F_X9_down tr_fork no_apron no_basket no_ground no_bruised no_ladder no_helper no_today no_clock pa_undoable pa_free pa_cells).2.2.1 (F_X9_down tr_fork no_apron no_basket no_ground no_bruised no_ladder no_helper no_today no_clock pa_undoable pa_free pa_cells).2.2.2.1 (F_X9_down tr_fork no_apron no_basket no_ground no_bruised no_ladder no_helper no_today no_clock pa_undoable pa_free pa_cells).2.2.2.2.1 (F_X9_down tr_fork no_apron no_basket no_ground no_bruised no_ladder no_helper no_today no_clock pa_undoable pa_free pa_cells).2.2.2.2.2.1 (F_X9_down tr_fork no_apron no_basket no_ground no_bruised no_ladder no_helper no_today no_clock pa_undoable pa_free pa_cells).2.2.2.2.2.2 → Q (F_X9_down tr_fork no_apron no_basket no_ground no_bruised no_ladder no_helper no_today no_clock pa_undoable pa_free pa_cells).1 (F_X9_down tr_fork no_apron no_basket no_ground no_bruised no_ladder no_helper no_today no_clock pa_undoable pa_free pa_cells).2.1 (F_X9_down tr_fork no_apron no_basket no_ground no_bruised no_ladder no_helper no_today no_clock pa_undoable pa_free pa_cells).2.2.1 (F_X9_down tr_fork no_apron no_basket no_ground no_bruised no_ladder no_helper no_today no_clock pa_undoable pa_free pa_cells).2.2.2.1 (F_X9_down tr_fork no_apron no_basket no_ground no_bruised no_ladder no_helper no_today no_clock pa_undoable pa_free pa_cells).2.2.2.2.1 (F_X9_down tr_fork no_apron no_basket no_ground no_bruised no_ladder no_helper no_today no_clock pa_undoable pa_free pa_cells).2.2.2.2.2.1 (F_X9_down tr_fork no_apron no_basket no_ground no_bruised no_ladder no_helper no_today no_clock pa_undoable pa_free pa_cells).2.2.2.2.2.2) : wp_X9_down Q tr_fork no_apron no_basket no_ground no_bruised no_ladder no_helper no_today no_clock pa_undoable pa_free pa_cells := dt_X9_down h (fun o eo => by rw [eo]; exact hq)
theorem dw_X9_down {Q : Int32 → Int32 → Int32 → Int32 → Int32 → Int32 → (Nat → Int32) → Prop} {tr_fork : Nat → Int32} {no_apron : Int32} {no_basket : Int32} {no_ground : Int32} {no_bruised : Int32} {no_ladder : Int32} {no_helper : Int32} {no_today : Int32} {no_clock : Int32} {pa_undoable : Int32} {pa_free : Int32} {pa_cells : Nat → Int32} (h : wp_X9_down (fun o0 o1 o2 o3 o4 o5 o6 => (o0, o1, o2, o3, o4, o5, o6) = F_X9_down tr_fork no_apron no_basket no_ground no_bruised no_ladder no_helper no_today no_clock pa_undoable pa_free pa_cells → Q o0 o1 o2 o3 o4 o5 o6) tr_fork no_apron no_basket no_ground no_bruised no_ladder no_helper no_today no_clock pa_undoable pa_free pa_cells) : wp_X9_down Q tr_fork no_apron no_basket no_ground no_bruised no_ladder no_helper no_today no_clock pa_undoable pa_free pa_cells := dt_X9_down h (fun o eo hp => hp eo)
noncomputable def j_X3_ripeBy_28 {R : Type} (k4 : Int32 → Int32 → Int32 → R) (tr_fruits : Int32) (tr_ripe : Nat → Int32) (x1 : Int32) (x2 : Int32) (x3 : Int32) : R := k4 x1 x2 (x3 + 1)
noncomputable def bd_X3_ripeBy_4 (tr_fruits : Int32) (tr_ripe : Nat → Int32) (x1 : Int32) (c : Int32) (s : Int32) : Int32 := if x1 < (tr_ripe c.toNatClampNeg) then (j_X3_ripeBy_28 (fun q0 q1 q2 => q1) tr_fruits tr_ripe x1 s c) else (j_X3_ripeBy_28 (fun q0 q1 q2 => q1) tr_fruits tr_ripe x1 (s ||| (1 <<< (c &&& 31))) c)
noncomputable def ex_X3_ripeBy_4 {R : Type} (po : Int32 → R) (tr_fruits : Int32) (tr_ripe : Nat → Int32) (x1 : Int32) (c : Int32) (s : Int32) : R := po s
set_option maxHeartbeats 200000 in
set_option maxRecDepth 10000 in
theorem dl_X3_ripeBy_4 {P Q : Int32 → Prop} {tr_fruits : Int32} {tr_ripe : Nat → Int32} {x1 : Int32} {a : Int32} {i : Nat} (hi0 : i < 2147483648) (hE : ∀ (c : Int32) (s : Int32), c = nI (i + (Int32.toInt tr_fruits - ((i : Nat) : Int)).toNat) → s = itr (bd_X3_ripeBy_4 tr_fruits tr_ripe x1) a i (Int32.toInt tr_fruits - ((i : Nat) : Int)).toNat → (P s) → (Q s)) : ∀ (n k : Nat) (c : Int32), c = nI (i + k) → k ≤ (Int32.toInt tr_fruits - ((i : Nat) : Int)).toNat → wb_X3_ripeBy_4 P tr_fruits tr_ripe n x1 (itr (bd_X3_ripeBy_4 tr_fruits tr_ripe x1) a i k) c → wb_X3_ripeBy_4 Q tr_fruits tr_ripe n x1 (itr (bd_X3_ripeBy_4 tr_fruits tr_ripe x1) a i k) c := by
  intro n
  induction n with
  | zero => intro k c hc hk h; exact False.elim h
  | succ n ih =>
    intro k c hc hk h
    have hr := tp_r tr_fruits
    have hi : Int32.toInt c = ((i + k : Nat) : Int) := by rw [hc]; exact nI_toInt (by omega)
    refine And.intro (fun t0 => ?_) (fun t0 => ?_)
    · have h := And.left h t0
      have t1 := (fa_le _ _).mp t0
      have hk2 : k = (Int32.toInt tr_fruits - ((i : Nat) : Int)).toNat := by omega
      subst hk2
      exact hE _ _ hc rfl h
    · have h := And.right h t0
      have t1 := mt (fa_le _ _).mpr t0
      have hs : ∀ o : Int32, o = itr (bd_X3_ripeBy_4 tr_fruits tr_ripe x1) a i (k + 1) → wb_X3_ripeBy_4 P tr_fruits tr_ripe n x1 o (c + 1) → wb_X3_ripeBy_4 Q tr_fruits tr_ripe n x1 o (c + 1) := by
        intro o eo h9
        have q := ih (k + 1) (c + 1) (by rw [hc]; exact nI_1 _) (by omega)
        rw [← eo] at q
        exact q h9
      rw [itr_s, ← hc, bd_X3_ripeBy_4] at hs
      refine And.intro (And.left h) ?_
      have h := And.right h
      refine ae ?_
      have h := h _ rfl
      refine And.intro (fun c1 => ?_) (fun c1 => ?_)
      · have h := And.left h c1
        rw [if_pos c1] at hs
        rw [j_X3_ripeBy_28] at hs
        unfold ws_X3_ripeBy_28 at h ⊢
        refine ae ?_
        have h := h _ rfl
        have q9 := hs _ rfl
        exact q9 h
      · have h := And.right h c1
        rw [if_neg c1] at hs
        refine ae ?_
        have h := h _ rfl
        rw [j_X3_ripeBy_28] at hs
        unfold ws_X3_ripeBy_28 at h ⊢
        refine ae ?_
        have h := h _ rfl
        have q9 := hs _ rfl
        exact q9 h
noncomputable def F_X3_ripeBy (p0 : Int32) (tr_fruits : Int32) (tr_ripe : Nat → Int32) : Int32 := ex_X3_ripeBy_4 (fun o0 => o0) tr_fruits tr_ripe p0 (nI (0 + (Int32.toInt tr_fruits - ((0 : Nat) : Int)).toNat)) (itr (bd_X3_ripeBy_4 tr_fruits tr_ripe p0) 0 0 (Int32.toInt tr_fruits - ((0 : Nat) : Int)).toNat)
set_option maxHeartbeats 200000 in
set_option maxRecDepth 10000 in
theorem dt_X3_ripeBy {P Q : Int32 → Prop} {p0 : Int32} {tr_fruits : Int32} {tr_ripe : Nat → Int32} (h : wp_X3_ripeBy P p0 tr_fruits tr_ripe) (hq : ∀ o : Int32, o = F_X3_ripeBy p0 tr_fruits tr_ripe → P o → Q o) : wp_X3_ripeBy Q p0 tr_fruits tr_ripe := by
  rw [F_X3_ripeBy] at hq
  obtain ⟨n1, h⟩ := h
  refine ⟨n1, dl_X3_ripeBy_4 (a := 0) (i := 0) (by decide) ?_ n1 0 0 (by decide) (Nat.zero_le _) h⟩
  intro cc2 s3 ec4 es5 h
  rw [← ec4, ← es5, ex_X3_ripeBy_4] at hq
  have q9 := hq _ rfl
  exact q9 h
theorem du_X3_ripeBy {P Q : Int32 → Prop} {p0 : Int32} {tr_fruits : Int32} {tr_ripe : Nat → Int32} (h : wp_X3_ripeBy P p0 tr_fruits tr_ripe) (hq : P (F_X3_ripeBy p0 tr_fruits tr_ripe) → Q (F_X3_ripeBy p0 tr_fruits tr_ripe)) : wp_X3_ripeBy Q p0 tr_fruits tr_ripe := dt_X3_ripeBy h (fun o eo => by rw [eo]; exact hq)
noncomputable def F_X0_readyHere (tr_fruits : Int32) (tr_x : Nat → Int32) (tr_height : Nat → Int32) (tr_ripe : Nat → Int32) (tr_foot : Nat → Int32) (tr_fork : Nat → Int32) (tr_settings : Nat → Int32) (no_apron : Int32) (no_basket : Int32) (no_ground : Int32) (no_ladder : Int32) (no_helper : Int32) (no_today : Int32) : Int32 := if no_ladder = (-1) then 0 else (((F_X0_hanging tr_fruits no_apron no_basket no_ground) &&& (F_X3_ripeBy no_today tr_fruits tr_ripe)) &&& (F_X3_within no_ladder (F_X3_reach no_helper 0 tr_settings) tr_fruits tr_x tr_height tr_foot tr_fork))
set_option maxHeartbeats 200000 in
set_option maxRecDepth 10000 in
theorem dt_X0_readyHere {P Q : Int32 → Prop} {tr_fruits : Int32} {tr_x : Nat → Int32} {tr_height : Nat → Int32} {tr_ripe : Nat → Int32} {tr_foot : Nat → Int32} {tr_fork : Nat → Int32} {tr_settings : Nat → Int32} {no_apron : Int32} {no_basket : Int32} {no_ground : Int32} {no_ladder : Int32} {no_helper : Int32} {no_today : Int32} (h : wp_X0_readyHere P tr_fruits tr_x tr_height tr_ripe tr_foot tr_fork tr_settings no_apron no_basket no_ground no_ladder no_helper no_today) (hq : ∀ o : Int32, o = F_X0_readyHere tr_fruits tr_x tr_height tr_ripe tr_foot tr_fork tr_settings no_apron no_basket no_ground no_ladder no_helper no_today → P o → Q o) : wp_X0_readyHere Q tr_fruits tr_x tr_height tr_ripe tr_foot tr_fork tr_settings no_apron no_basket no_ground no_ladder no_helper no_today := by
  rw [F_X0_readyHere] at hq
  refine And.intro (fun c1 => ?_) (fun c1 => ?_)
  · have h := And.left h c1
    rw [if_neg c1] at hq
    refine du_X3_reach h ?_
    intro h
    refine du_X3_within h ?_
    intro h
    refine du_X0_hanging h ?_
    intro h
    refine du_X3_ripeBy h ?_
    intro h
    refine ae ?_
    have h := h _ rfl
    have q9 := hq _ rfl
    exact q9 h
  · have h := And.right h c1
    rw [if_pos c1] at hq
    have q9 := hq _ rfl
    exact q9 h
theorem du_X0_readyHere {P Q : Int32 → Prop} {tr_fruits : Int32} {tr_x : Nat → Int32} {tr_height : Nat → Int32} {tr_ripe : Nat → Int32} {tr_foot : Nat → Int32} {tr_fork : Nat → Int32} {tr_settings : Nat → Int32} {no_apron : Int32} {no_basket : Int32} {no_ground : Int32} {no_ladder : Int32} {no_helper : Int32} {no_today : Int32} (h : wp_X0_readyHere P tr_fruits tr_x tr_height tr_ripe tr_foot tr_fork tr_settings no_apron no_basket no_ground no_ladder no_helper no_today) (hq : P (F_X0_readyHere tr_fruits tr_x tr_height tr_ripe tr_foot tr_fork tr_settings no_apron no_basket no_ground no_ladder no_helper no_today) → Q (F_X0_readyHere tr_fruits tr_x tr_height tr_ripe tr_foot tr_fork tr_settings no_apron no_basket no_ground no_ladder no_helper no_today)) : wp_X0_readyHere Q tr_fruits tr_x tr_height tr_ripe tr_foot tr_fork tr_settings no_apron no_basket no_ground no_ladder no_helper no_today := dt_X0_readyHere h (fun o eo => by rw [eo]; exact hq)
noncomputable def j_X0_shakeTree_63 {R : Type} (k29 : Int32 → Int32 → Int32 → Int32 → Int32 → Int32 → Int32 → R) (tr_fruits : Int32) (tr_x : Nat → Int32) (tr_height : Nat → Int32) (tr_ripe : Nat → Int32) (tr_foot : Nat → Int32) (tr_fork : Nat → Int32) (tr_settings : Nat → Int32) (no_apron : Int32) (no_basket : Int32) (no_ladder : Int32) (no_helper : Int32) (no_today : Int32) (x1 : Int32) (x2 : Int32) (x3 : Int32) (x4 : Int32) (no_ground : Int32) (no_bruised : Int32) (no_clock : Int32) : R := k29 x1 x2 x3 (x4 + 1) no_ground no_bruised no_clock
noncomputable def bd_X0_shakeTree_29 (tr_fruits : Int32) (tr_x : Nat → Int32) (tr_height : Nat → Int32) (tr_ripe : Nat → Int32) (tr_foot : Nat → Int32) (tr_fork : Nat → Int32) (tr_settings : Nat → Int32) (no_apron : Int32) (no_basket : Int32) (no_ladder : Int32) (no_helper : Int32) (no_today : Int32) (x1 : Int32) (x2 : Int32) (no_ground : Int32) (no_bruised : Int32) (no_clock : Int32) (c : Int32) (s : Int32) : Int32 := if ((x2 >>> (c &&& 31)) &&& 1) = 0 then (j_X0_shakeTree_63 (fun q0 q1 q2 q3 q4 q5 q6 => q2) tr_fruits tr_x tr_height tr_ripe tr_foot tr_fork tr_settings no_apron no_basket no_ladder no_helper no_today x1 x2 s c no_ground no_bruised no_clock) else (j_X0_shakeTree_63 (fun q0 q1 q2 q3 q4 q5 q6 => q2) tr_fruits tr_x tr_height tr_ripe tr_foot tr_fork tr_settings no_apron no_basket no_ladder no_helper no_today x1 x2 (s ||| (F_X3_lowerThan c x1 tr_fruits tr_x tr_height)) c no_ground no_bruised no_clock)
noncomputable def ex_X0_shakeTree_29 {R : Type} (po : Int32 → Int32 → Int32 → Int32 → R) (tr_fruits : Int32) (tr_x : Nat → Int32) (tr_height : Nat → Int32) (tr_ripe : Nat → Int32) (tr_foot : Nat → Int32) (tr_fork : Nat → Int32) (tr_settings : Nat → Int32) (no_apron : Int32) (no_basket : Int32) (no_ladder : Int32) (no_helper : Int32) (no_today : Int32) (x1 : Int32) (x2 : Int32) (no_ground : Int32) (no_bruised : Int32) (no_clock : Int32) (c : Int32) (s : Int32) : R := po (F_J6_bitCount_0f7a4 x2) (no_ground ||| x2) (no_bruised ||| s) (F_X2_spend 5 no_clock)
set_option maxHeartbeats 200000 in
set_option maxRecDepth 10000 in
theorem dl_X0_shakeTree_29 {P Q : Int32 → Int32 → Int32 → Int32 → Prop} {tr_fruits : Int32} {tr_x : Nat → Int32} {tr_height : Nat → Int32} {tr_ripe : Nat → Int32} {tr_foot : Nat → Int32} {tr_fork : Nat → Int32} {tr_settings : Nat → Int32} {no_apron : Int32} {no_basket : Int32} {no_ladder : Int32} {no_helper : Int32} {no_today : Int32} {x1 : Int32} {x2 : Int32} {no_ground : Int32} {no_bruised : Int32} {no_clock : Int32} {a : Int32} {i : Nat} (hi0 : i < 2147483648) (hE : ∀ (c : Int32) (s : Int32), c = nI (i + (Int32.toInt tr_fruits - ((i : Nat) : Int)).toNat) → s = itr (bd_X0_shakeTree_29 tr_fruits tr_x tr_height tr_ripe tr_foot tr_fork tr_settings no_apron no_basket no_ladder no_helper no_today x1 x2 no_ground no_bruised no_clock) a i (Int32.toInt tr_fruits - ((i : Nat) : Int)).toNat → (∀ v_3 : Int32, v_3 = no_ground ||| x2 → ∀ v_4 : Int32, v_4 = no_bruised ||| s → wp_X2_spend (fun no_clock_5 => wp_J6_bitCount_0f7a4 (fun r_6 => P r_6 v_3 v_4 no_clock_5) x2) 5 no_clock) → (∀ v_3 : Int32, v_3 = no_ground ||| x2 → ∀ v_4 : Int32, v_4 = no_bruised ||| s → wp_X2_spend (fun no_clock_5 => wp_J6_bitCount_0f7a4 (fun r_6 => Q r_6 v_3 v_4 no_clock_5) x2) 5 no_clock)) : ∀ (n k : Nat) (c : Int32), c = nI (i + k) → k ≤ (Int32.toInt tr_fruits - ((i : Nat) : Int)).toNat → wb_X0_shakeTree_29 P tr_fruits tr_x tr_height tr_ripe tr_foot tr_fork tr_settings no_apron no_basket no_ladder no_helper no_today n x1 x2 (itr (bd_X0_shakeTree_29 tr_fruits tr_x tr_height tr_ripe tr_foot tr_fork tr_settings no_apron no_basket no_ladder no_helper no_today x1 x2 no_ground no_bruised no_clock) a i k) c no_ground no_bruised no_clock → wb_X0_shakeTree_29 Q tr_fruits tr_x tr_height tr_ripe tr_foot tr_fork tr_settings no_apron no_basket no_ladder no_helper no_today n x1 x2 (itr (bd_X0_shakeTree_29 tr_fruits tr_x tr_height tr_ripe tr_foot tr_fork tr_settings no_apron no_basket no_ladder no_helper no_today x1 x2 no_ground no_bruised no_clock) a i k) c no_ground no_bruised no_clock := by
  intro n
  induction n with
  | zero => intro k c hc hk h; exact False.elim h
  | succ n ih =>
    intro k c hc hk h
    have hr := tp_r tr_fruits
    have hi : Int32.toInt c = ((i + k : Nat) : Int) := by rw [hc]; exact nI_toInt (by omega)
    refine And.intro (fun t0 => ?_) (fun t0 => ?_)
    · have h := And.left h t0
      have t1 := (fa_le _ _).mp t0
      have hk2 : k = (Int32.toInt tr_fruits - ((i : Nat) : Int)).toNat := by omega
      subst hk2
      exact hE _ _ hc rfl h
    · have h := And.right h t0
      have t1 := mt (fa_le _ _).mpr t0
      have hs : ∀ o : Int32, o = itr (bd_X0_shakeTree_29 tr_fruits tr_x tr_height tr_ripe tr_foot tr_fork tr_settings no_apron no_basket no_ladder no_helper no_today x1 x2 no_ground no_bruised no_clock) a i (k + 1) → wb_X0_shakeTree_29 P tr_fruits tr_x tr_height tr_ripe tr_foot tr_fork tr_settings no_apron no_basket no_ladder no_helper no_today n x1 x2 o (c + 1) no_ground no_bruised no_clock → wb_X0_shakeTree_29 Q tr_fruits tr_x tr_height tr_ripe tr_foot tr_fork tr_settings no_apron no_basket no_ladder no_helper no_today n x1 x2 o (c + 1) no_ground no_bruised no_clock := by
        intro o eo h9
        have q := ih (k + 1) (c + 1) (by rw [hc]; exact nI_1 _) (by omega)
        rw [← eo] at q
        exact q h9
      rw [itr_s, ← hc, bd_X0_shakeTree_29] at hs
      refine ae ?_
      have h := h _ rfl
      refine And.intro (fun c1 => ?_) (fun c1 => ?_)
      · have h := And.left h c1
        rw [if_pos c1] at hs
        rw [j_X0_shakeTree_63] at hs
        unfold ws_X0_shakeTree_63 at h ⊢
        refine ae ?_
        have h := h _ rfl
        have q9 := hs _ rfl
        exact q9 h
      · have h := And.right h c1
        rw [if_neg c1] at hs
        refine du_X3_lowerThan h ?_
        intro h
        refine ae ?_
        have h := h _ rfl
        rw [j_X0_shakeTree_63] at hs
        unfold ws_X0_shakeTree_63 at h ⊢
        refine ae ?_
        have h := h _ rfl
        have q9 := hs _ rfl
        exact q9 h
noncomputable def F_X0_shakeTree (tr_fruits : Int32) (tr_x : Nat → Int32) (tr_height : Nat → Int32) (tr_ripe : Nat → Int32) (tr_foot : Nat → Int32) (tr_fork : Nat → Int32) (tr_settings : Nat → Int32) (no_apron : Int32) (no_basket : Int32) (no_ground : Int32) (no_bruised : Int32) (no_ladder : Int32) (no_helper : Int32) (no_today : Int32) (no_clock : Int32) : Int32 × Int32 × Int32 × Int32 := if no_ladder = (-1) then ((-2), no_ground, no_bruised, no_clock) else (ex_X0_shakeTree_29 (fun o0 o1 o2 o3 => (o0, o1, o2, o3)) tr_fruits tr_x tr_height tr_ripe tr_foot tr_fork tr_settings no_apron no_basket no_ladder no_helper no_today (F_X0_hanging tr_fruits no_apron no_basket no_ground) (F_X0_readyHere tr_fruits tr_x tr_height tr_ripe tr_foot tr_fork tr_settings no_apron no_basket no_ground no_ladder no_helper no_today) no_ground no_bruised no_clock (nI (0 + (Int32.toInt tr_fruits - ((0 : Nat) : Int)).toNat)) (itr (bd_X0_shakeTree_29 tr_fruits tr_x tr_height tr_ripe tr_foot tr_fork tr_settings no_apron no_basket no_ladder no_helper no_today (F_X0_hanging tr_fruits no_apron no_basket no_ground) (F_X0_readyHere tr_fruits tr_x tr_height tr_ripe tr_foot tr_fork tr_settings no_apron no_basket no_ground no_ladder no_helper no_today) no_ground no_bruised no_clock) (F_X0_readyHere tr_fruits tr_x tr_height tr_ripe tr_foot tr_fork tr_settings no_apron no_basket no_ground no_ladder no_helper no_today) 0 (Int32.toInt tr_fruits - ((0 : Nat) : Int)).toNat))
set_option maxHeartbeats 200000 in
set_option maxRecDepth 10000 in
theorem dt_X0_shakeTree {P Q : Int32 → Int32 → Int32 → Int32 → Prop} {tr_fruits : Int32} {tr_x : Nat → Int32} {tr_height : Nat → Int32} {tr_ripe : Nat → Int32} {tr_foot : Nat → Int32} {tr_fork : Nat → Int32} {tr_settings : Nat → Int32} {no_apron : Int32} {no_basket : Int32} {no_ground : Int32} {no_bruised : Int32} {no_ladder : Int32} {no_helper : Int32} {no_today : Int32} {no_clock : Int32} (h : wp_X0_shakeTree P tr_fruits tr_x tr_height tr_ripe tr_foot tr_fork tr_settings no_apron no_basket no_ground no_bruised no_ladder no_helper no_today no_clock) (hq : ∀ o : Int32 × Int32 × Int32 × Int32, o = F_X0_shakeTree tr_fruits tr_x tr_height tr_ripe tr_foot tr_fork tr_settings no_apron no_basket no_ground no_bruised no_ladder no_helper no_today no_clock → P o.1 o.2.1 o.2.2.1 o.2.2.2 → Q o.1 o.2.1 o.2.2.1 o.2.2.2) : wp_X0_shakeTree Q tr_fruits tr_x tr_height tr_ripe tr_foot tr_fork tr_settings no_apron no_basket no_ground no_bruised no_ladder no_helper no_today no_clock := by
  rw [F_X0_shakeTree] at hq
  refine And.intro (fun c1 => ?_) (fun c1 => ?_)
  · have h := And.left h c1
    rw [if_neg c1] at hq
    refine du_X0_hanging h ?_
    intro h
    refine du_X0_readyHere h ?_
    intro h
    obtain ⟨n2, h⟩ := h
    refine ⟨n2, dl_X0_shakeTree_29 (a := (F_X0_readyHere tr_fruits tr_x tr_height tr_ripe tr_foot tr_fork tr_settings no_apron no_basket no_ground no_ladder no_helper no_today)) (i := 0) (by decide) ?_ n2 0 0 (by decide) (Nat.zero_le _) h⟩
    intro cc3 s4 ec5 es6 h
    rw [← ec5, ← es6, ex_X0_shakeTree_29] at hq
    refine ae ?_
    have h := h _ rfl
    refine ae ?_
    have h := h _ rfl
    refine du_X2_spend h ?_
    intro h
    refine du_J6_bitCount_0f7a4 h ?_
    intro h
    have q9 := hq _ rfl
    dsimp only at q9
    exact q9 h
  · have h := And.right h c1
    rw [if_pos c1] at hq
    have q9 := hq _ rfl
    dsimp only at q9
    exact q9 h
theorem du_X0_shakeTree {P Q : Int32 → Int32 → Int32 → Int32 → Prop} {tr_fruits : Int32} {tr_x : Nat → Int32} {tr_height : Nat → Int32} {tr_ripe : Nat → Int32} {tr_foot : Nat → Int32} {tr_fork : Nat → Int32} {tr_settings : Nat → Int32} {no_apron : Int32} {no_basket : Int32} {no_ground : Int32} {no_bruised : Int32} {no_ladder : Int32} {no_helper : Int32} {no_today : Int32} {no_clock : Int32} (h : wp_X0_shakeTree P tr_fruits tr_x tr_height tr_ripe tr_foot tr_fork tr_settings no_apron no_basket no_ground no_bruised no_ladder no_helper no_today no_clock) (hq : P (F_X0_shakeTree tr_fruits tr_x tr_height tr_ripe tr_foot tr_fork tr_settings no_apron no_basket no_ground no_bruised no_ladder no_helper no_today no_clock).1 (F_X0_shakeTree tr_fruits tr_x tr_height tr_ripe tr_foot tr_fork tr_settings no_apron no_basket no_ground no_bruised no_ladder no_helper no_today no_clock).2.1 (F_X0_shakeTree tr_fruits tr_x tr_height tr_ripe tr_foot tr_fork tr_settings no_apron no_basket no_ground no_bruised no_ladder no_helper no_today no_clock).2.2.1 (F_X0_shakeTree tr_fruits tr_x tr_height tr_ripe tr_foot tr_fork tr_settings no_apron no_basket no_ground no_bruised no_ladder no_helper no_today no_clock).2.2.2 → Q (F_X0_shakeTree tr_fruits tr_x tr_height tr_ripe tr_foot tr_fork tr_settings no_apron no_basket no_ground no_bruised no_ladder no_helper no_today no_clock).1 (F_X0_shakeTree tr_fruits tr_x tr_height tr_ripe tr_foot tr_fork tr_settings no_apron no_basket no_ground no_bruised no_ladder no_helper no_today no_clock).2.1 (F_X0_shakeTree tr_fruits tr_x tr_height tr_ripe tr_foot tr_fork tr_settings no_apron no_basket no_ground no_bruised no_ladder no_helper no_today no_clock).2.2.1 (F_X0_shakeTree tr_fruits tr_x tr_height tr_ripe tr_foot tr_fork tr_settings no_apron no_basket no_ground no_bruised no_ladder no_helper no_today no_clock).2.2.2) : wp_X0_shakeTree Q tr_fruits tr_x tr_height tr_ripe tr_foot tr_fork tr_settings no_apron no_basket no_ground no_bruised no_ladder no_helper no_today no_clock := dt_X0_shakeTree h (fun o eo => by rw [eo]; exact hq)
noncomputable def F_X9_shake (tr_fruits : Int32) (tr_x : Nat → Int32) (tr_height : Nat → Int32) (tr_ripe : Nat → Int32) (tr_foot : Nat → Int32) (tr_fork : Nat → Int32) (tr_settings : Nat → Int32) (no_apron : Int32) (no_basket : Int32) (no_ground : Int32) (no_bruised : Int32) (no_ladder : Int32) (no_helper : Int32) (no_today : Int32) (no_clock : Int32) (pa_undoable : Int32) (pa_free : Int32) (pa_cells : Nat → Int32) : Int32 × Int32 × Int32 × Int32 × Int32 × Int32 × (Nat → Int32) := ((F_X9_holdIfDone (F_X0_shakeTree tr_fruits tr_x tr_height tr_ripe tr_foot tr_fork tr_settings no_apron no_basket no_ground no_bruised no_ladder no_helper no_today no_clock).1 pa_undoable pa_free).1, (F_X0_shakeTree tr_fruits tr_x tr_height tr_ripe tr_foot tr_fork tr_settings no_apron no_basket no_ground no_bruised no_ladder no_helper no_today no_clock).2.1, (F_X0_shakeTree tr_fruits tr_x tr_height tr_ripe tr_foot tr_fork tr_settings no_apron no_basket no_ground no_bruised no_ladder no_helper no_today no_clock).2.2.1, (F_X0_shakeTree tr_fruits tr_x tr_height tr_ripe tr_foot tr_fork tr_settings no_apron no_basket no_ground no_bruised no_ladder no_helper no_today no_clock).2.2.2, (F_X9_holdIfDone (F_X0_shakeTree tr_fruits tr_x tr_height tr_ripe tr_foot tr_fork tr_settings no_apron no_basket no_ground no_bruised no_ladder no_helper no_today no_clock).1 pa_undoable pa_free).2.1, (F_X9_holdIfDone (F_X0_shakeTree tr_fruits tr_x tr_height tr_ripe tr_foot tr_fork tr_settings no_apron no_basket no_ground no_bruised no_ladder no_helper no_today no_clock).1 pa_undoable pa_free).2.2, (F_X4_note no_apron no_basket no_ground no_bruised no_ladder no_helper no_today no_clock pa_free pa_cells))
set_option maxHeartbeats 200000 in
set_option maxRecDepth 10000 in
theorem dt_X9_shake {P Q : Int32 → Int32 → Int32 → Int32 → Int32 → Int32 → (Nat → Int32) → Prop} {tr_fruits : Int32} {tr_x : Nat → Int32} {tr_height : Nat → Int32} {tr_ripe : Nat → Int32} {tr_foot : Nat → Int32} {tr_fork : Nat → Int32} {tr_settings : Nat → Int32} {no_apron : Int32} {no_basket : Int32} {no_ground : Int32} {no_bruised : Int32} {no_ladder : Int32} {no_helper : Int32} {no_today : Int32} {no_clock : Int32} {pa_undoable : Int32} {pa_free : Int32} {pa_cells : Nat → Int32} (h : wp_X9_shake P tr_fruits tr_x tr_height tr_ripe tr_foot tr_fork tr_settings no_apron no_basket no_ground no_bruised no_ladder no_helper no_today no_clock pa_undoable pa_free pa_cells) (hq : ∀ o : Int32 × Int32 × Int32 × Int32 × Int32 × Int32 × (Nat → Int32), o = F_X9_shake tr_fruits tr_x tr_height tr_ripe tr_foot tr_fork tr_settings no_apron no_basket no_ground no_bruised no_ladder no_helper no_today no_clock pa_undoable pa_free pa_cells → P o.1 o.2.1 o.2.2.1 o.2.2.2.1 o.2.2.2.2.1 o.2.2.2.2.2.1 o.2.2.2.2.2.2 → Q o.1 o.2.1 o.2.2.1 o.2.2.2.1 o.2.2.2.2.1 o.2.2.2.2.2.1 o.2.2.2.2.2.2) : wp_X9_shake Q tr_fruits tr_x tr_height tr_ripe tr_foot tr_fork tr_settings no_apron no_basket no_ground no_bruised no_ladder no_helper no_today no_clock pa_undoable pa_free pa_cells := by
  rw [F_X9_shake] at hq
  refine du_X4_note h ?_
  intro h
  refine du_X0_shakeTree h ?_
  intro h
  refine du_X9_holdIfDone h ?_
  intro h
  have q9 := hq _ rfl
  dsimp only at q9
  exact q9 h
theorem du_X9_shake {P Q : Int32 → Int32 → Int32 → Int32 → Int32 → Int32 → (Nat → Int32) → Prop} {tr_fruits : Int32} {tr_x : Nat → Int32} {tr_height : Nat → Int32} {tr_ripe : Nat → Int32} {tr_foot : Nat → Int32} {tr_fork : Nat → Int32} {tr_settings : Nat → Int32} {no_apron : Int32} {no_basket : Int32} {no_ground : Int32} {no_bruised : Int32} {no_ladder : Int32} {no_helper : Int32} {no_today : Int32} {no_clock : Int32} {pa_undoable : Int32} {pa_free : Int32} {pa_cells : Nat → Int32} (h : wp_X9_shake P tr_fruits tr_x tr_height tr_ripe tr_foot tr_fork tr_settings no_apron no_basket no_ground no_bruised no_ladder no_helper no_today no_clock pa_undoable pa_free pa_cells) (hq : P (F_X9_shake tr_fruits tr_x tr_height tr_ripe tr_foot tr_fork tr_settings no_apron no_basket no_ground no_bruised no_ladder no_helper no_today no_clock pa_undoable pa_free pa_cells).1 (F_X9_shake tr_fruits tr_x tr_height tr_ripe tr_foot tr_fork tr_settings no_apron no_basket no_ground no_bruised no_ladder no_helper no_today no_clock pa_undoable pa_free pa_cells).2.1 (F_X9_shake tr_fruits tr_x tr_height tr_ripe tr_foot tr_fork tr_settings no_apron no_basket no_ground no_bruised no_ladder no_helper no_today no_clock pa_undoable pa_free pa_cells).2.2.1 (F_X9_shake tr_fruits tr_x tr_height tr_ripe tr_foot tr_fork tr_settings no_apron no_basket no_ground no_bruised no_ladder no_helper no_today no_clock pa_undoable pa_free pa_cells).2.2.2.1 (F_X9_shake tr_fruits tr_x tr_height tr_ripe tr_foot tr_fork tr_settings no_apron no_basket no_ground no_bruised no_ladder no_helper no_today no_clock pa_undoable pa_free pa_cells).2.2.2.2.1 (F_X9_shake tr_fruits tr_x tr_height tr_ripe tr_foot tr_fork tr_settings no_apron no_basket no_ground no_bruised no_ladder no_helper no_today no_clock pa_undoable pa_free pa_cells).2.2.2.2.2.1 (F_X9_shake tr_fruits tr_x tr_height tr_ripe tr_foot tr_fork tr_settings no_apron no_basket no_ground no_bruised no_ladder no_helper no_today no_clock pa_undoable pa_free pa_cells).2.2.2.2.2.2 → Q (F_X9_shake tr_fruits tr_x tr_height tr_ripe tr_foot tr_fork tr_settings no_apron no_basket no_ground no_bruised no_ladder no_helper no_today no_clock pa_undoable pa_free pa_cells).1 (F_X9_shake tr_fruits tr_x tr_height tr_ripe tr_foot tr_fork tr_settings no_apron no_basket no_ground no_bruised no_ladder no_helper no_today no_clock pa_undoable pa_free pa_cells).2.1 (F_X9_shake tr_fruits tr_x tr_height tr_ripe tr_foot tr_fork tr_settings no_apron no_basket no_ground no_bruised no_ladder no_helper no_today no_clock pa_undoable pa_free pa_cells).2.2.1 (F_X9_shake tr_fruits tr_x tr_height tr_ripe tr_foot tr_fork tr_settings no_apron no_basket no_ground no_bruised no_ladder no_helper no_today no_clock pa_undoable pa_free pa_cells).2.2.2.1 (F_X9_shake tr_fruits tr_x tr_height tr_ripe tr_foot tr_fork tr_settings no_apron no_basket no_ground no_bruised no_ladder no_helper no_today no_clock pa_undoable pa_free pa_cells).2.2.2.2.1 (F_X9_shake tr_fruits tr_x tr_height tr_ripe tr_foot tr_fork tr_settings no_apron no_basket no_ground no_bruised no_ladder no_helper no_today no_clock pa_undoable pa_free pa_cells).2.2.2.2.2.1 (F_X9_shake tr_fruits tr_x tr_height tr_ripe tr_foot tr_fork tr_settings no_apron no_basket no_ground no_bruised no_ladder no_helper no_today no_clock pa_undoable pa_free pa_cells).2.2.2.2.2.2) : wp_X9_shake Q tr_fruits tr_x tr_height tr_ripe tr_foot tr_fork tr_settings no_apron no_basket no_ground no_bruised no_ladder no_helper no_today no_clock pa_undoable pa_free pa_cells := dt_X9_shake h (fun o eo => by rw [eo]; exact hq)
theorem dw_X9_shake {Q : Int32 → Int32 → Int32 → Int32 → Int32 → Int32 → (Nat → Int32) → Prop} {tr_fruits : Int32} {tr_x : Nat → Int32} {tr_height : Nat → Int32} {tr_ripe : Nat → Int32} {tr_foot : Nat → Int32} {tr_fork : Nat → Int32} {tr_settings : Nat → Int32} {no_apron : Int32} {no_basket : Int32} {no_ground : Int32} {no_bruised : Int32} {no_ladder : Int32} {no_helper : Int32} {no_today : Int32} {no_clock : Int32} {pa_undoable : Int32} {pa_free : Int32} {pa_cells : Nat → Int32} (h : wp_X9_shake (fun o0 o1 o2 o3 o4 o5 o6 => (o0, o1, o2, o3, o4, o5, o6) = F_X9_shake tr_fruits tr_x tr_height tr_ripe tr_foot tr_fork tr_settings no_apron no_basket no_ground no_bruised no_ladder no_helper no_today no_clock pa_undoable pa_free pa_cells → Q o0 o1 o2 o3 o4 o5 o6) tr_fruits tr_x tr_height tr_ripe tr_foot tr_fork tr_settings no_apron no_basket no_ground no_bruised no_ladder no_helper no_today no_clock pa_undoable pa_free pa_cells) : wp_X9_shake Q tr_fruits tr_x tr_height tr_ripe tr_foot tr_fork tr_settings no_apron no_basket no_ground no_bruised no_ladder no_helper no_today no_clock pa_undoable pa_free pa_cells := dt_X9_shake h (fun o eo hp => hp eo)
noncomputable def F_X0_sleepOver (no_apron : Int32) (no_basket : Int32) (no_ladder : Int32) (no_today : Int32) (no_clock : Int32) : Int32 × Int32 × Int32 × Int32 × Int32 × Int32 := if no_today < 9 then ((no_today + 1), (F_X2_emptyApron no_apron no_basket).1, (F_X2_emptyApron no_apron no_basket).2, (-1), (no_today + 1), 0) else ((-1), no_apron, no_basket, no_ladder, no_today, no_clock)
set_option maxHeartbeats 200000 in
set_option maxRecDepth 10000 in
theorem dt_X0_sleepOver {P Q : Int32 → Int32 → Int32 → Int32 → Int32 → Int32 → Prop} {no_apron : Int32} {no_basket : Int32} {no_ladder : Int32} {no_today : Int32} {no_clock : Int32} (h : wp_X0_sleepOver P no_apron no_basket no_ladder no_today no_clock) (hq : ∀ o : Int32 × Int32 × Int32 × Int32 × Int32 × Int32, o = F_X0_sleepOver no_apron no_basket no_ladder no_today no_clock → P o.1 o.2.1 o.2.2.1 o.2.2.2.1 o.2.2.2.2.1 o.2.2.2.2.2 → Q o.1 o.2.1 o.2.2.1 o.2.2.2.1 o.2.2.2.2.1 o.2.2.2.2.2) : wp_X0_sleepOver Q no_apron no_basket no_ladder no_today no_clock := by
  rw [F_X0_sleepOver] at hq
  refine And.intro (fun c1 => ?_) (fun c1 => ?_)
  · have h := And.left h c1
    rw [if_pos c1] at hq
    refine ae ?_
    have h := h _ rfl
    refine du_X2_emptyApron h ?_
    intro h
    have q9 := hq _ rfl
    dsimp only at q9
    exact q9 h
  · have h := And.right h c1
    rw [if_neg c1] at hq
    have q9 := hq _ rfl
    dsimp only at q9
    exact q9 h
theorem du_X0_sleepOver {P Q : Int32 → Int32 → Int32 → Int32 → Int32 → Int32 → Prop} {no_apron : Int32} {no_basket : Int32} {no_ladder : Int32} {no_today : Int32} {no_clock : Int32} (h : wp_X0_sleepOver P no_apron no_basket no_ladder no_today no_clock) (hq : P (F_X0_sleepOver no_apron no_basket no_ladder no_today no_clock).1 (F_X0_sleepOver no_apron no_basket no_ladder no_today no_clock).2.1 (F_X0_sleepOver no_apron no_basket no_ladder no_today no_clock).2.2.1 (F_X0_sleepOver no_apron no_basket no_ladder no_today no_clock).2.2.2.1 (F_X0_sleepOver no_apron no_basket no_ladder no_today no_clock).2.2.2.2.1 (F_X0_sleepOver no_apron no_basket no_ladder no_today no_clock).2.2.2.2.2 → Q (F_X0_sleepOver no_apron no_basket no_ladder no_today no_clock).1 (F_X0_sleepOver no_apron no_basket no_ladder no_today no_clock).2.1 (F_X0_sleepOver no_apron no_basket no_ladder no_today no_clock).2.2.1 (F_X0_sleepOver no_apron no_basket no_ladder no_today no_clock).2.2.2.1 (F_X0_sleepOver no_apron no_basket no_ladder no_today no_clock).2.2.2.2.1 (F_X0_sleepOver no_apron no_basket no_ladder no_today no_clock).2.2.2.2.2) : wp_X0_sleepOver Q no_apron no_basket no_ladder no_today no_clock := dt_X0_sleepOver h (fun o eo => by rw [eo]; exact hq)
noncomputable def F_X9_sleep (no_apron : Int32) (no_basket : Int32) (no_ground : Int32) (no_bruised : Int32) (no_ladder : Int32) (no_helper : Int32) (no_today : Int32) (no_clock : Int32) (pa_undoable : Int32) (pa_free : Int32) (pa_cells : Nat → Int32) : Int32 × Int32 × Int32 × Int32 × Int32 × Int32 × Int32 × Int32 × (Nat → Int32) := ((F_X9_holdIfDone (F_X0_sleepOver no_apron no_basket no_ladder no_today no_clock).1 pa_undoable pa_free).1, (F_X0_sleepOver no_apron no_basket no_ladder no_today no_clock).2.1, (F_X0_sleepOver no_apron no_basket no_ladder no_today no_clock).2.2.1, (F_X0_sleepOver no_apron no_basket no_ladder no_today no_clock).2.2.2.1, (F_X0_sleepOver no_apron no_basket no_ladder no_today no_clock).2.2.2.2.1, (F_X0_sleepOver no_apron no_basket no_ladder no_today no_clock).2.2.2.2.2, (F_X9_holdIfDone (F_X0_sleepOver no_apron no_basket no_ladder no_today no_clock).1 pa_undoable pa_free).2.1, (F_X9_holdIfDone (F_X0_sleepOver no_apron no_basket no_ladder no_today no_clock).1 pa_undoable pa_free).2.2, (F_X4_note no_apron no_basket no_ground no_bruised no_ladder no_helper no_today no_clock pa_free pa_cells))
set_option maxHeartbeats 200000 in
set_option maxRecDepth 10000 in
theorem dt_X9_sleep {P Q : Int32 → Int32 → Int32 → Int32 → Int32 → Int32 → Int32 → Int32 → (Nat → Int32) → Prop} {no_apron : Int32} {no_basket : Int32} {no_ground : Int32} {no_bruised : Int32} {no_ladder : Int32} {no_helper : Int32} {no_today : Int32} {no_clock : Int32} {pa_undoable : Int32} {pa_free : Int32} {pa_cells : Nat → Int32} (h : wp_X9_sleep P no_apron no_basket no_ground no_bruised no_ladder no_helper no_today no_clock pa_undoable pa_free pa_cells) (hq : ∀ o : Int32 × Int32 × Int32 × Int32 × Int32 × Int32 × Int32 × Int32 × (Nat → Int32), o = F_X9_sleep no_apron no_basket no_ground no_bruised no_ladder no_helper no_today no_clock pa_undoable pa_free pa_cells → P o.1 o.2.1 o.2.2.1 o.2.2.2.1 o.2.2.2.2.1 o.2.2.2.2.2.1 o.2.2.2.2.2.2.1 o.2.2.2.2.2.2.2.1 o.2.2.2.2.2.2.2.2 → Q o.1 o.2.1 o.2.2.1 o.2.2.2.1 o.2.2.2.2.1 o.2.2.2.2.2.1 o.2.2.2.2.2.2.1 o.2.2.2.2.2.2.2.1 o.2.2.2.2.2.2.2.2) : wp_X9_sleep Q no_apron no_basket no_ground no_bruised no_ladder no_helper no_today no_clock pa_undoable pa_free pa_cells := by
  rw [F_X9_sleep] at hq
  refine du_X4_note h ?_
  intro h
  refine du_X0_sleepOver h ?_
  intro h
  refine du_X9_holdIfDone h ?_
  intro h
  have q9 := hq _ rfl
  dsimp only at q9
  exact q9 h
theorem du_X9_sleep {P Q : Int32 → Int32 → Int32 → Int32 → Int32 → Int32 → Int32 → Int32 → (Nat → Int32) → Prop} {no_apron : Int32} {no_basket : Int32} {no_ground : Int32} {no_bruised : Int32} {no_ladder : Int32} {no_helper : Int32} {no_today : Int32} {no_clock : Int32} {pa_undoable : Int32} {pa_free : Int32} {pa_cells : Nat → Int32} (h : wp_X9_sleep P no_apron no_basket no_ground no_bruised no_ladder no_helper no_today no_clock pa_undoable pa_free pa_cells) (hq : P (F_X9_sleep no_apron no_basket no_ground no_bruised no_ladder no_helper no_today no_clock pa_undoable pa_free pa_cells).1 (F_X9_sleep no_apron no_basket no_ground no_bruised no_ladder no_helper no_today no_clock pa_undoable pa_free pa_cells).2.1 (F_X9_sleep no_apron no_basket no_ground no_bruised no_ladder no_helper no_today no_clock pa_undoable pa_free pa_cells).2.2.1 (F_X9_sleep no_apron no_basket no_ground no_bruised no_ladder no_helper no_today no_clock pa_undoable pa_free pa_cells).2.2.2.1 (F_X9_sleep no_apron no_basket no_ground no_bruised no_ladder no_helper no_today no_clock pa_undoable pa_free pa_cells).2.2.2.2.1 (F_X9_sleep no_apron no_basket no_ground no_bruised no_ladder no_helper no_today no_clock pa_undoable pa_free pa_cells).2.2.2.2.2.1 (F_X9_sleep no_apron no_basket no_ground no_bruised no_ladder no_helper no_today no_clock pa_undoable pa_free pa_cells).2.2.2.2.2.2.1 (F_X9_sleep no_apron no_basket no_ground no_bruised no_ladder no_helper no_today no_clock pa_undoable pa_free pa_cells).2.2.2.2.2.2.2.1 (F_X9_sleep no_apron no_basket no_ground no_bruised no_ladder no_helper no_today no_clock pa_undoable pa_free pa_cells).2.2.2.2.2.2.2.2 → Q (F_X9_sleep no_apron no_basket no_ground no_bruised no_ladder no_helper no_today no_clock pa_undoable pa_free pa_cells).1 (F_X9_sleep no_apron no_basket no_ground no_bruised no_ladder no_helper no_today no_clock pa_undoable pa_free pa_cells).2.1 (F_X9_sleep no_apron no_basket no_ground no_bruised no_ladder no_helper no_today no_clock pa_undoable pa_free pa_cells).2.2.1 (F_X9_sleep no_apron no_basket no_ground no_bruised no_ladder no_helper no_today no_clock pa_undoable pa_free pa_cells).2.2.2.1 (F_X9_sleep no_apron no_basket no_ground no_bruised no_ladder no_helper no_today no_clock pa_undoable pa_free pa_cells).2.2.2.2.1 (F_X9_sleep no_apron no_basket no_ground no_bruised no_ladder no_helper no_today no_clock pa_undoable pa_free pa_cells).2.2.2.2.2.1 (F_X9_sleep no_apron no_basket no_ground no_bruised no_ladder no_helper no_today no_clock pa_undoable pa_free pa_cells).2.2.2.2.2.2.1 (F_X9_sleep no_apron no_basket no_ground no_bruised no_ladder no_helper no_today no_clock pa_undoable pa_free pa_cells).2.2.2.2.2.2.2.1 (F_X9_sleep no_apron no_basket no_ground no_bruised no_ladder no_helper no_today no_clock pa_undoable pa_free pa_cells).2.2.2.2.2.2.2.2) : wp_X9_sleep Q no_apron no_basket no_ground no_bruised no_ladder no_helper no_today no_clock pa_undoable pa_free pa_cells := dt_X9_sleep h (fun o eo => by rw [eo]; exact hq)
theorem dw_X9_sleep {Q : Int32 → Int32 → Int32 → Int32 → Int32 → Int32 → Int32 → Int32 → (Nat → Int32) → Prop} {no_apron : Int32} {no_basket : Int32} {no_ground : Int32} {no_bruised : Int32} {no_ladder : Int32} {no_helper : Int32} {no_today : Int32} {no_clock : Int32} {pa_undoable : Int32} {pa_free : Int32} {pa_cells : Nat → Int32} (h : wp_X9_sleep (fun o0 o1 o2 o3 o4 o5 o6 o7 o8 => (o0, o1, o2, o3, o4, o5, o6, o7, o8) = F_X9_sleep no_apron no_basket no_ground no_bruised no_ladder no_helper no_today no_clock pa_undoable pa_free pa_cells → Q o0 o1 o2 o3 o4 o5 o6 o7 o8) no_apron no_basket no_ground no_bruised no_ladder no_helper no_today no_clock pa_undoable pa_free pa_cells) : wp_X9_sleep Q no_apron no_basket no_ground no_bruised no_ladder no_helper no_today no_clock pa_undoable pa_free pa_cells := dt_X9_sleep h (fun o eo hp => hp eo)
noncomputable def j_X9_doAct_143 {R : Type} (po : Int32 → Int32 → Int32 → Int32 → Int32 → Int32 → Int32 → Int32 → Int32 → (Nat → Int32) → (Nat → Int32) → R) (tr_fruits : Int32) (tr_standings : Int32) (tr_x : Nat → Int32) (tr_height : Nat → Int32) (tr_worth : Nat → Int32) (tr_ripe : Nat → Int32) (tr_foot : Nat → Int32) (tr_fork : Nat → Int32) (tr_settings : Nat → Int32) (ru_length : Int32) (ru_program : Nat → Int32) (no_apron : Int32) (no_basket : Int32) (no_ground : Int32) (no_bruised : Int32) (no_ladder : Int32) (no_helper : Int32) (no_today : Int32) (no_clock : Int32) (ru_given : Nat → Int32) (ru_stack : Nat → Int32) : R := po ((F_X0_sleepOver no_apron no_basket no_ladder no_today no_clock).1) ((F_X0_sleepOver no_apron no_basket no_ladder no_today no_clock).2.1) ((F_X0_sleepOver no_apron no_basket no_ladder no_today no_clock).2.2.1) no_ground no_bruised ((F_X0_sleepOver no_apron no_basket no_ladder no_today no_clock).2.2.2.1) no_helper ((F_X0_sleepOver no_apron no_basket no_ladder no_today no_clock).2.2.2.2.1) ((F_X0_sleepOver no_apron no_basket no_ladder no_today no_clock).2.2.2.2.2) ru_given ru_stack
noncomputable def F_X9_doAct (p0 : Int32) (p1 : Int32) (tr_fruits : Int32) (tr_standings : Int32) (tr_x : Nat → Int32) (tr_height : Nat → Int32) (tr_worth : Nat → Int32) (tr_ripe : Nat → Int32) (tr_foot : Nat → Int32) (tr_fork : Nat → Int32) (tr_settings : Nat → Int32) (no_apron : Int32) (no_basket : Int32) (no_ground : Int32) (no_bruised : Int32) (no_ladder : Int32) (no_helper : Int32) (no_today : Int32) (no_clock : Int32) (ru_length : Int32) (ru_given : Nat → Int32) (ru_stack : Nat → Int32) (ru_program : Nat → Int32) : Int32 × Int32 × Int32 × Int32 × Int32 × Int32 × Int32 × Int32 × Int32 × (Nat → Int32) × (Nat → Int32) := if p0 = 97 then ((F_X0_setHelper 1 no_helper).1, no_apron, no_basket, no_ground, no_bruised, no_ladder, (F_X0_setHelper 1 no_helper).2, no_today, no_clock, ru_given, ru_stack) else (if p0 = 100 then ((F_X0_goDown tr_fork no_apron no_basket no_ladder no_clock).1, (F_X0_goDown tr_fork no_apron no_basket no_ladder no_clock).2.1, (F_X0_goDown tr_fork no_apron no_basket no_ladder no_clock).2.2.1, no_ground, no_bruised, no_ladder, no_helper, no_today, (F_X0_goDown tr_fork no_apron no_basket no_ladder no_clock).2.2.2, ru_given, ru_stack) else (if p0 = 104 then ((F_X0_pickFruit p1 1 tr_fruits tr_x tr_height tr_worth tr_ripe tr_foot tr_fork tr_settings no_apron no_basket no_ground no_bruised no_ladder no_helper no_today no_clock ru_length ru_given ru_stack ru_program).1, (F_X0_pickFruit p1 1 tr_fruits tr_x tr_height tr_worth tr_ripe tr_foot tr_fork tr_settings no_apron no_basket no_ground no_bruised no_ladder no_helper no_today no_clock ru_length ru_given ru_stack ru_program).2.1, no_basket, no_ground, (F_X0_pickFruit p1 1 tr_fruits tr_x tr_height tr_worth tr_ripe tr_foot tr_fork tr_settings no_apron no_basket no_ground no_bruised no_ladder no_helper no_today no_clock ru_length ru_given ru_stack ru_program).2.2.1, no_ladder, no_helper, no_today, (F_X0_pickFruit p1 1 tr_fruits tr_x tr_height tr_worth tr_ripe tr_foot tr_fork tr_settings no_apron no_basket no_ground no_bruised no_ladder no_helper no_today no_clock ru_length ru_given ru_stack ru_program).2.2.2.1, (F_X0_pickFruit p1 1 tr_fruits tr_x tr_height tr_worth tr_ripe tr_foot tr_fork tr_settings no_apron no_basket no_ground no_bruised no_ladder no_helper no_today no_clock ru_length ru_given ru_stack ru_program).2.2.2.2.1, (F_X0_pickFruit p1 1 tr_fruits tr_x tr_height tr_worth tr_ripe tr_foot tr_fork tr_settings no_apron no_basket no_ground no_bruised no_ladder no_helper no_today no_clock ru_length ru_given ru_stack ru_program).2.2.2.2.2) else (if p0 = 107 then ((F_X0_shakeTree tr_fruits tr_x tr_height tr_ripe tr_foot tr_fork tr_settings no_apron no_basket no_ground no_bruised no_ladder no_helper no_today no_clock).1, no_apron, no_basket, (F_X0_shakeTree tr_fruits tr_x tr_height tr_ripe tr_foot tr_fork tr_settings no_apron no_basket no_ground no_bruised no_ladder no_helper no_today no_clock).2.1, (F_X0_shakeTree tr_fruits tr_x tr_height tr_ripe tr_foot tr_fork tr_settings no_apron no_basket no_ground no_bruised no_ladder no_helper no_today no_clock).2.2.1, no_ladder, no_helper, no_today, (F_X0_shakeTree tr_fruits tr_x tr_height tr_ripe tr_foot tr_fork tr_settings no_apron no_basket no_ground no_bruised no_ladder no_helper no_today no_clock).2.2.2, ru_given, ru_stack) else (if p0 = 109 then ((F_X0_setLadder p1 tr_standings tr_foot tr_fork tr_settings no_apron no_basket no_ladder no_clock).1, (F_X0_setLadder p1 tr_standings tr_foot tr_fork tr_settings no_apron no_basket no_ladder no_clock).2.1, (F_X0_setLadder p1 tr_standings tr_foot tr_fork tr_settings no_apron no_basket no_ladder no_clock).2.2.1, no_ground, no_bruised, (F_X0_setLadder p1 tr_standings tr_foot tr_fork tr_settings no_apron no_basket no_ladder no_clock).2.2.2.1, no_helper, no_today, (F_X0_setLadder p1 tr_standings tr_foot tr_fork tr_settings no_apron no_basket no_ladder no_clock).2.2.2.2, ru_given, ru_stack) else (if p0 = 111 then ((F_X0_setHelper 0 no_helper).1, no_apron, no_basket, no_ground, no_bruised, no_ladder, (F_X0_setHelper 0 no_helper).2, no_today, no_clock, ru_given, ru_stack) else (if p0 = 112 then ((F_X0_pickFruit p1 0 tr_fruits tr_x tr_height tr_worth tr_ripe tr_foot tr_fork tr_settings no_apron no_basket no_ground no_bruised no_ladder no_helper no_today no_clock ru_length ru_given ru_stack ru_program).1, (F_X0_pickFruit p1 0 tr_fruits tr_x tr_height tr_worth tr_ripe tr_foot tr_fork tr_settings no_apron no_basket no_ground no_bruised no_ladder no_helper no_today no_clock ru_length ru_given ru_stack ru_program).2.1, no_basket, no_ground, (F_X0_pickFruit p1 0 tr_fruits tr_x tr_height tr_worth tr_ripe tr_foot tr_fork tr_settings no_apron no_basket no_ground no_bruised no_ladder no_helper no_today no_clock ru_length ru_given ru_stack ru_program).2.2.1, no_ladder, no_helper, no_today, (F_X0_pickFruit p1 0 tr_fruits tr_x tr_height tr_worth tr_ripe tr_foot tr_fork tr_settings no_apron no_basket no_ground no_bruised no_ladder no_helper no_today no_clock ru_length ru_given ru_stack ru_program).2.2.2.1, (F_X0_pickFruit p1 0 tr_fruits tr_x tr_height tr_worth tr_ripe tr_foot tr_fork tr_settings no_apron no_basket no_ground no_bruised no_ladder no_helper no_today no_clock ru_length ru_given ru_stack ru_program).2.2.2.2.1, (F_X0_pickFruit p1 0 tr_fruits tr_x tr_height tr_worth tr_ripe tr_foot tr_fork tr_settings no_apron no_basket no_ground no_bruised no_ladder no_helper no_today no_clock ru_length ru_given ru_stack ru_program).2.2.2.2.2) else (j_X9_doAct_143 (fun o0 o1 o2 o3 o4 o5 o6 o7 o8 o9 o10 => (o0, o1, o2, o3, o4, o5, o6, o7, o8, o9, o10)) tr_fruits tr_standings tr_x tr_height tr_worth tr_ripe tr_foot tr_fork tr_settings ru_length ru_program no_apron no_basket no_ground no_bruised no_ladder no_helper no_today no_clock ru_given ru_stack)))))))
set_option maxHeartbeats 200000 in
set_option maxRecDepth 10000 in
theorem dt_X9_doAct {P Q : Int32 → Int32 → Int32 → Int32 → Int32 → Int32 → Int32 → Int32 → Int32 → (Nat → Int32) → (Nat → Int32) → Prop} {p0 : Int32} {p1 : Int32} {tr_fruits : Int32} {tr_standings : Int32} {tr_x : Nat → Int32} {tr_height : Nat → Int32} {tr_worth : Nat → Int32} {tr_ripe : Nat → Int32} {tr_foot : Nat → Int32} {tr_fork : Nat → Int32} {tr_settings : Nat → Int32} {no_apron : Int32} {no_basket : Int32} {no_ground : Int32} {no_bruised : Int32} {no_ladder : Int32} {no_helper : Int32} {no_today : Int32} {no_clock : Int32} {ru_length : Int32} {ru_given : Nat → Int32} {ru_stack : Nat → Int32} {ru_program : Nat → Int32} (h : wp_X9_doAct P p0 p1 tr_fruits tr_standings tr_x tr_height tr_worth tr_ripe tr_foot tr_fork tr_settings no_apron no_basket no_ground no_bruised no_ladder no_helper no_today no_clock ru_length ru_given ru_stack ru_program) (hq : ∀ o : Int32 × Int32 × Int32 × Int32 × Int32 × Int32 × Int32 × Int32 × Int32 × (Nat → Int32) × (Nat → Int32), o = F_X9_doAct p0 p1 tr_fruits tr_standings tr_x tr_height tr_worth tr_ripe tr_foot tr_fork tr_settings no_apron no_basket no_ground no_bruised no_ladder no_helper no_today no_clock ru_length ru_given ru_stack ru_program → P o.1 o.2.1 o.2.2.1 o.2.2.2.1 o.2.2.2.2.1 o.2.2.2.2.2.1 o.2.2.2.2.2.2.1 o.2.2.2.2.2.2.2.1 o.2.2.2.2.2.2.2.2.1 o.2.2.2.2.2.2.2.2.2.1 o.2.2.2.2.2.2.2.2.2.2 → Q o.1 o.2.1 o.2.2.1 o.2.2.2.1 o.2.2.2.2.1 o.2.2.2.2.2.1 o.2.2.2.2.2.2.1 o.2.2.2.2.2.2.2.1 o.2.2.2.2.2.2.2.2.1 o.2.2.2.2.2.2.2.2.2.1 o.2.2.2.2.2.2.2.2.2.2) : wp_X9_doAct Q p0 p1 tr_fruits tr_standings tr_x tr_height tr_worth tr_ripe tr_foot tr_fork tr_settings no_apron no_basket no_ground no_bruised no_ladder no_helper no_today no_clock ru_length ru_given ru_stack ru_program := by
  rw [F_X9_doAct] at hq
  refine (And.intro (fun c1 => ?_) (And.intro (fun c2 => ?_) (And.intro (fun c3 => ?_) (And.intro (fun c4 => ?_) (And.intro (fun c5 => ?_) (And.intro (fun c6 => ?_) (And.intro (fun c7 => ?_) (fun c1 c2 c3 c4 c5 c6 c7 => ?_))))))))
  · have h := And.left h c1
    rw [if_pos c1] at hq
    refine du_X0_setHelper h ?_
    intro h
    have q9 := hq _ rfl
    dsimp only at q9
    exact q9 h
  · have h := And.left (And.right h) c2
    rw [if_neg (fun e9 => absurd (e9.symm.trans c2) (by decide)), if_pos c2] at hq
    refine du_X0_goDown h ?_
    intro h
    have q9 := hq _ rfl
    dsimp only at q9
    exact q9 h
  · have h := And.left (And.right (And.right h)) c3
    rw [if_neg (fun e9 => absurd (e9.symm.trans c3) (by decide)), if_neg (fun e9 => absurd (e9.symm.trans c3) (by decide)), if_pos c3] at hq
    refine du_X0_pickFruit h ?_
    intro h
    have q9 := hq _ rfl
    dsimp only at q9
    exact q9 h
  · have h := And.left (And.right (And.right (And.right h))) c4
    rw [if_neg (fun e9 => absurd (e9.symm.trans c4) (by decide)), if_neg (fun e9 => absurd (e9.symm.trans c4) (by decide)), if_neg (fun e9 => absurd (e9.symm.trans c4) (by decide)), if_pos c4] at hq
    refine du_X0_shakeTree h ?_
    intro h
    have q9 := hq _ rfl
    dsimp only at q9
    exact q9 h
  · have h := And.left (And.right (And.right (And.right (And.right h)))) c5
    rw [if_neg (fun e9 => absurd (e9.symm.trans c5) (by decide)), if_neg (fun e9 => absurd (e9.symm.trans c5) (by decide)), if_neg (fun e9 => absurd (e9.symm.trans c5) (by decide)), if_neg (fun e9 => absurd (e9.symm.trans c5) (by decide)), if_pos c5] at hq
    refine du_X0_setLadder h ?_
    intro h
    have q9 := hq _ rfl
    dsimp only at q9
    exact q9 h
  · have h := And.left (And.right (And.right (And.right (And.right (And.right h))))) c6
    rw [if_neg (fun e9 => absurd (e9.symm.trans c6) (by decide)), if_neg (fun e9 => absurd (e9.symm.trans c6) (by decide)), if_neg (fun e9 => absurd (e9.symm.trans c6) (by decide)), if_neg (fun e9 => absurd (e9.symm.trans c6) (by decide)), if_neg (fun e9 => absurd (e9.symm.trans c6) (by decide)), if_pos c6] at hq
    refine du_X0_setHelper h ?_
    intro h
    have q9 := hq _ rfl
    dsimp only at q9
    exact q9 h
  · have h := And.left (And.right (And.right (And.right (And.right (And.right (And.right h)))))) c7
    rw [if_neg (fun e9 => absurd (e9.symm.trans c7) (by decide)), if_neg (fun e9 => absurd (e9.symm.trans c7) (by decide)), if_neg (fun e9 => absurd (e9.symm.trans c7) (by decide)), if_neg (fun e9 => absurd (e9.symm.trans c7) (by decide)), if_neg (fun e9 => absurd (e9.symm.trans c7) (by decide)), if_neg (fun e9 => absurd (e9.symm.trans c7) (by decide)), if_pos c7] at hq
    refine du_X0_pickFruit h ?_
    intro h
    have q9 := hq _ rfl
    dsimp only at q9
    exact q9 h
  · have h := And.right (And.right (And.right (And.right (And.right (And.right (And.right h)))))) c1 c2 c3 c4 c5 c6 c7
    rw [if_neg c1, if_neg c2, if_neg c3, if_neg c4, if_neg c5, if_neg c6, if_neg c7] at hq
    rw [j_X9_doAct_143] at hq
    unfold ws_X9_doAct_143 at h ⊢
    refine du_X0_sleepOver h ?_
    intro h
    have q9 := hq _ rfl
    dsimp only at q9
    exact q9 h
theorem du_X9_doAct {P Q : Int32 → Int32 → Int32 → Int32 → Int32 → Int32 → Int32 → Int32 → Int32 → (Nat → Int32) → (Nat → Int32) → Prop} {p0 : Int32} {p1 : Int32} {tr_fruits : Int32} {tr_standings : Int32} {tr_x : Nat → Int32} {tr_height : Nat → Int32} {tr_worth : Nat → Int32} {tr_ripe : Nat → Int32} {tr_foot : Nat → Int32} {tr_fork : Nat → Int32} {tr_settings : Nat → Int32} {no_apron : Int32} {no_basket : Int32} {no_ground : Int32} {no_bruised : Int32} {no_ladder : Int32} {no_helper : Int32} {no_today : Int32} {no_clock : Int32} {ru_length : Int32} {ru_given : Nat → Int32} {ru_stack : Nat → Int32} {ru_program : Nat → Int32} (h : wp_X9_doAct P p0 p1 tr_fruits tr_standings tr_x tr_height tr_worth tr_ripe tr_foot tr_fork tr_settings no_apron no_basket no_ground no_bruised no_ladder no_helper no_today no_clock ru_length ru_given ru_stack ru_program) (hq : P (F_X9_doAct p0 p1 tr_fruits tr_standings tr_x tr_height tr_worth tr_ripe tr_foot tr_fork tr_settings no_apron no_basket no_ground no_bruised no_ladder no_helper no_today no_clock ru_length ru_given ru_stack ru_program).1 (F_X9_doAct p0 p1 tr_fruits tr_standings tr_x tr_height tr_worth tr_ripe tr_foot tr_fork tr_settings no_apron no_basket no_ground no_bruised no_ladder no_helper no_today no_clock ru_length ru_given ru_stack ru_program).2.1 (F_X9_doAct p0 p1 tr_fruits tr_standings tr_x tr_height tr_worth tr_ripe tr_foot tr_fork tr_settings no_apron no_basket no_ground no_bruised no_ladder no_helper no_today no_clock ru_length ru_given ru_stack ru_program).2.2.1 (F_X9_doAct p0 p1 tr_fruits tr_standings tr_x tr_height tr_worth tr_ripe tr_foot tr_fork tr_settings no_apron no_basket no_ground no_bruised no_ladder no_helper no_today no_clock ru_length ru_given ru_stack ru_program).2.2.2.1 (F_X9_doAct p0 p1 tr_fruits tr_standings tr_x tr_height tr_worth tr_ripe tr_foot tr_fork tr_settings no_apron no_basket no_ground no_bruised no_ladder no_helper no_today no_clock ru_length ru_given ru_stack ru_program).2.2.2.2.1 (F_X9_doAct p0 p1 tr_fruits tr_standings tr_x tr_height tr_worth tr_ripe tr_foot tr_fork tr_settings no_apron no_basket no_ground no_bruised no_ladder no_helper no_today no_clock ru_length ru_given ru_stack ru_program).2.2.2.2.2.1 (F_X9_doAct p0 p1 tr_fruits tr_standings tr_x tr_height tr_worth tr_ripe tr_foot tr_fork tr_settings no_apron no_basket no_ground no_bruised no_ladder no_helper no_today no_clock ru_length ru_given ru_stack ru_program).2.2.2.2.2.2.1 (F_X9_doAct p0 p1 tr_fruits tr_standings tr_x tr_height tr_worth tr_ripe tr_foot tr_fork tr_settings no_apron no_basket no_ground no_bruised no_ladder no_helper no_today no_clock ru_length ru_given ru_stack ru_program).2.2.2.2.2.2.2.1 (F_X9_doAct p0 p1 tr_fruits tr_standings tr_x tr_height tr_worth tr_ripe tr_foot tr_fork tr_settings no_apron no_basket no_ground no_bruised no_ladder no_helper no_today no_clock ru_length ru_given ru_stack ru_program).2.2.2.2.2.2.2.2.1 (F_X9_doAct p0 p1 tr_fruits tr_standings tr_x tr_height tr_worth tr_ripe tr_foot tr_fork tr_settings no_apron no_basket no_ground no_bruised no_ladder no_helper no_today no_clock ru_length ru_given ru_stack ru_program).2.2.2.2.2.2.2.2.2.1 (F_X9_doAct p0 p1 tr_fruits tr_standings tr_x tr_height tr_worth tr_ripe tr_foot tr_fork tr_settings no_apron no_basket no_ground no_bruised no_ladder no_helper no_today no_clock ru_length ru_given ru_stack ru_program).2.2.2.2.2.2.2.2.2.2 → Q (F_X9_doAct p0 p1 tr_fruits tr_standings tr_x tr_height tr_worth tr_ripe tr_foot tr_fork tr_settings no_apron no_basket no_ground no_bruised no_ladder no_helper no_today no_clock ru_length ru_given ru_stack ru_program).1 (F_X9_doAct p0 p1 tr_fruits tr_standings tr_x tr_height tr_worth tr_ripe tr_foot tr_fork tr_settings no_apron no_basket no_ground no_bruised no_ladder no_helper no_today no_clock ru_length ru_given ru_stack ru_program).2.1 (F_X9_doAct p0 p1 tr_fruits tr_standings tr_x tr_height tr_worth tr_ripe tr_foot tr_fork tr_settings no_apron no_basket no_ground no_bruised no_ladder no_helper no_today no_clock ru_length ru_given ru_stack ru_program).2.2.1 (F_X9_doAct p0 p1 tr_fruits tr_standings tr_x tr_height tr_worth tr_ripe tr_foot tr_fork tr_settings no_apron no_basket no_ground no_bruised no_ladder no_helper no_today no_clock ru_length ru_given ru_stack ru_program).2.2.2.1 (F_X9_doAct p0 p1 tr_fruits tr_standings tr_x tr_height tr_worth tr_ripe tr_foot tr_fork tr_settings no_apron no_basket no_ground no_bruised no_ladder no_helper no_today no_clock ru_length ru_given ru_stack ru_program).2.2.2.2.1 (F_X9_doAct p0 p1 tr_fruits tr_standings tr_x tr_height tr_worth tr_ripe tr_foot tr_fork tr_settings no_apron no_basket no_ground no_bruised no_ladder no_helper no_today no_clock ru_length ru_given ru_stack ru_program).2.2.2.2.2.1 (F_X9_doAct p0 p1 tr_fruits tr_standings tr_x tr_height tr_worth tr_ripe tr_foot tr_fork tr_settings no_apron no_basket no_ground no_bruised no_ladder no_helper no_today no_clock ru_length ru_given ru_stack ru_program).2.2.2.2.2.2.1 (F_X9_doAct p0 p1 tr_fruits tr_standings tr_x tr_height tr_worth tr_ripe tr_foot tr_fork tr_settings no_apron no_basket no_ground no_bruised no_ladder no_helper no_today no_clock ru_length ru_given ru_stack ru_program).2.2.2.2.2.2.2.1 (F_X9_doAct p0 p1 tr_fruits tr_standings tr_x tr_height tr_worth tr_ripe tr_foot tr_fork tr_settings no_apron no_basket no_ground no_bruised no_ladder no_helper no_today no_clock ru_length ru_given ru_stack ru_program).2.2.2.2.2.2.2.2.1 (F_X9_doAct p0 p1 tr_fruits tr_standings tr_x tr_height tr_worth tr_ripe tr_foot tr_fork tr_settings no_apron no_basket no_ground no_bruised no_ladder no_helper no_today no_clock ru_length ru_given ru_stack ru_program).2.2.2.2.2.2.2.2.2.1 (F_X9_doAct p0 p1 tr_fruits tr_standings tr_x tr_height tr_worth tr_ripe tr_foot tr_fork tr_settings no_apron no_basket no_ground no_bruised no_ladder no_helper no_today no_clock ru_length ru_given ru_stack ru_program).2.2.2.2.2.2.2.2.2.2) : wp_X9_doAct Q p0 p1 tr_fruits tr_standings tr_x tr_height tr_worth tr_ripe tr_foot tr_fork tr_settings no_apron no_basket no_ground no_bruised no_ladder no_helper no_today no_clock ru_length ru_given ru_stack ru_program := dt_X9_doAct h (fun o eo => by rw [eo]; exact hq)
theorem dw_X9_doAct {Q : Int32 → Int32 → Int32 → Int32 → Int32 → Int32 → Int32 → Int32 → Int32 → (Nat → Int32) → (Nat → Int32) → Prop} {p0 : Int32} {p1 : Int32} {tr_fruits : Int32} {tr_standings : Int32} {tr_x : Nat → Int32} {tr_height : Nat → Int32} {tr_worth : Nat → Int32} {tr_ripe : Nat → Int32} {tr_foot : Nat → Int32} {tr_fork : Nat → Int32} {tr_settings : Nat → Int32} {no_apron : Int32} {no_basket : Int32} {no_ground : Int32} {no_bruised : Int32} {no_ladder : Int32} {no_helper : Int32} {no_today : Int32} {no_clock : Int32} {ru_length : Int32} {ru_given : Nat → Int32} {ru_stack : Nat → Int32} {ru_program : Nat → Int32} (h : wp_X9_doAct (fun o0 o1 o2 o3 o4 o5 o6 o7 o8 o9 o10 => (o0, o1, o2, o3, o4, o5, o6, o7, o8, o9, o10) = F_X9_doAct p0 p1 tr_fruits tr_standings tr_x tr_height tr_worth tr_ripe tr_foot tr_fork tr_settings no_apron no_basket no_ground no_bruised no_ladder no_helper no_today no_clock ru_length ru_given ru_stack ru_program → Q o0 o1 o2 o3 o4 o5 o6 o7 o8 o9 o10) p0 p1 tr_fruits tr_standings tr_x tr_height tr_worth tr_ripe tr_foot tr_fork tr_settings no_apron no_basket no_ground no_bruised no_ladder no_helper no_today no_clock ru_length ru_given ru_stack ru_program) : wp_X9_doAct Q p0 p1 tr_fruits tr_standings tr_x tr_height tr_worth tr_ripe tr_foot tr_fork tr_settings no_apron no_basket no_ground no_bruised no_ladder no_helper no_today no_clock ru_length ru_given ru_stack ru_program := dt_X9_doAct h (fun o eo hp => hp eo)
noncomputable def j_X9_doActs_118 {R : Type} (po : Int32 → Int32 → Int32 → Int32 → Int32 → Int32 → Int32 → Int32 → Int32 → (Nat → Int32) → (Nat → Int32) → Int32 → Int32 → (Nat → Int32) → Int32 → (Nat → Int32) → R) (x_acts : Nat → Int32) (tr_fruits : Int32) (tr_standings : Int32) (tr_x : Nat → Int32) (tr_height : Nat → Int32) (tr_worth : Nat → Int32) (tr_ripe : Nat → Int32) (tr_foot : Nat → Int32) (tr_fork : Nat → Int32) (tr_settings : Nat → Int32) (ru_length : Int32) (ru_program : Nat → Int32) (x2 : Int32) (x3 : Int32) (x4 : Int32) (no_apron : Int32) (no_basket : Int32) (no_ground : Int32) (no_bruised : Int32) (no_ladder : Int32) (no_helper : Int32) (no_today : Int32) (no_clock : Int32) (ru_given : Nat → Int32) (ru_stack : Nat → Int32) (pa_undoable : Int32) (pa_free : Int32) (pa_cells : Nat → Int32) (ro_size : Int32) (ro_numbers : Nat → Int32) : R := po x2 no_apron no_basket no_ground no_bruised no_ladder no_helper no_today no_clock ru_given ru_stack pa_undoable pa_free pa_cells ((F_X9_tell_ x4 x3 ro_size ro_numbers).1) ((F_X9_tell_ x4 x3 ro_size ro_numbers).2)
noncomputable def j_X9_doActs_107 {R : Type} (po : Int32 → Int32 → Int32 → Int32 → Int32 → Int32 → Int32 → Int32 → Int32 → (Nat → Int32) → (Nat → Int32) → Int32 → Int32 → (Nat → Int32) → Int32 → (Nat → Int32) → R) (x_acts : Nat → Int32) (tr_fruits : Int32) (tr_standings : Int32) (tr_x : Nat → Int32) (tr_height : Nat → Int32) (tr_worth : Nat → Int32) (tr_ripe : Nat → Int32) (tr_foot : Nat → Int32) (tr_fork : Nat → Int32) (tr_settings : Nat → Int32) (ru_length : Int32) (ru_program : Nat → Int32) (x2 : Int32) (x3 : Int32) (x4 : Int32) (no_apron : Int32) (no_basket : Int32) (no_ground : Int32) (no_bruised : Int32) (no_ladder : Int32) (no_helper : Int32) (no_today : Int32) (no_clock : Int32) (ru_given : Nat → Int32) (ru_stack : Nat → Int32) (pa_undoable : Int32) (pa_free : Int32) (pa_cells : Nat → Int32) (ro_size : Int32) (ro_numbers : Nat → Int32) : R := if x2 ≤ 0 then (j_X9_doActs_118 po x_acts tr_fruits tr_standings tr_x tr_height tr_worth tr_ripe tr_foot tr_fork tr_settings ru_length ru_program x2 x3 x4 no_apron no_basket no_ground no_bruised no_ladder no_helper no_today no_clock ru_given ru_stack pa_undoable pa_free pa_cells ro_size ro_numbers) else (j_X9_doActs_118 po x_acts tr_fruits tr_standings tr_x tr_height tr_worth tr_ripe tr_foot tr_fork tr_settings ru_length ru_program x2 x3 x4 no_apron no_basket no_ground no_bruised no_ladder no_helper no_today no_clock ru_given ru_stack ((F_X4_hold pa_undoable pa_free).1) ((F_X4_hold pa_undoable pa_free).2) pa_cells ro_size ro_numbers)
noncomputable def j_X9_doActs_101 {R : Type} (k21 : Int32 → Int32 → Int32 → Int32 → Int32 → Int32 → Int32 → Int32 → Int32 → Int32 → Int32 → Int32 → Int32 → (Nat → Int32) → (Nat → Int32) → Int32 → Int32 → (Nat → Int32) → Int32 → (Nat → Int32) → R) (x_acts : Nat → Int32) (tr_fruits : Int32) (tr_standings : Int32) (tr_x : Nat → Int32) (tr_height : Nat → Int32) (tr_worth : Nat → Int32) (tr_ripe : Nat → Int32) (tr_foot : Nat → Int32) (tr_fork : Nat → Int32) (tr_settings : Nat → Int32) (ru_length : Int32) (ru_program : Nat → Int32) (x1 : Int32) (x2 : Int32) (x3 : Int32) (x4 : Int32) (x5 : Int32) (no_apron : Int32) (no_basket : Int32) (no_ground : Int32) (no_bruised : Int32) (no_ladder : Int32) (no_helper : Int32) (no_today : Int32) (no_clock : Int32) (ru_given : Nat → Int32) (ru_stack : Nat → Int32) (pa_undoable : Int32) (pa_free : Int32) (pa_cells : Nat → Int32) (ro_size : Int32) (ro_numbers : Nat → Int32) : R := k21 x1 x2 x3 x4 (x5 + 1) no_apron no_basket no_ground no_bruised no_ladder no_helper no_today no_clock ru_given ru_stack pa_undoable pa_free pa_cells ro_size ro_numbers
noncomputable def j_X9_doActs_99 {R : Type} (k21 : Int32 → Int32 → Int32 → Int32 → Int32 → Int32 → Int32 → Int32 → Int32 → Int32 → Int32 → Int32 → Int32 → (Nat → Int32) → (Nat → Int32) → Int32 → Int32 → (Nat → Int32) → Int32 → (Nat → Int32) → R) (x_acts : Nat → Int32) (tr_fruits : Int32) (tr_standings : Int32) (tr_x : Nat → Int32) (tr_height : Nat → Int32) (tr_worth : Nat → Int32) (tr_ripe : Nat → Int32) (tr_foot : Nat → Int32) (tr_fork : Nat → Int32) (tr_settings : Nat → Int32) (ru_length : Int32) (ru_program : Nat → Int32) (x1 : Int32) (x2 : Int32) (x4 : Int32) (x5 : Int32) (k0 : Int32) (k1 : Int32) (no_apron : Int32) (no_basket : Int32) (no_ground : Int32) (no_bruised : Int32) (no_ladder : Int32) (no_helper : Int32) (no_today : Int32) (no_clock : Int32) (ru_given : Nat → Int32) (ru_stack : Nat → Int32) (pa_undoable : Int32) (pa_free : Int32) (pa_cells : Nat → Int32) (ro_size : Int32) (ro_numbers : Nat → Int32) : R := j_X9_doActs_101 k21 x_acts tr_fruits tr_standings tr_x tr_height tr_worth tr_ripe tr_foot tr_fork tr_settings ru_length ru_program x1 x2 (k0 + k1) x4 x5 no_apron no_basket no_ground no_bruised no_ladder no_helper no_today no_clock ru_given ru_stack pa_undoable pa_free pa_cells ro_size ro_numbers
noncomputable def j_X9_doActs_94 {R : Type} (k21 : Int32 → Int32 → Int32 → Int32 → Int32 → Int32 → Int32 → Int32 → Int32 → Int32 → Int32 → Int32 → Int32 → (Nat → Int32) → (Nat → Int32) → Int32 → Int32 → (Nat → Int32) → Int32 → (Nat → Int32) → R) (x_acts : Nat → Int32) (tr_fruits : Int32) (tr_standings : Int32) (tr_x : Nat → Int32) (tr_height : Nat → Int32) (tr_worth : Nat → Int32) (tr_ripe : Nat → Int32) (tr_foot : Nat → Int32) (tr_fork : Nat → Int32) (tr_settings : Nat → Int32) (ru_length : Int32) (ru_program : Nat → Int32) (x1 : Int32) (x2 : Int32) (x4 : Int32) (x5 : Int32) (k0 : Int32) (no_apron : Int32) (no_basket : Int32) (no_ground : Int32) (no_bruised : Int32) (no_ladder : Int32) (no_helper : Int32) (no_today : Int32) (no_clock : Int32) (ru_given : Nat → Int32) (ru_stack : Nat → Int32) (pa_undoable : Int32) (pa_free : Int32) (pa_cells : Nat → Int32) (ro_size : Int32) (ro_numbers : Nat → Int32) : R := j_X9_doActs_99 k21 x_acts tr_fruits tr_standings tr_x tr_height tr_worth tr_ripe tr_foot tr_fork tr_settings ru_length ru_program x1 x2 x4 x5 k0 1 no_apron no_basket no_ground no_bruised no_ladder no_helper no_today no_clock ru_given ru_stack pa_undoable pa_free pa_cells ro_size ro_numbers
noncomputable def fs_X9_doActs_21 {R : Type} (po : Int32 → Int32 → Int32 → Int32 → Int32 → Int32 → Int32 → Int32 → Int32 → (Nat → Int32) → (Nat → Int32) → Int32 → Int32 → (Nat → Int32) → Int32 → (Nat → Int32) → R) (x_acts : Nat → Int32) (tr_fruits : Int32) (tr_standings : Int32) (tr_x : Nat → Int32) (tr_height : Nat → Int32) (tr_worth : Nat → Int32) (tr_ripe : Nat → Int32) (tr_foot : Nat → Int32) (tr_fork : Nat → Int32) (tr_settings : Nat → Int32) (ru_length : Int32) (ru_program : Nat → Int32) (nx : Int32 → Int32 → Int32 → Int32 → Int32 → Int32 → Int32 → Int32 → Int32 → Int32 → Int32 → Int32 → Int32 → (Nat → Int32) → (Nat → Int32) → Int32 → Int32 → (Nat → Int32) → Int32 → (Nat → Int32) → R) (x1 : Int32) (x2 : Int32) (x3 : Int32) (x4 : Int32) (x5 : Int32) (no_apron : Int32) (no_basket : Int32) (no_ground : Int32) (no_bruised : Int32) (no_ladder : Int32) (no_helper : Int32) (no_today : Int32) (no_clock : Int32) (ru_given : Nat → Int32) (ru_stack : Nat → Int32) (pa_undoable : Int32) (pa_free : Int32) (pa_cells : Nat → Int32) (ro_size : Int32) (ro_numbers : Nat → Int32) : R := if x1 ≤ x5 then (j_X9_doActs_107 po x_acts tr_fruits tr_standings tr_x tr_height tr_worth tr_ripe tr_foot tr_fork tr_settings ru_length ru_program x2 x3 x4 no_apron no_basket no_ground no_bruised no_ladder no_helper no_today no_clock ru_given ru_stack pa_undoable pa_free pa_cells ro_size ro_numbers) else (if 30 ≤ x5 then (j_X9_doActs_107 po x_acts tr_fruits tr_standings tr_x tr_height tr_worth tr_ripe tr_foot tr_fork tr_settings ru_length ru_program x2 x3 x4 no_apron no_basket no_ground no_bruised no_ladder no_helper no_today no_clock ru_given ru_stack pa_undoable pa_free pa_cells ro_size ro_numbers) else (if x4 = 0 then (if 0 ≤ (F_X9_doAct ((x_acts x5.toNatClampNeg) / 100) ((x_acts x5.toNatClampNeg) - (x_acts x5.toNatClampNeg) / 100 * 100) tr_fruits tr_standings tr_x tr_height tr_worth tr_ripe tr_foot tr_fork tr_settings no_apron no_basket no_ground no_bruised no_ladder no_helper no_today no_clock ru_length ru_given ru_stack ru_program).1 then (if ((x_acts x5.toNatClampNeg) / 100) = 112 then (j_X9_doActs_94 nx x_acts tr_fruits tr_standings tr_x tr_height tr_worth tr_ripe tr_foot tr_fork tr_settings ru_length ru_program x1 (x2 + 1) x4 x5 x3 ((F_X9_doAct ((x_acts x5.toNatClampNeg) / 100) ((x_acts x5.toNatClampNeg) - (x_acts x5.toNatClampNeg) / 100 * 100) tr_fruits tr_standings tr_x tr_height tr_worth tr_ripe tr_foot tr_fork tr_settings no_apron no_basket no_ground no_bruised no_ladder no_helper no_today no_clock ru_length ru_given ru_stack ru_program).2.1) ((F_X9_doAct ((x_acts x5.toNatClampNeg) / 100) ((x_acts x5.toNatClampNeg) - (x_acts x5.toNatClampNeg) / 100 * 100) tr_fruits tr_standings tr_x tr_height tr_worth tr_ripe tr_foot tr_fork tr_settings no_apron no_basket no_ground no_bruised no_ladder no_helper no_today no_clock ru_length ru_given ru_stack ru_program).2.2.1) ((F_X9_doAct ((x_acts x5.toNatClampNeg) / 100) ((x_acts x5.toNatClampNeg) - (x_acts x5.toNatClampNeg) / 100 * 100) tr_fruits tr_standings tr_x tr_height tr_worth tr_ripe tr_foot tr_fork tr_settings no_apron no_basket no_ground no_bruised no_ladder no_helper no_today no_clock ru_length ru_given ru_stack ru_program).2.2.2.1) ((F_X9_doAct ((x_acts x5.toNatClampNeg) / 100) ((x_acts x5.toNatClampNeg) - (x_acts x5.toNatClampNeg) / 100 * 100) tr_fruits tr_standings tr_x tr_height tr_worth tr_ripe tr_foot tr_fork tr_settings no_apron no_basket no_ground no_bruised no_ladder no_helper no_today no_clock ru_length ru_given ru_stack ru_program).2.2.2.2.1) ((F_X9_doAct ((x_acts x5.toNatClampNeg) / 100) ((x_acts x5.toNatClampNeg) - (x_acts x5.toNatClampNeg) / 100 * 100) tr_fruits tr_standings tr_x tr_height tr_worth tr_ripe tr_foot tr_fork tr_settings no_apron no_basket no_ground no_bruised no_ladder no_helper no_today no_clock ru_length ru_given ru_stack ru_program).2.2.2.2.2.1) ((F_X9_doAct ((x_acts x5.toNatClampNeg) / 100) ((x_acts x5.toNatClampNeg) - (x_acts x5.toNatClampNeg) / 100 * 100) tr_fruits tr_standings tr_x tr_height tr_worth tr_ripe tr_foot tr_fork tr_settings no_apron no_basket no_ground no_bruised no_ladder no_helper no_today no_clock ru_length ru_given ru_stack ru_program).2.2.2.2.2.2.1) ((F_X9_doAct ((x_acts x5.toNatClampNeg) / 100) ((x_acts x5.toNatClampNeg) - (x_acts x5.toNatClampNeg) / 100 * 100) tr_fruits tr_standings tr_x tr_height tr_worth tr_ripe tr_foot tr_fork tr_settings no_apron no_basket no_ground no_bruised no_ladder no_helper no_today no_clock ru_length ru_given ru_stack ru_program).2.2.2.2.2.2.2.1) ((F_X9_doAct ((x_acts x5.toNatClampNeg) / 100) ((x_acts x5.toNatClampNeg) - (x_acts x5.toNatClampNeg) / 100 * 100) tr_fruits tr_standings tr_x tr_height tr_worth tr_ripe tr_foot tr_fork tr_settings no_apron no_basket no_ground no_bruised no_ladder no_helper no_today no_clock ru_length ru_given ru_stack ru_program).2.2.2.2.2.2.2.2.1) ((F_X9_doAct ((x_acts x5.toNatClampNeg) / 100) ((x_acts x5.toNatClampNeg) - (x_acts x5.toNatClampNeg) / 100 * 100) tr_fruits tr_standings tr_x tr_height tr_worth tr_ripe tr_foot tr_fork tr_settings no_apron no_basket no_ground no_bruised no_ladder no_helper no_today no_clock ru_length ru_given ru_stack ru_program).2.2.2.2.2.2.2.2.2.1) ((F_X9_doAct ((x_acts x5.toNatClampNeg) / 100) ((x_acts x5.toNatClampNeg) - (x_acts x5.toNatClampNeg) / 100 * 100) tr_fruits tr_standings tr_x tr_height tr_worth tr_ripe tr_foot tr_fork tr_settings no_apron no_basket no_ground no_bruised no_ladder no_helper no_today no_clock ru_length ru_given ru_stack ru_program).2.2.2.2.2.2.2.2.2.2) pa_undoable pa_free pa_cells ro_size ro_numbers) else (if ((x_acts x5.toNatClampNeg) / 100) = 104 then (j_X9_doActs_94 nx x_acts tr_fruits tr_standings tr_x tr_height tr_worth tr_ripe tr_foot tr_fork tr_settings ru_length ru_program x1 (x2 + 1) x4 x5 x3 ((F_X9_doAct ((x_acts x5.toNatClampNeg) / 100) ((x_acts x5.toNatClampNeg) - (x_acts x5.toNatClampNeg) / 100 * 100) tr_fruits tr_standings tr_x tr_height tr_worth tr_ripe tr_foot tr_fork tr_settings no_apron no_basket no_ground no_bruised no_ladder no_helper no_today no_clock ru_length ru_given ru_stack ru_program).2.1) ((F_X9_doAct ((x_acts x5.toNatClampNeg) / 100) ((x_acts x5.toNatClampNeg) - (x_acts x5.toNatClampNeg) / 100 * 100) tr_fruits tr_standings tr_x tr_height tr_worth tr_ripe tr_foot tr_fork tr_settings no_apron no_basket no_ground no_bruised no_ladder no_helper no_today no_clock ru_length ru_given ru_stack ru_program).2.2.1) ((F_X9_doAct ((x_acts x5.toNatClampNeg) / 100) ((x_acts x5.toNatClampNeg) - (x_acts x5.toNatClampNeg) / 100 * 100) tr_fruits tr_standings tr_x tr_height tr_worth tr_ripe tr_foot tr_fork tr_settings no_apron no_basket no_ground no_bruised no_ladder no_helper no_today no_clock ru_length ru_given ru_stack ru_program).2.2.2.1) ((F_X9_doAct ((x_acts x5.toNatClampNeg) / 100) ((x_acts x5.toNatClampNeg) - (x_acts x5.toNatClampNeg) / 100 * 100) tr_fruits tr_standings tr_x tr_height tr_worth tr_ripe tr_foot tr_fork tr_settings no_apron no_basket no_ground no_bruised no_ladder no_helper no_today no_clock ru_length ru_given ru_stack ru_program).2.2.2.2.1) ((F_X9_doAct ((x_acts x5.toNatClampNeg) / 100) ((x_acts x5.toNatClampNeg) - (x_acts x5.toNatClampNeg) / 100 * 100) tr_fruits tr_standings tr_x tr_height tr_worth tr_ripe tr_foot tr_fork tr_settings no_apron no_basket no_ground no_bruised no_ladder no_helper no_today no_clock ru_length ru_given ru_stack ru_program).2.2.2.2.2.1) ((F_X9_doAct ((x_acts x5.toNatClampNeg) / 100) ((x_acts x5.toNatClampNeg) - (x_acts x5.toNatClampNeg) / 100 * 100) tr_fruits tr_standings tr_x tr_height tr_worth tr_ripe tr_foot tr_fork tr_settings no_apron no_basket no_ground no_bruised no_ladder no_helper no_today no_clock ru_length ru_given ru_stack ru_program).2.2.2.2.2.2.1) ((F_X9_doAct ((x_acts x5.toNatClampNeg) / 100) ((x_acts x5.toNatClampNeg) - (x_acts x5.toNatClampNeg) / 100 * 100) tr_fruits tr_standings tr_x tr_height tr_worth tr_ripe tr_foot tr_fork tr_settings no_apron no_basket no_ground no_bruised no_ladder no_helper no_today no_clock ru_length ru_given ru_stack ru_program).2.2.2.2.2.2.2.1) ((F_X9_doAct ((x_acts x5.toNatClampNeg) / 100) ((x_acts x5.toNatClampNeg) - (x_acts x5.toNatClampNeg) / 100 * 100) tr_fruits tr_standings tr_x tr_height tr_worth tr_ripe tr_foot tr_fork tr_settings no_apron no_basket no_ground no_bruised no_ladder no_helper no_today no_clock ru_length ru_given ru_stack ru_program).2.2.2.2.2.2.2.2.1) ((F_X9_doAct ((x_acts x5.toNatClampNeg) / 100) ((x_acts x5.toNatClampNeg) - (x_acts x5.toNatClampNeg) / 100 * 100) tr_fruits tr_standings tr_x tr_height tr_worth tr_ripe tr_foot tr_fork tr_settings no_apron no_basket no_ground no_bruised no_ladder no_helper no_today no_clock ru_length ru_given ru_stack ru_program).2.2.2.2.2.2.2.2.2.1) ((F_X9_doAct ((x_acts x5.toNatClampNeg) / 100) ((x_acts x5.toNatClampNeg) - (x_acts x5.toNatClampNeg) / 100 * 100) tr_fruits tr_standings tr_x tr_height tr_worth tr_ripe tr_foot tr_fork tr_settings no_apron no_basket no_ground no_bruised no_ladder no_helper no_today no_clock ru_length ru_given ru_stack ru_program).2.2.2.2.2.2.2.2.2.2) pa_undoable pa_free pa_cells ro_size ro_numbers) else (j_X9_doActs_99 nx x_acts tr_fruits tr_standings tr_x tr_height tr_worth tr_ripe tr_foot tr_fork tr_settings ru_length ru_program x1 (x2 + 1) x4 x5 x3 0 ((F_X9_doAct ((x_acts x5.toNatClampNeg) / 100) ((x_acts x5.toNatClampNeg) - (x_acts x5.toNatClampNeg) / 100 * 100) tr_fruits tr_standings tr_x tr_height tr_worth tr_ripe tr_foot tr_fork tr_settings no_apron no_basket no_ground no_bruised no_ladder no_helper no_today no_clock ru_length ru_given ru_stack ru_program).2.1) ((F_X9_doAct ((x_acts x5.toNatClampNeg) / 100) ((x_acts x5.toNatClampNeg) - (x_acts x5.toNatClampNeg) / 100 * 100) tr_fruits tr_standings tr_x tr_height tr_worth tr_ripe tr_foot tr_fork tr_settings no_apron no_basket no_ground no_bruised no_ladder no_helper no_today no_clock ru_length ru_given ru_stack ru_program).2.2.1) ((F_X9_doAct ((x_acts x5.toNatClampNeg) / 100) ((x_acts x5.toNatClampNeg) - (x_acts x5.toNatClampNeg) / 100 * 100) tr_fruits tr_standings tr_x tr_height tr_worth tr_ripe tr_foot tr_fork tr_settings no_apron no_basket no_ground no_bruised no_ladder no_helper no_today no_clock ru_length ru_given ru_stack ru_program).2.2.2.1) ((F_X9_doAct ((x_acts x5.toNatClampNeg) / 100) ((x_acts x5.toNatClampNeg) - (x_acts x5.toNatClampNeg) / 100 * 100) tr_fruits tr_standings tr_x tr_height tr_worth tr_ripe tr_foot tr_fork tr_settings no_apron no_basket no_ground no_bruised no_ladder no_helper no_today no_clock ru_length ru_given ru_stack ru_program).2.2.2.2.1) ((F_X9_doAct ((x_acts x5.toNatClampNeg) / 100) ((x_acts x5.toNatClampNeg) - (x_acts x5.toNatClampNeg) / 100 * 100) tr_fruits tr_standings tr_x tr_height tr_worth tr_ripe tr_foot tr_fork tr_settings no_apron no_basket no_ground no_bruised no_ladder no_helper no_today no_clock ru_length ru_given ru_stack ru_program).2.2.2.2.2.1) ((F_X9_doAct ((x_acts x5.toNatClampNeg) / 100) ((x_acts x5.toNatClampNeg) - (x_acts x5.toNatClampNeg) / 100 * 100) tr_fruits tr_standings tr_x tr_height tr_worth tr_ripe tr_foot tr_fork tr_settings no_apron no_basket no_ground no_bruised no_ladder no_helper no_today no_clock ru_length ru_given ru_stack ru_program).2.2.2.2.2.2.1) ((F_X9_doAct ((x_acts x5.toNatClampNeg) / 100) ((x_acts x5.toNatClampNeg) - (x_acts x5.toNatClampNeg) / 100 * 100) tr_fruits tr_standings tr_x tr_height tr_worth tr_ripe tr_foot tr_fork tr_settings no_apron no_basket no_ground no_bruised no_ladder no_helper no_today no_clock ru_length ru_given ru_stack ru_program).2.2.2.2.2.2.2.1) ((F_X9_doAct ((x_acts x5.toNatClampNeg) / 100) ((x_acts x5.toNatClampNeg) - (x_acts x5.toNatClampNeg) / 100 * 100) tr_fruits tr_standings tr_x tr_height tr_worth tr_ripe tr_foot tr_fork tr_settings no_apron no_basket no_ground no_bruised no_ladder no_helper no_today no_clock ru_length ru_given ru_stack ru_program).2.2.2.2.2.2.2.2.1) ((F_X9_doAct ((x_acts x5.toNatClampNeg) / 100) ((x_acts x5.toNatClampNeg) - (x_acts x5.toNatClampNeg) / 100 * 100) tr_fruits tr_standings tr_x tr_height tr_worth tr_ripe tr_foot tr_fork tr_settings no_apron no_basket no_ground no_bruised no_ladder no_helper no_today no_clock ru_length ru_given ru_stack ru_program).2.2.2.2.2.2.2.2.2.1) ((F_X9_doAct ((x_acts x5.toNatClampNeg) / 100) ((x_acts x5.toNatClampNeg) - (x_acts x5.toNatClampNeg) / 100 * 100) tr_fruits tr_standings tr_x tr_height tr_worth tr_ripe tr_foot tr_fork tr_settings no_apron no_basket no_ground no_bruised no_ladder no_helper no_today no_clock ru_length ru_given ru_stack ru_program).2.2.2.2.2.2.2.2.2.2) pa_undoable pa_free pa_cells ro_size ro_numbers))) else (j_X9_doActs_101 nx x_acts tr_fruits tr_standings tr_x tr_height tr_worth tr_ripe tr_foot tr_fork tr_settings ru_length ru_program x1 x2 x3 1 x5 ((F_X9_doAct ((x_acts x5.toNatClampNeg) / 100) ((x_acts x5.toNatClampNeg) - (x_acts x5.toNatClampNeg) / 100 * 100) tr_fruits tr_standings tr_x tr_height tr_worth tr_ripe tr_foot tr_fork tr_settings no_apron no_basket no_ground no_bruised no_ladder no_helper no_today no_clock ru_length ru_given ru_stack ru_program).2.1) ((F_X9_doAct ((x_acts x5.toNatClampNeg) / 100) ((x_acts x5.toNatClampNeg) - (x_acts x5.toNatClampNeg) / 100 * 100) tr_fruits tr_standings tr_x tr_height tr_worth tr_ripe tr_foot tr_fork tr_settings no_apron no_basket no_ground no_bruised no_ladder no_helper no_today no_clock ru_length ru_given ru_stack ru_program).2.2.1) ((F_X9_doAct ((x_acts x5.toNatClampNeg) / 100) ((x_acts x5.toNatClampNeg) - (x_acts x5.toNatClampNeg) / 100 * 100) tr_fruits tr_standings tr_x tr_height tr_worth tr_ripe tr_foot tr_fork tr_settings no_apron no_basket no_ground no_bruised no_ladder no_helper no_today no_clock ru_length ru_given ru_stack ru_program).2.2.2.1) ((F_X9_doAct ((x_acts x5.toNatClampNeg) / 100) ((x_acts x5.toNatClampNeg) - (x_acts x5.toNatClampNeg) / 100 * 100) tr_fruits tr_standings tr_x tr_height tr_worth tr_ripe tr_foot tr_fork tr_settings no_apron no_basket no_ground no_bruised no_ladder no_helper no_today no_clock ru_length ru_given ru_stack ru_program).2.2.2.2.1) ((F_X9_doAct ((x_acts x5.toNatClampNeg) / 100) ((x_acts x5.toNatClampNeg) - (x_acts x5.toNatClampNeg) / 100 * 100) tr_fruits tr_standings tr_x tr_height tr_worth tr_ripe tr_foot tr_fork tr_settings no_apron no_basket no_ground no_bruised no_ladder no_helper no_today no_clock ru_length ru_given ru_stack ru_program).2.2.2.2.2.1) ((F_X9_doAct ((x_acts x5.toNatClampNeg) / 100) ((x_acts x5.toNatClampNeg) - (x_acts x5.toNatClampNeg) / 100 * 100) tr_fruits tr_standings tr_x tr_height tr_worth tr_ripe tr_foot tr_fork tr_settings no_apron no_basket no_ground no_bruised no_ladder no_helper no_today no_clock ru_length ru_given ru_stack ru_program).2.2.2.2.2.2.1) ((F_X9_doAct ((x_acts x5.toNatClampNeg) / 100) ((x_acts x5.toNatClampNeg) - (x_acts x5.toNatClampNeg) / 100 * 100) tr_fruits tr_standings tr_x tr_height tr_worth tr_ripe tr_foot tr_fork tr_settings no_apron no_basket no_ground no_bruised no_ladder no_helper no_today no_clock ru_length ru_given ru_stack ru_program).2.2.2.2.2.2.2.1) ((F_X9_doAct ((x_acts x5.toNatClampNeg) / 100) ((x_acts x5.toNatClampNeg) - (x_acts x5.toNatClampNeg) / 100 * 100) tr_fruits tr_standings tr_x tr_height tr_worth tr_ripe tr_foot tr_fork tr_settings no_apron no_basket no_ground no_bruised no_ladder no_helper no_today no_clock ru_length ru_given ru_stack ru_program).2.2.2.2.2.2.2.2.1) ((F_X9_doAct ((x_acts x5.toNatClampNeg) / 100) ((x_acts x5.toNatClampNeg) - (x_acts x5.toNatClampNeg) / 100 * 100) tr_fruits tr_standings tr_x tr_height tr_worth tr_ripe tr_foot tr_fork tr_settings no_apron no_basket no_ground no_bruised no_ladder no_helper no_today no_clock ru_length ru_given ru_stack ru_program).2.2.2.2.2.2.2.2.2.1) ((F_X9_doAct ((x_acts x5.toNatClampNeg) / 100) ((x_acts x5.toNatClampNeg) - (x_acts x5.toNatClampNeg) / 100 * 100) tr_fruits tr_standings tr_x tr_height tr_worth tr_ripe tr_foot tr_fork tr_settings no_apron no_basket no_ground no_bruised no_ladder no_helper no_today no_clock ru_length ru_given ru_stack ru_program).2.2.2.2.2.2.2.2.2.2) pa_undoable pa_free pa_cells ro_size ro_numbers)) else (j_X9_doActs_107 po x_acts tr_fruits tr_standings tr_x tr_height tr_worth tr_ripe tr_foot tr_fork tr_settings ru_length ru_program x2 x3 x4 no_apron no_basket no_ground no_bruised no_ladder no_helper no_today no_clock ru_given ru_stack pa_undoable pa_free pa_cells ro_size ro_numbers)))
