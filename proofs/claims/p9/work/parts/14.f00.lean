/-! functions out of the weakest starts -/
theorem ae {e : Int32} {A : Int32 → Prop} (h : A e) : ∀ v : Int32, v = e → A v := fun v ev => by rw [ev]; exact h
def itr {α : Type} (f : Int32 → α → α) (a : α) (i : Nat) : Nat → α := fun n => Nat.rec (motive := fun _ => α) a (fun k s => f (nI (i + k)) s) n
theorem itr_s {α : Type} (f : Int32 → α → α) (a : α) (i k : Nat) : itr f a i (k + 1) = f (nI (i + k)) (itr f a i k) := rfl
theorem itr_0 {α : Type} (f : Int32 → α → α) (a : α) (i : Nat) : itr f a i 0 = a := rfl
def flp {α : Type} (f : α → α) (z : α) : Nat → α := fun n => Nat.rec (motive := fun _ => α) z (fun _ s => f s) n
theorem flp_s {α : Type} (f : α → α) (z : α) (n : Nat) : flp f z (n + 1) = f (flp f z n) := rfl
theorem ad_lt {a b : Int32} (h : 0 ≤ b.toInt ∧ b.toInt ≤ 3) : (((Int32.toInt (a + b) - Int32.toInt a).toNat : Nat) : Int) < ((4 : Nat) : Int) := by
  have r := tp_r a
  by_cases hb : a.toInt + b.toInt ≤ 2147483647
  · rw [ta_add a b (by omega)]; omega
  · have e2 : ((2 ^ 32 : Nat) : Int) = 4294967296 := by decide
    rw [Int32.toInt_add, Int.bmod_def, e2]
    split <;> omega
noncomputable def j_X8_digitHere_24 {R : Type} (po : Int32 → R) (tx_place : Int32) (tx_stop : Int32) (tx_signs : Nat → Int32) (k0 : Int32) : R := if k0 < 48 then (po (-1)) else (if 57 < k0 then (po (-1)) else (po (k0 - 48)))
noncomputable def F_X8_digitHere (tx_place : Int32) (tx_stop : Int32) (tx_signs : Nat → Int32) : Int32 := if tx_stop ≤ tx_place then (j_X8_digitHere_24 (fun o0 => o0) tx_place tx_stop tx_signs (-1)) else (j_X8_digitHere_24 (fun o0 => o0) tx_place tx_stop tx_signs (tx_signs tx_place.toNatClampNeg))
set_option maxHeartbeats 200000 in
set_option maxRecDepth 10000 in
theorem dt_X8_digitHere {P Q : Int32 → Prop} {tx_place : Int32} {tx_stop : Int32} {tx_signs : Nat → Int32} (h : wp_X8_digitHere P tx_place tx_stop tx_signs) (hq : ∀ o : Int32, o = F_X8_digitHere tx_place tx_stop tx_signs → P o → Q o) : wp_X8_digitHere Q tx_place tx_stop tx_signs := by
  rw [F_X8_digitHere] at hq
  refine And.intro (fun c1 => ?_) (fun c1 => ?_)
  · have h := And.left h c1
    rw [if_pos c1] at hq
    rw [j_X8_digitHere_24] at hq
    unfold ws_X8_digitHere_24 at h ⊢
    refine And.intro (fun c2 => ?_) (fun c2 => ?_)
    · have h := And.left h c2
      rw [if_pos c2] at hq
      have q9 := hq _ rfl
      exact q9 h
    · have h := And.right h c2
      rw [if_neg c2] at hq
      refine And.intro (fun c3 => ?_) (fun c3 => ?_)
      · have h := And.left h c3
        rw [if_pos c3] at hq
        have q9 := hq _ rfl
        exact q9 h
      · have h := And.right h c3
        rw [if_neg c3] at hq
        refine ae ?_
        have h := h _ rfl
        have q9 := hq _ rfl
        exact q9 h
  · have h := And.right h c1
    rw [if_neg c1] at hq
    refine And.intro (And.left h) ?_
    have h := And.right h
    refine ae ?_
    have h := h _ rfl
    rw [j_X8_digitHere_24] at hq
    unfold ws_X8_digitHere_24 at h ⊢
    refine And.intro (fun c4 => ?_) (fun c4 => ?_)
    · have h := And.left h c4
      rw [if_pos c4] at hq
      have q9 := hq _ rfl
      exact q9 h
    · have h := And.right h c4
      rw [if_neg c4] at hq
      refine And.intro (fun c5 => ?_) (fun c5 => ?_)
      · have h := And.left h c5
        rw [if_pos c5] at hq
        have q9 := hq _ rfl
        exact q9 h
      · have h := And.right h c5
        rw [if_neg c5] at hq
        refine ae ?_
        have h := h _ rfl
        have q9 := hq _ rfl
        exact q9 h
theorem du_X8_digitHere {P Q : Int32 → Prop} {tx_place : Int32} {tx_stop : Int32} {tx_signs : Nat → Int32} (h : wp_X8_digitHere P tx_place tx_stop tx_signs) (hq : P (F_X8_digitHere tx_place tx_stop tx_signs) → Q (F_X8_digitHere tx_place tx_stop tx_signs)) : wp_X8_digitHere Q tx_place tx_stop tx_signs := dt_X8_digitHere h (fun o eo => by rw [eo]; exact hq)
noncomputable def F_X8_skip (tx_place : Int32) (tx_stop : Int32) : Int32 := if tx_stop ≤ tx_place then tx_place else (tx_place + 1)
set_option maxHeartbeats 200000 in
set_option maxRecDepth 10000 in
theorem dt_X8_skip {P Q : Int32 → Prop} {tx_place : Int32} {tx_stop : Int32} (h : wp_X8_skip P tx_place tx_stop) (hq : ∀ o : Int32, o = F_X8_skip tx_place tx_stop → P o → Q o) : wp_X8_skip Q tx_place tx_stop := by
  rw [F_X8_skip] at hq
  refine And.intro (fun c1 => ?_) (fun c1 => ?_)
  · have h := And.left h c1
    rw [if_pos c1] at hq
    have q9 := hq _ rfl
    exact q9 h
  · have h := And.right h c1
    rw [if_neg c1] at hq
    refine ae ?_
    have h := h _ rfl
    have q9 := hq _ rfl
    exact q9 h
theorem du_X8_skip {P Q : Int32 → Prop} {tx_place : Int32} {tx_stop : Int32} (h : wp_X8_skip P tx_place tx_stop) (hq : P (F_X8_skip tx_place tx_stop) → Q (F_X8_skip tx_place tx_stop)) : wp_X8_skip Q tx_place tx_stop := dt_X8_skip h (fun o eo => by rw [eo]; exact hq)
noncomputable def fs_X8_readNumber_18 {R : Type} (po : Int32 → Int32 → R) (tx_stop : Int32) (tx_signs : Nat → Int32) (nx : Int32 → Int32 → Int32 → Int32 → R) (x1 : Int32) (x2 : Int32) (x3 : Int32) (tx_place : Int32) : R := if x1 ≤ x3 then (po x2 tx_place) else (if (F_X8_digitHere tx_place tx_stop tx_signs) = (-1) then (po x2 tx_place) else (nx x1 ((x2 * 10) + (F_X8_digitHere tx_place tx_stop tx_signs)) (x3 + 1) (F_X8_skip tx_place tx_stop)))
set_option maxHeartbeats 200000 in
set_option maxRecDepth 10000 in
theorem dl_X8_readNumber_18 {P Q : Int32 → Int32 → Prop} {tx_stop : Int32} {tx_signs : Nat → Int32} {R : Type} {po : Int32 → Int32 → R} {d : Int32 → Int32 → Int32 → Int32 → R} : ∀ (n m : Nat) (x1 : Int32) (x2 : Int32) (x3 : Int32) (tx_place : Int32), 0 ≤ Int32.toInt x3 ∧ Int32.toInt x3 ≤ 3 ∧ Int32.toInt x1 ≤ 3 → 3 - Int32.toInt x3 < (m : Int) → wb_X8_readNumber_18 P tx_stop tx_signs n x1 x2 x3 tx_place → (∀ (b0 : Int32) (b1 : Int32), po b0 b1 = flp (fs_X8_readNumber_18 po tx_stop tx_signs) d m x1 x2 x3 tx_place → P b0 b1 → Q b0 b1) → wb_X8_readNumber_18 Q tx_stop tx_signs n x1 x2 x3 tx_place := by
  have l1 : Int32.toInt (1 : Int32) = 1 := by decide
  intro n
  induction n with
  | zero => intro m x1 x2 x3 tx_place hv hm h hq; exact False.elim h
  | succ n ih =>
    intro m x1 x2 x3 tx_place hv hm h hq
    cases m with
    | zero => exfalso; omega
    | succ m =>
      rw [flp_s, fs_X8_readNumber_18] at hq
      have h : ws_X8_readNumber_18 P (wb_X8_readNumber_18 P tx_stop tx_signs n) tx_stop tx_signs x1 x2 x3 tx_place := h
      show ws_X8_readNumber_18 Q (wb_X8_readNumber_18 Q tx_stop tx_signs n) tx_stop tx_signs x1 x2 x3 tx_place
      unfold ws_X8_readNumber_18 at h ⊢
      refine And.intro (fun c1 => ?_) (fun c1 => ?_)
      · have h := And.left h c1
        rw [if_pos c1] at hq
        have dc1 := (fa_le _ _).mp c1
        exact hq _ _ rfl h
      · have h := And.right h c1
        rw [if_neg c1] at hq
        have dc1 := mt (fa_le _ _).mpr c1
        refine du_X8_digitHere h ?_
        intro h
        refine And.intro (fun c2 => ?_) (fun c2 => ?_)
        · have h := And.left h c2
          rw [if_neg c2] at hq
          have dc2 := mt (fa_eq _ _).mpr c2
          refine ae ?_
          have h := h _ rfl
          refine ae ?_
          have h := h _ rfl
          refine du_X8_skip h ?_
          intro h
          refine ae ?_
          have h := h _ rfl
          have f9 := ta_add x3 1 (by omega)
          exact ih m _ _ _ _ (by omega) (by omega) h hq
        · have h := And.right h c2
          rw [if_pos c2] at hq
          have dc2 := (fa_eq _ _).mp c2
          exact hq _ _ rfl h
noncomputable def F_X8_readNumber (p0 : Int32) (tx_place : Int32) (tx_stop : Int32) (tx_signs : Nat → Int32) : Int32 × Int32 := if (F_X8_digitHere tx_place tx_stop tx_signs) = (-1) then ((-1), tx_place) else (flp (fs_X8_readNumber_18 (fun o0 o1 => (o0, o1)) tx_stop tx_signs) (fun _ _ _ _ => (0, 0)) 4 p0 (F_X8_digitHere tx_place tx_stop tx_signs) 1 (F_X8_skip tx_place tx_stop))
set_option maxHeartbeats 200000 in
set_option maxRecDepth 10000 in
theorem dt_X8_readNumber {P Q : Int32 → Int32 → Prop} {p0 : Int32} {tx_place : Int32} {tx_stop : Int32} {tx_signs : Nat → Int32} (hy0 : Int32.toInt p0 ≤ 3) (h : wp_X8_readNumber P p0 tx_place tx_stop tx_signs) (hq : ∀ o : Int32 × Int32, o = F_X8_readNumber p0 tx_place tx_stop tx_signs → P o.1 o.2 → Q o.1 o.2) : wp_X8_readNumber Q p0 tx_place tx_stop tx_signs := by
  rw [F_X8_readNumber] at hq
  refine du_X8_digitHere h ?_
  intro h
  refine And.intro (fun c1 => ?_) (fun c1 => ?_)
  · have h := And.left h c1
    rw [if_neg c1] at hq
    refine du_X8_skip h ?_
    intro h
    obtain ⟨n2, h⟩ := h
    exact ⟨n2, dl_X8_readNumber_18 n2 4 _ _ _ _ ⟨by decide, by decide, hy0⟩ (by decide) h (fun b0 b1 e9 h9 => hq (b0, b1) e9 h9)⟩
  · have h := And.right h c1
    rw [if_pos c1] at hq
    have q9 := hq _ rfl
    dsimp only at q9
    exact q9 h
theorem du_X8_readNumber {P Q : Int32 → Int32 → Prop} {p0 : Int32} {tx_place : Int32} {tx_stop : Int32} {tx_signs : Nat → Int32} (hy0 : Int32.toInt p0 ≤ 3) (h : wp_X8_readNumber P p0 tx_place tx_stop tx_signs) (hq : P (F_X8_readNumber p0 tx_place tx_stop tx_signs).1 (F_X8_readNumber p0 tx_place tx_stop tx_signs).2 → Q (F_X8_readNumber p0 tx_place tx_stop tx_signs).1 (F_X8_readNumber p0 tx_place tx_stop tx_signs).2) : wp_X8_readNumber Q p0 tx_place tx_stop tx_signs := dt_X8_readNumber hy0 h (fun o eo => by rw [eo]; exact hq)
noncomputable def F_X8_here (tx_place : Int32) (tx_stop : Int32) (tx_signs : Nat → Int32) : Int32 := if tx_stop ≤ tx_place then (-1) else (tx_signs tx_place.toNatClampNeg)
set_option maxHeartbeats 200000 in
set_option maxRecDepth 10000 in
theorem dt_X8_here {P Q : Int32 → Prop} {tx_place : Int32} {tx_stop : Int32} {tx_signs : Nat → Int32} (h : wp_X8_here P tx_place tx_stop tx_signs) (hq : ∀ o : Int32, o = F_X8_here tx_place tx_stop tx_signs → P o → Q o) : wp_X8_here Q tx_place tx_stop tx_signs := by
  rw [F_X8_here] at hq
  refine And.intro (fun c1 => ?_) (fun c1 => ?_)
  · have h := And.left h c1
    rw [if_pos c1] at hq
    have q9 := hq _ rfl
    exact q9 h
  · have h := And.right h c1
    rw [if_neg c1] at hq
    refine And.intro (And.left h) ?_
    have h := And.right h
    refine ae ?_
    have h := h _ rfl
    have q9 := hq _ rfl
    exact q9 h
theorem du_X8_here {P Q : Int32 → Prop} {tx_place : Int32} {tx_stop : Int32} {tx_signs : Nat → Int32} (h : wp_X8_here P tx_place tx_stop tx_signs) (hq : P (F_X8_here tx_place tx_stop tx_signs) → Q (F_X8_here tx_place tx_stop tx_signs)) : wp_X8_here Q tx_place tx_stop tx_signs := dt_X8_here h (fun o eo => by rw [eo]; exact hq)
noncomputable def F_X8_take (p0 : Int32) (tx_place : Int32) (tx_stop : Int32) (tx_signs : Nat → Int32) : Int32 × Int32 := if (F_X8_here tx_place tx_stop tx_signs) = p0 then (1, (tx_place + 1)) else (0, tx_place)
set_option maxHeartbeats 200000 in
set_option maxRecDepth 10000 in
theorem dt_X8_take {P Q : Int32 → Int32 → Prop} {p0 : Int32} {tx_place : Int32} {tx_stop : Int32} {tx_signs : Nat → Int32} (h : wp_X8_take P p0 tx_place tx_stop tx_signs) (hq : ∀ o : Int32 × Int32, o = F_X8_take p0 tx_place tx_stop tx_signs → P o.1 o.2 → Q o.1 o.2) : wp_X8_take Q p0 tx_place tx_stop tx_signs := by
  rw [F_X8_take] at hq
  refine du_X8_here h ?_
  intro h
  refine And.intro (fun c1 => ?_) (fun c1 => ?_)
  · have h := And.left h c1
    rw [if_pos c1] at hq
    refine ae ?_
    have h := h _ rfl
    have q9 := hq _ rfl
    dsimp only at q9
    exact q9 h
  · have h := And.right h c1
    rw [if_neg c1] at hq
    have q9 := hq _ rfl
    dsimp only at q9
    exact q9 h
theorem du_X8_take {P Q : Int32 → Int32 → Prop} {p0 : Int32} {tx_place : Int32} {tx_stop : Int32} {tx_signs : Nat → Int32} (h : wp_X8_take P p0 tx_place tx_stop tx_signs) (hq : P (F_X8_take p0 tx_place tx_stop tx_signs).1 (F_X8_take p0 tx_place tx_stop tx_signs).2 → Q (F_X8_take p0 tx_place tx_stop tx_signs).1 (F_X8_take p0 tx_place tx_stop tx_signs).2) : wp_X8_take Q p0 tx_place tx_stop tx_signs := dt_X8_take h (fun o eo => by rw [eo]; exact hq)
noncomputable def F_X8_open (p0 : Int32) (tx_length : Int32) (tx_place : Int32) (tx_stop : Int32) : Int32 × Int32 := (0, (if p0 < tx_length then p0 else tx_length))
set_option maxHeartbeats 200000 in
set_option maxRecDepth 10000 in
theorem dt_X8_open {P Q : Int32 → Int32 → Prop} {p0 : Int32} {tx_length : Int32} {tx_place : Int32} {tx_stop : Int32} (h : wp_X8_open P p0 tx_length tx_place tx_stop) (hq : ∀ o : Int32 × Int32, o = F_X8_open p0 tx_length tx_place tx_stop → P o.1 o.2 → Q o.1 o.2) : wp_X8_open Q p0 tx_length tx_place tx_stop := by
  rw [F_X8_open] at hq
  refine ae ?_
  have h := h _ rfl
  have q9 := hq _ rfl
  dsimp only at q9
  exact q9 h
theorem du_X8_open {P Q : Int32 → Int32 → Prop} {p0 : Int32} {tx_length : Int32} {tx_place : Int32} {tx_stop : Int32} (h : wp_X8_open P p0 tx_length tx_place tx_stop) (hq : P (F_X8_open p0 tx_length tx_place tx_stop).1 (F_X8_open p0 tx_length tx_place tx_stop).2 → Q (F_X8_open p0 tx_length tx_place tx_stop).1 (F_X8_open p0 tx_length tx_place tx_stop).2) : wp_X8_open Q p0 tx_length tx_place tx_stop := dt_X8_open h (fun o eo => by rw [eo]; exact hq)
noncomputable def F_X8_isThrough (tx_length : Int32) (tx_place : Int32) : Int32 := if tx_place = tx_length then 1 else 0
set_option maxHeartbeats 200000 in
set_option maxRecDepth 10000 in
theorem dt_X8_isThrough {P Q : Int32 → Prop} {tx_length : Int32} {tx_place : Int32} (h : wp_X8_isThrough P tx_length tx_place) (hq : ∀ o : Int32, o = F_X8_isThrough tx_length tx_place → P o → Q o) : wp_X8_isThrough Q tx_length tx_place := by
  rw [F_X8_isThrough] at hq
  refine And.intro (fun c1 => ?_) (fun c1 => ?_)
  · have h := And.left h c1
    rw [if_neg c1] at hq
    have q9 := hq _ rfl
    exact q9 h
  · have h := And.right h c1
    rw [if_pos c1] at hq
    have q9 := hq _ rfl
    exact q9 h
theorem du_X8_isThrough {P Q : Int32 → Prop} {tx_length : Int32} {tx_place : Int32} (h : wp_X8_isThrough P tx_length tx_place) (hq : P (F_X8_isThrough tx_length tx_place) → Q (F_X8_isThrough tx_length tx_place)) : wp_X8_isThrough Q tx_length tx_place := dt_X8_isThrough h (fun o eo => by rw [eo]; exact hq)
noncomputable def F_X8_clear (tx_length : Int32) : Int32 := 0
set_option maxHeartbeats 200000 in
set_option maxRecDepth 10000 in
theorem dt_X8_clear {P Q : Int32 → Prop} {tx_length : Int32} (h : wp_X8_clear P tx_length) (hq : ∀ o : Int32, o = F_X8_clear tx_length → P o → Q o) : wp_X8_clear Q tx_length := by
  rw [F_X8_clear] at hq
  have q9 := hq _ rfl
  exact q9 h
theorem du_X8_clear {P Q : Int32 → Prop} {tx_length : Int32} (h : wp_X8_clear P tx_length) (hq : P (F_X8_clear tx_length) → Q (F_X8_clear tx_length)) : wp_X8_clear Q tx_length := dt_X8_clear h (fun o eo => by rw [eo]; exact hq)
noncomputable def F_X8_wrong (tx_place : Int32) : Int32 := ((-1) - tx_place)
set_option maxHeartbeats 200000 in
set_option maxRecDepth 10000 in
theorem dt_X8_wrong {P Q : Int32 → Prop} {tx_place : Int32} (h : wp_X8_wrong P tx_place) (hq : ∀ o : Int32, o = F_X8_wrong tx_place → P o → Q o) : wp_X8_wrong Q tx_place := by
  rw [F_X8_wrong] at hq
  have q9 := hq _ rfl
  exact q9 h
theorem du_X8_wrong {P Q : Int32 → Prop} {tx_place : Int32} (h : wp_X8_wrong P tx_place) (hq : P (F_X8_wrong tx_place) → Q (F_X8_wrong tx_place)) : wp_X8_wrong Q tx_place := dt_X8_wrong h (fun o eo => by rw [eo]; exact hq)
noncomputable def F_X3_readPair (p3 : Int32) (tx_place : Int32) (tx_stop : Int32) (tx_signs : Nat → Int32) (tr_x : Nat → Int32) (tr_height : Nat → Int32) : Int32 × Int32 × (Nat → Int32) × (Nat → Int32) := if (F_X8_readNumber 2 tx_place tx_stop tx_signs).1 = (-1) then (0, (F_X8_readNumber 2 tx_place tx_stop tx_signs).2, tr_x, tr_height) else (if (F_X8_take 44 (F_X8_readNumber 2 tx_place tx_stop tx_signs).2 tx_stop tx_signs).1 = 0 then (0, (F_X8_take 44 (F_X8_readNumber 2 tx_place tx_stop tx_signs).2 tx_stop tx_signs).2, tr_x, tr_height) else (if (F_X8_readNumber 2 (F_X8_take 44 (F_X8_readNumber 2 tx_place tx_stop tx_signs).2 tx_stop tx_signs).2 tx_stop tx_signs).1 = (-1) then (0, (F_X8_readNumber 2 (F_X8_take 44 (F_X8_readNumber 2 tx_place tx_stop tx_signs).2 tx_stop tx_signs).2 tx_stop tx_signs).2, tr_x, tr_height) else (if p3 < 0 then (0, (F_X8_readNumber 2 (F_X8_take 44 (F_X8_readNumber 2 tx_place tx_stop tx_signs).2 tx_stop tx_signs).2 tx_stop tx_signs).2, tr_x, tr_height) else (if 16 ≤ p3 then (0, (F_X8_readNumber 2 (F_X8_take 44 (F_X8_readNumber 2 tx_place tx_stop tx_signs).2 tx_stop tx_signs).2 tx_stop tx_signs).2, tr_x, tr_height) else (if p3 < 16 then (1, (F_X8_readNumber 2 (F_X8_take 44 (F_X8_readNumber 2 tx_place tx_stop tx_signs).2 tx_stop tx_signs).2 tx_stop tx_signs).2, (upd tr_x p3.toNatClampNeg (F_X8_readNumber 2 tx_place tx_stop tx_signs).1), (upd tr_height p3.toNatClampNeg (F_X8_readNumber 2 (F_X8_take 44 (F_X8_readNumber 2 tx_place tx_stop tx_signs).2 tx_stop tx_signs).2 tx_stop tx_signs).1)) else (0, (F_X8_readNumber 2 (F_X8_take 44 (F_X8_readNumber 2 tx_place tx_stop tx_signs).2 tx_stop tx_signs).2 tx_stop tx_signs).2, tr_x, tr_height))))))
set_option maxHeartbeats 200000 in
set_option maxRecDepth 10000 in
theorem dt_X3_readPair {P Q : Int32 → Int32 → (Nat → Int32) → (Nat → Int32) → Prop} {p3 : Int32} {tx_place : Int32} {tx_stop : Int32} {tx_signs : Nat → Int32} {tr_x : Nat → Int32} {tr_height : Nat → Int32} (h : wp_X3_readPair P p3 tx_place tx_stop tx_signs tr_x tr_height) (hq : ∀ o : Int32 × Int32 × (Nat → Int32) × (Nat → Int32), o = F_X3_readPair p3 tx_place tx_stop tx_signs tr_x tr_height → P o.1 o.2.1 o.2.2.1 o.2.2.2 → Q o.1 o.2.1 o.2.2.1 o.2.2.2) : wp_X3_readPair Q p3 tx_place tx_stop tx_signs tr_x tr_height := by
  rw [F_X3_readPair] at hq
  refine du_X8_readNumber (by decide) h ?_
  intro h
  refine And.intro (fun c1 => ?_) (fun c1 => ?_)
  · have h := And.left h c1
    rw [if_pos c1] at hq
    have q9 := hq _ rfl
    dsimp only at q9
    exact q9 h
  · have h := And.right h c1
    rw [if_neg c1] at hq
    refine du_X8_take h ?_
    intro h
    refine And.intro (fun c2 => ?_) (fun c2 => ?_)
    · have h := And.left h c2
      rw [if_neg c2] at hq
      refine du_X8_readNumber (by decide) h ?_
      intro h
      refine And.intro (fun c3 => ?_) (fun c3 => ?_)
      · have h := And.left h c3
        rw [if_pos c3] at hq
        have q9 := hq _ rfl
        dsimp only at q9
        exact q9 h
      · have h := And.right h c3
        rw [if_neg c3] at hq
        refine And.intro (fun c4 => ?_) (fun c4 => ?_)
        · have h := And.left h c4
          rw [if_pos c4] at hq
          have q9 := hq _ rfl
          dsimp only at q9
          exact q9 h
        · have h := And.right h c4
          rw [if_neg c4] at hq
          refine And.intro (fun c5 => ?_) (fun c5 => ?_)
          · have h := And.left h c5
            rw [if_pos c5] at hq
            have q9 := hq _ rfl
            dsimp only at q9
            exact q9 h
          · have h := And.right h c5
            rw [if_neg c5] at hq
            refine And.intro (fun c6 => ?_) (fun c6 => ?_)
            · have h := And.left h c6
              rw [if_pos c6] at hq
              refine And.intro (And.left h) ?_
              have h := And.right h
              refine And.intro (And.left h) ?_
              have h := And.right h
              have q9 := hq _ rfl
              dsimp only at q9
              exact q9 h
            · have h := And.right h c6
              rw [if_neg c6] at hq
              have q9 := hq _ rfl
              dsimp only at q9
              exact q9 h
    · have h := And.right h c2
      rw [if_pos c2] at hq
      have q9 := hq _ rfl
      dsimp only at q9
      exact q9 h
theorem du_X3_readPair {P Q : Int32 → Int32 → (Nat → Int32) → (Nat → Int32) → Prop} {p3 : Int32} {tx_place : Int32} {tx_stop : Int32} {tx_signs : Nat → Int32} {tr_x : Nat → Int32} {tr_height : Nat → Int32} (h : wp_X3_readPair P p3 tx_place tx_stop tx_signs tr_x tr_height) (hq : P (F_X3_readPair p3 tx_place tx_stop tx_signs tr_x tr_height).1 (F_X3_readPair p3 tx_place tx_stop tx_signs tr_x tr_height).2.1 (F_X3_readPair p3 tx_place tx_stop tx_signs tr_x tr_height).2.2.1 (F_X3_readPair p3 tx_place tx_stop tx_signs tr_x tr_height).2.2.2 → Q (F_X3_readPair p3 tx_place tx_stop tx_signs tr_x tr_height).1 (F_X3_readPair p3 tx_place tx_stop tx_signs tr_x tr_height).2.1 (F_X3_readPair p3 tx_place tx_stop tx_signs tr_x tr_height).2.2.1 (F_X3_readPair p3 tx_place tx_stop tx_signs tr_x tr_height).2.2.2) : wp_X3_readPair Q p3 tx_place tx_stop tx_signs tr_x tr_height := dt_X3_readPair h (fun o eo => by rw [eo]; exact hq)
noncomputable def j_X3_readFruit_82 {R : Type} (po : Int32 → Int32 → Int32 → (Nat → Int32) → (Nat → Int32) → (Nat → Int32) → (Nat → Int32) → R) (tx_stop : Int32) (tx_signs : Nat → Int32) (x2 : Int32) (k1 : Int32) (k2 : Int32) (tx_place : Int32) (tr_comingFruits : Int32) (tr_x : Nat → Int32) (tr_height : Nat → Int32) (tr_worth : Nat → Int32) (tr_ripe : Nat → Int32) : R := if ((upd tr_ripe k1.toNatClampNeg k2) x2.toNatClampNeg) = (-1) then (po 0 tx_place tr_comingFruits tr_x tr_height tr_worth (upd tr_ripe k1.toNatClampNeg k2)) else (po 1 tx_place (tr_comingFruits + 1) tr_x tr_height tr_worth (upd tr_ripe k1.toNatClampNeg k2))
noncomputable def j_X3_readFruit_46 {R : Type} (po : Int32 → Int32 → Int32 → (Nat → Int32) → (Nat → Int32) → (Nat → Int32) → (Nat → Int32) → R) (tx_stop : Int32) (tx_signs : Nat → Int32) (x2 : Int32) (k1 : Int32) (k2 : Int32) (tx_place : Int32) (tr_comingFruits : Int32) (tr_x : Nat → Int32) (tr_height : Nat → Int32) (tr_worth : Nat → Int32) (tr_ripe : Nat → Int32) : R := if ((upd tr_worth k1.toNatClampNeg k2) x2.toNatClampNeg) = (-1) then (po 0 tx_place tr_comingFruits tr_x tr_height (upd tr_worth k1.toNatClampNeg k2) tr_ripe) else (if (F_X8_take 64 tx_place tx_stop tx_signs).1 = 0 then (j_X3_readFruit_82 po tx_stop tx_signs x2 x2 0 ((F_X8_take 64 tx_place tx_stop tx_signs).2) tr_comingFruits tr_x tr_height (upd tr_worth k1.toNatClampNeg k2) tr_ripe) else (j_X3_readFruit_82 po tx_stop tx_signs x2 x2 ((F_X8_readNumber 1 (F_X8_take 64 tx_place tx_stop tx_signs).2 tx_stop tx_signs).1) ((F_X8_readNumber 1 (F_X8_take 64 tx_place tx_stop tx_signs).2 tx_stop tx_signs).2) tr_comingFruits tr_x tr_height (upd tr_worth k1.toNatClampNeg k2) tr_ripe))
noncomputable def F_X3_readFruit (tx_place : Int32) (tx_stop : Int32) (tx_signs : Nat → Int32) (tr_comingFruits : Int32) (tr_x : Nat → Int32) (tr_height : Nat → Int32) (tr_worth : Nat → Int32) (tr_ripe : Nat → Int32) : Int32 × Int32 × Int32 × (Nat → Int32) × (Nat → Int32) × (Nat → Int32) × (Nat → Int32) := if (F_X3_readPair tr_comingFruits tx_place tx_stop tx_signs tr_x tr_height).1 = 0 then (0, (F_X3_readPair tr_comingFruits tx_place tx_stop tx_signs tr_x tr_height).2.1, tr_comingFruits, (F_X3_readPair tr_comingFruits tx_place tx_stop tx_signs tr_x tr_height).2.2.1, (F_X3_readPair tr_comingFruits tx_place tx_stop tx_signs tr_x tr_height).2.2.2, tr_worth, tr_ripe) else (if (F_X8_take 42 (F_X3_readPair tr_comingFruits tx_place tx_stop tx_signs tr_x tr_height).2.1 tx_stop tx_signs).1 = 0 then (j_X3_readFruit_46 (fun o0 o1 o2 o3 o4 o5 o6 => (o0, o1, o2, o3, o4, o5, o6)) tx_stop tx_signs tr_comingFruits tr_comingFruits 1 ((F_X8_take 42 (F_X3_readPair tr_comingFruits tx_place tx_stop tx_signs tr_x tr_height).2.1 tx_stop tx_signs).2) tr_comingFruits ((F_X3_readPair tr_comingFruits tx_place tx_stop tx_signs tr_x tr_height).2.2.1) ((F_X3_readPair tr_comingFruits tx_place tx_stop tx_signs tr_x tr_height).2.2.2) tr_worth tr_ripe) else (j_X3_readFruit_46 (fun o0 o1 o2 o3 o4 o5 o6 => (o0, o1, o2, o3, o4, o5, o6)) tx_stop tx_signs tr_comingFruits tr_comingFruits ((F_X8_readNumber 1 (F_X8_take 42 (F_X3_readPair tr_comingFruits tx_place tx_stop tx_signs tr_x tr_height).2.1 tx_stop tx_signs).2 tx_stop tx_signs).1) ((F_X8_readNumber 1 (F_X8_take 42 (F_X3_readPair tr_comingFruits tx_place tx_stop tx_signs tr_x tr_height).2.1 tx_stop tx_signs).2 tx_stop tx_signs).2) tr_comingFruits ((F_X3_readPair tr_comingFruits tx_place tx_stop tx_signs tr_x tr_height).2.2.1) ((F_X3_readPair tr_comingFruits tx_place tx_stop tx_signs tr_x tr_height).2.2.2) tr_worth tr_ripe))
set_option maxHeartbeats 200000 in
set_option maxRecDepth 10000 in
theorem dt_X3_readFruit {P Q : Int32 → Int32 → Int32 → (Nat → Int32) → (Nat → Int32) → (Nat → Int32) → (Nat → Int32) → Prop} {tx_place : Int32} {tx_stop : Int32} {tx_signs : Nat → Int32} {tr_comingFruits : Int32} {tr_x : Nat → Int32} {tr_height : Nat → Int32} {tr_worth : Nat → Int32} {tr_ripe : Nat → Int32} (h : wp_X3_readFruit P tx_place tx_stop tx_signs tr_comingFruits tr_x tr_height tr_worth tr_ripe) (hq : ∀ o : Int32 × Int32 × Int32 × (Nat → Int32) × (Nat → Int32) × (Nat → Int32) × (Nat → Int32), o = F_X3_readFruit tx_place tx_stop tx_signs tr_comingFruits tr_x tr_height tr_worth tr_ripe → P o.1 o.2.1 o.2.2.1 o.2.2.2.1 o.2.2.2.2.1 o.2.2.2.2.2.1 o.2.2.2.2.2.2 → Q o.1 o.2.1 o.2.2.1 o.2.2.2.1 o.2.2.2.2.1 o.2.2.2.2.2.1 o.2.2.2.2.2.2) : wp_X3_readFruit Q tx_place tx_stop tx_signs tr_comingFruits tr_x tr_height tr_worth tr_ripe := by
  rw [F_X3_readFruit] at hq
  refine du_X3_readPair h ?_
  intro h
  refine And.intro (fun c1 => ?_) (fun c1 => ?_)
  · have h := And.left h c1
    rw [if_neg c1] at hq
    refine du_X8_take h ?_
    intro h
    refine And.intro (fun c2 => ?_) (fun c2 => ?_)
    · have h := And.left h c2
      rw [if_pos c2] at hq
      rw [j_X3_readFruit_46] at hq
      unfold ws_X3_readFruit_46 at h ⊢
      refine And.intro (And.left h) ?_
      have h := And.right h
      refine And.intro (And.left h) ?_
      have h := And.right h
      refine ae ?_
      have h := h _ rfl
      refine And.intro (fun c3 => ?_) (fun c3 => ?_)
      · have h := And.left h c3
        rw [if_neg c3] at hq
        refine du_X8_take h ?_
        intro h
        refine And.intro (fun c4 => ?_) (fun c4 => ?_)
        · have h := And.left h c4
          rw [if_pos c4] at hq
          rw [j_X3_readFruit_82] at hq
          unfold ws_X3_readFruit_82 at h ⊢
          refine And.intro (And.left h) ?_
          have h := And.right h
          refine And.intro (And.left h) ?_
          have h := And.right h
          refine ae ?_
          have h := h _ rfl
          refine And.intro (fun c5 => ?_) (fun c5 => ?_)
          · have h := And.left h c5
            rw [if_neg c5] at hq
            refine ae ?_
            have h := h _ rfl
            have q9 := hq _ rfl
            dsimp only at q9
            exact q9 h
          · have h := And.right h c5
            rw [if_pos c5] at hq
            have q9 := hq _ rfl
            dsimp only at q9
            exact q9 h
        · have h := And.right h c4
          rw [if_neg c4] at hq
          refine du_X8_readNumber (by decide) h ?_
          intro h
          rw [j_X3_readFruit_82] at hq
          unfold ws_X3_readFruit_82 at h ⊢
          refine And.intro (And.left h) ?_
          have h := And.right h
          refine And.intro (And.left h) ?_
          have h := And.right h
          refine ae ?_
          have h := h _ rfl
          refine And.intro (fun c6 => ?_) (fun c6 => ?_)
          · have h := And.left h c6
            rw [if_neg c6] at hq
            refine ae ?_
            have h := h _ rfl
            have q9 := hq _ rfl
            dsimp only at q9
            exact q9 h
          · have h := And.right h c6
            rw [if_pos c6] at hq
            have q9 := hq _ rfl
            dsimp only at q9
            exact q9 h
      · have h := And.right h c3
        rw [if_pos c3] at hq
        have q9 := hq _ rfl
        dsimp only at q9
        exact q9 h
    · have h := And.right h c2
      rw [if_neg c2] at hq
      refine du_X8_readNumber (by decide) h ?_
      intro h
      rw [j_X3_readFruit_46] at hq
      unfold ws_X3_readFruit_46 at h ⊢
      refine And.intro (And.left h) ?_
      have h := And.right h
      refine And.intro (And.left h) ?_
      have h := And.right h
      refine ae ?_
      have h := h _ rfl
      refine And.intro (fun c7 => ?_) (fun c7 => ?_)
      · have h := And.left h c7
        rw [if_neg c7] at hq
        refine du_X8_take h ?_
        intro h
        refine And.intro (fun c8 => ?_) (fun c8 => ?_)
        · have h := And.left h c8
          rw [if_pos c8] at hq
          rw [j_X3_readFruit_82] at hq
          unfold ws_X3_readFruit_82 at h ⊢
          refine And.intro (And.left h) ?_
          have h := And.right h
          refine And.intro (And.left h) ?_
          have h := And.right h
          refine ae ?_
          have h := h _ rfl
          refine And.intro (fun c9 => ?_) (fun c9 => ?_)
          · have h := And.left h c9
            rw [if_neg c9] at hq
            refine ae ?_
            have h := h _ rfl
            have q9 := hq _ rfl
            dsimp only at q9
            exact q9 h
          · have h := And.right h c9
            rw [if_pos c9] at hq
            have q9 := hq _ rfl
            dsimp only at q9
            exact q9 h
        · have h := And.right h c8
          rw [if_neg c8] at hq
          refine du_X8_readNumber (by decide) h ?_
          intro h
          rw [j_X3_readFruit_82] at hq
          unfold ws_X3_readFruit_82 at h ⊢
          refine And.intro (And.left h) ?_
          have h := And.right h
          refine And.intro (And.left h) ?_
          have h := And.right h
          refine ae ?_
          have h := h _ rfl
          refine And.intro (fun c10 => ?_) (fun c10 => ?_)
          · have h := And.left h c10
            rw [if_neg c10] at hq
            refine ae ?_
            have h := h _ rfl
            have q9 := hq _ rfl
            dsimp only at q9
            exact q9 h
          · have h := And.right h c10
            rw [if_pos c10] at hq
            have q9 := hq _ rfl
            dsimp only at q9
            exact q9 h
      · have h := And.right h c7
        rw [if_pos c7] at hq
        have q9 := hq _ rfl
        dsimp only at q9
        exact q9 h
  · have h := And.right h c1
    rw [if_pos c1] at hq
    have q9 := hq _ rfl
    dsimp only at q9
    exact q9 h
theorem du_X3_readFruit {P Q : Int32 → Int32 → Int32 → (Nat → Int32) → (Nat → Int32) → (Nat → Int32) → (Nat → Int32) → Prop} {tx_place : Int32} {tx_stop : Int32} {tx_signs : Nat → Int32} {tr_comingFruits : Int32} {tr_x : Nat → Int32} {tr_height : Nat → Int32} {tr_worth : Nat → Int32} {tr_ripe : Nat → Int32} (h : wp_X3_readFruit P tx_place tx_stop tx_signs tr_comingFruits tr_x tr_height tr_worth tr_ripe) (hq : P (F_X3_readFruit tx_place tx_stop tx_signs tr_comingFruits tr_x tr_height tr_worth tr_ripe).1 (F_X3_readFruit tx_place tx_stop tx_signs tr_comingFruits tr_x tr_height tr_worth tr_ripe).2.1 (F_X3_readFruit tx_place tx_stop tx_signs tr_comingFruits tr_x tr_height tr_worth tr_ripe).2.2.1 (F_X3_readFruit tx_place tx_stop tx_signs tr_comingFruits tr_x tr_height tr_worth tr_ripe).2.2.2.1 (F_X3_readFruit tx_place tx_stop tx_signs tr_comingFruits tr_x tr_height tr_worth tr_ripe).2.2.2.2.1 (F_X3_readFruit tx_place tx_stop tx_signs tr_comingFruits tr_x tr_height tr_worth tr_ripe).2.2.2.2.2.1 (F_X3_readFruit tx_place tx_stop tx_signs tr_comingFruits tr_x tr_height tr_worth tr_ripe).2.2.2.2.2.2 → Q (F_X3_readFruit tx_place tx_stop tx_signs tr_comingFruits tr_x tr_height tr_worth tr_ripe).1 (F_X3_readFruit tx_place tx_stop tx_signs tr_comingFruits tr_x tr_height tr_worth tr_ripe).2.1 (F_X3_readFruit tx_place tx_stop tx_signs tr_comingFruits tr_x tr_height tr_worth tr_ripe).2.2.1 (F_X3_readFruit tx_place tx_stop tx_signs tr_comingFruits tr_x tr_height tr_worth tr_ripe).2.2.2.1 (F_X3_readFruit tx_place tx_stop tx_signs tr_comingFruits tr_x tr_height tr_worth tr_ripe).2.2.2.2.1 (F_X3_readFruit tx_place tx_stop tx_signs tr_comingFruits tr_x tr_height tr_worth tr_ripe).2.2.2.2.2.1 (F_X3_readFruit tx_place tx_stop tx_signs tr_comingFruits tr_x tr_height tr_worth tr_ripe).2.2.2.2.2.2) : wp_X3_readFruit Q tx_place tx_stop tx_signs tr_comingFruits tr_x tr_height tr_worth tr_ripe := dt_X3_readFruit h (fun o eo => by rw [eo]; exact hq)
noncomputable def F_X3_readPair_b2 (p3 : Int32) (tx_place : Int32) (tx_stop : Int32) (tx_signs : Nat → Int32) (tr_foot : Nat → Int32) (tr_fork : Nat → Int32) : Int32 × Int32 × (Nat → Int32) × (Nat → Int32) := if (F_X8_readNumber 2 tx_place tx_stop tx_signs).1 = (-1) then (0, (F_X8_readNumber 2 tx_place tx_stop tx_signs).2, tr_foot, tr_fork) else (if (F_X8_take 44 (F_X8_readNumber 2 tx_place tx_stop tx_signs).2 tx_stop tx_signs).1 = 0 then (0, (F_X8_take 44 (F_X8_readNumber 2 tx_place tx_stop tx_signs).2 tx_stop tx_signs).2, tr_foot, tr_fork) else (if (F_X8_readNumber 2 (F_X8_take 44 (F_X8_readNumber 2 tx_place tx_stop tx_signs).2 tx_stop tx_signs).2 tx_stop tx_signs).1 = (-1) then (0, (F_X8_readNumber 2 (F_X8_take 44 (F_X8_readNumber 2 tx_place tx_stop tx_signs).2 tx_stop tx_signs).2 tx_stop tx_signs).2, tr_foot, tr_fork) else (if p3 < 0 then (0, (F_X8_readNumber 2 (F_X8_take 44 (F_X8_readNumber 2 tx_place tx_stop tx_signs).2 tx_stop tx_signs).2 tx_stop tx_signs).2, tr_foot, tr_fork) else (if 8 ≤ p3 then (0, (F_X8_readNumber 2 (F_X8_take 44 (F_X8_readNumber 2 tx_place tx_stop tx_signs).2 tx_stop tx_signs).2 tx_stop tx_signs).2, tr_foot, tr_fork) else (if p3 < 8 then (1, (F_X8_readNumber 2 (F_X8_take 44 (F_X8_readNumber 2 tx_place tx_stop tx_signs).2 tx_stop tx_signs).2 tx_stop tx_signs).2, (upd tr_foot p3.toNatClampNeg (F_X8_readNumber 2 tx_place tx_stop tx_signs).1), (upd tr_fork p3.toNatClampNeg (F_X8_readNumber 2 (F_X8_take 44 (F_X8_readNumber 2 tx_place tx_stop tx_signs).2 tx_stop tx_signs).2 tx_stop tx_signs).1)) else (0, (F_X8_readNumber 2 (F_X8_take 44 (F_X8_readNumber 2 tx_place tx_stop tx_signs).2 tx_stop tx_signs).2 tx_stop tx_signs).2, tr_foot, tr_fork))))))
set_option maxHeartbeats 200000 in
set_option maxRecDepth 10000 in
theorem dt_X3_readPair_b2 {P Q : Int32 → Int32 → (Nat → Int32) → (Nat → Int32) → Prop} {p3 : Int32} {tx_place : Int32} {tx_stop : Int32} {tx_signs : Nat → Int32} {tr_foot : Nat → Int32} {tr_fork : Nat → Int32} (h : wp_X3_readPair_b2 P p3 tx_place tx_stop tx_signs tr_foot tr_fork) (hq : ∀ o : Int32 × Int32 × (Nat → Int32) × (Nat → Int32), o = F_X3_readPair_b2 p3 tx_place tx_stop tx_signs tr_foot tr_fork → P o.1 o.2.1 o.2.2.1 o.2.2.2 → Q o.1 o.2.1 o.2.2.1 o.2.2.2) : wp_X3_readPair_b2 Q p3 tx_place tx_stop tx_signs tr_foot tr_fork := by
  rw [F_X3_readPair_b2] at hq
  refine du_X8_readNumber (by decide) h ?_
  intro h
  refine And.intro (fun c1 => ?_) (fun c1 => ?_)
  · have h := And.left h c1
    rw [if_pos c1] at hq
    have q9 := hq _ rfl
    dsimp only at q9
    exact q9 h
  · have h := And.right h c1
    rw [if_neg c1] at hq
    refine du_X8_take h ?_
    intro h
    refine And.intro (fun c2 => ?_) (fun c2 => ?_)
    · have h := And.left h c2
      rw [if_neg c2] at hq
      refine du_X8_readNumber (by decide) h ?_
      intro h
      refine And.intro (fun c3 => ?_) (fun c3 => ?_)
      · have h := And.left h c3
        rw [if_pos c3] at hq
        have q9 := hq _ rfl
        dsimp only at q9
        exact q9 h
      · have h := And.right h c3
        rw [if_neg c3] at hq
        refine And.intro (fun c4 => ?_) (fun c4 => ?_)
        · have h := And.left h c4
          rw [if_pos c4] at hq
          have q9 := hq _ rfl
          dsimp only at q9
          exact q9 h
        · have h := And.right h c4
          rw [if_neg c4] at hq
          refine And.intro (fun c5 => ?_) (fun c5 => ?_)
          · have h := And.left h c5
            rw [if_pos c5] at hq
            have q9 := hq _ rfl
            dsimp only at q9
            exact q9 h
          · have h := And.right h c5
            rw [if_neg c5] at hq
            refine And.intro (fun c6 => ?_) (fun c6 => ?_)
            · have h := And.left h c6
              rw [if_pos c6] at hq
              refine And.intro (And.left h) ?_
              have h := And.right h
              refine And.intro (And.left h) ?_
              have h := And.right h
              have q9 := hq _ rfl
              dsimp only at q9
              exact q9 h
            · have h := And.right h c6
              rw [if_neg c6] at hq
              have q9 := hq _ rfl
              dsimp only at q9
              exact q9 h
    · have h := And.right h c2
      rw [if_pos c2] at hq
      have q9 := hq _ rfl
      dsimp only at q9
      exact q9 h
theorem du_X3_readPair_b2 {P Q : Int32 → Int32 → (Nat → Int32) → (Nat → Int32) → Prop} {p3 : Int32} {tx_place : Int32} {tx_stop : Int32} {tx_signs : Nat → Int32} {tr_foot : Nat → Int32} {tr_fork : Nat → Int32} (h : wp_X3_readPair_b2 P p3 tx_place tx_stop tx_signs tr_foot tr_fork) (hq : P (F_X3_readPair_b2 p3 tx_place tx_stop tx_signs tr_foot tr_fork).1 (F_X3_readPair_b2 p3 tx_place tx_stop tx_signs tr_foot tr_fork).2.1 (F_X3_readPair_b2 p3 tx_place tx_stop tx_signs tr_foot tr_fork).2.2.1 (F_X3_readPair_b2 p3 tx_place tx_stop tx_signs tr_foot tr_fork).2.2.2 → Q (F_X3_readPair_b2 p3 tx_place tx_stop tx_signs tr_foot tr_fork).1 (F_X3_readPair_b2 p3 tx_place tx_stop tx_signs tr_foot tr_fork).2.1 (F_X3_readPair_b2 p3 tx_place tx_stop tx_signs tr_foot tr_fork).2.2.1 (F_X3_readPair_b2 p3 tx_place tx_stop tx_signs tr_foot tr_fork).2.2.2) : wp_X3_readPair_b2 Q p3 tx_place tx_stop tx_signs tr_foot tr_fork := dt_X3_readPair_b2 h (fun o eo => by rw [eo]; exact hq)
noncomputable def F_X3_readStanding (tx_place : Int32) (tx_stop : Int32) (tx_signs : Nat → Int32) (tr_comingStandings : Int32) (tr_foot : Nat → Int32) (tr_fork : Nat → Int32) : Int32 × Int32 × Int32 × (Nat → Int32) × (Nat → Int32) := if (F_X3_readPair_b2 tr_comingStandings tx_place tx_stop tx_signs tr_foot tr_fork).1 = 0 then (0, (F_X3_readPair_b2 tr_comingStandings tx_place tx_stop tx_signs tr_foot tr_fork).2.1, tr_comingStandings, (F_X3_readPair_b2 tr_comingStandings tx_place tx_stop tx_signs tr_foot tr_fork).2.2.1, (F_X3_readPair_b2 tr_comingStandings tx_place tx_stop tx_signs tr_foot tr_fork).2.2.2) else (1, (F_X3_readPair_b2 tr_comingStandings tx_place tx_stop tx_signs tr_foot tr_fork).2.1, (tr_comingStandings + 1), (F_X3_readPair_b2 tr_comingStandings tx_place tx_stop tx_signs tr_foot tr_fork).2.2.1, (F_X3_readPair_b2 tr_comingStandings tx_place tx_stop tx_signs tr_foot tr_fork).2.2.2)
set_option maxHeartbeats 200000 in
set_option maxRecDepth 10000 in
theorem dt_X3_readStanding {P Q : Int32 → Int32 → Int32 → (Nat → Int32) → (Nat → Int32) → Prop} {tx_place : Int32} {tx_stop : Int32} {tx_signs : Nat → Int32} {tr_comingStandings : Int32} {tr_foot : Nat → Int32} {tr_fork : Nat → Int32} (h : wp_X3_readStanding P tx_place tx_stop tx_signs tr_comingStandings tr_foot tr_fork) (hq : ∀ o : Int32 × Int32 × Int32 × (Nat → Int32) × (Nat → Int32), o = F_X3_readStanding tx_place tx_stop tx_signs tr_comingStandings tr_foot tr_fork → P o.1 o.2.1 o.2.2.1 o.2.2.2.1 o.2.2.2.2 → Q o.1 o.2.1 o.2.2.1 o.2.2.2.1 o.2.2.2.2) : wp_X3_readStanding Q tx_place tx_stop tx_signs tr_comingStandings tr_foot tr_fork := by
  rw [F_X3_readStanding] at hq
  refine du_X3_readPair_b2 h ?_
  intro h
  refine And.intro (fun c1 => ?_) (fun c1 => ?_)
  · have h := And.left h c1
    rw [if_neg c1] at hq
    refine ae ?_
    have h := h _ rfl
    have q9 := hq _ rfl
    dsimp only at q9
    exact q9 h
  · have h := And.right h c1
    rw [if_pos c1] at hq
    have q9 := hq _ rfl
    dsimp only at q9
    exact q9 h
theorem du_X3_readStanding {P Q : Int32 → Int32 → Int32 → (Nat → Int32) → (Nat → Int32) → Prop} {tx_place : Int32} {tx_stop : Int32} {tx_signs : Nat → Int32} {tr_comingStandings : Int32} {tr_foot : Nat → Int32} {tr_fork : Nat → Int32} (h : wp_X3_readStanding P tx_place tx_stop tx_signs tr_comingStandings tr_foot tr_fork) (hq : P (F_X3_readStanding tx_place tx_stop tx_signs tr_comingStandings tr_foot tr_fork).1 (F_X3_readStanding tx_place tx_stop tx_signs tr_comingStandings tr_foot tr_fork).2.1 (F_X3_readStanding tx_place tx_stop tx_signs tr_comingStandings tr_foot tr_fork).2.2.1 (F_X3_readStanding tx_place tx_stop tx_signs tr_comingStandings tr_foot tr_fork).2.2.2.1 (F_X3_readStanding tx_place tx_stop tx_signs tr_comingStandings tr_foot tr_fork).2.2.2.2 → Q (F_X3_readStanding tx_place tx_stop tx_signs tr_comingStandings tr_foot tr_fork).1 (F_X3_readStanding tx_place tx_stop tx_signs tr_comingStandings tr_foot tr_fork).2.1 (F_X3_readStanding tx_place tx_stop tx_signs tr_comingStandings tr_foot tr_fork).2.2.1 (F_X3_readStanding tx_place tx_stop tx_signs tr_comingStandings tr_foot tr_fork).2.2.2.1 (F_X3_readStanding tx_place tx_stop tx_signs tr_comingStandings tr_foot tr_fork).2.2.2.2) : wp_X3_readStanding Q tx_place tx_stop tx_signs tr_comingStandings tr_foot tr_fork := dt_X3_readStanding h (fun o eo => by rw [eo]; exact hq)
noncomputable def j_X3_readLine_28 {R : Type} (po : Int32 → Int32 → Int32 → Int32 → (Nat → Int32) → (Nat → Int32) → (Nat → Int32) → (Nat → Int32) → (Nat → Int32) → (Nat → Int32) → R) (tx_stop : Int32) (tx_signs : Nat → Int32) (tx_place : Int32) (tr_comingFruits : Int32) (tr_comingStandings : Int32) (tr_x : Nat → Int32) (tr_height : Nat → Int32) (tr_worth : Nat → Int32) (tr_ripe : Nat → Int32) (tr_foot : Nat → Int32) (tr_fork : Nat → Int32) : R := if (F_X8_here tx_place tx_stop tx_signs) = 115 then (if 8 ≤ tr_comingStandings then (po 0 tx_place tr_comingFruits tr_comingStandings tr_x tr_height tr_worth tr_ripe tr_foot tr_fork) else (po ((F_X3_readStanding (F_X8_skip tx_place tx_stop) tx_stop tx_signs tr_comingStandings tr_foot tr_fork).1) ((F_X3_readStanding (F_X8_skip tx_place tx_stop) tx_stop tx_signs tr_comingStandings tr_foot tr_fork).2.1) tr_comingFruits ((F_X3_readStanding (F_X8_skip tx_place tx_stop) tx_stop tx_signs tr_comingStandings tr_foot tr_fork).2.2.1) tr_x tr_height tr_worth tr_ripe ((F_X3_readStanding (F_X8_skip tx_place tx_stop) tx_stop tx_signs tr_comingStandings tr_foot tr_fork).2.2.2.1) ((F_X3_readStanding (F_X8_skip tx_place tx_stop) tx_stop tx_signs tr_comingStandings tr_foot tr_fork).2.2.2.2))) else (po 0 tx_place tr_comingFruits tr_comingStandings tr_x tr_height tr_worth tr_ripe tr_foot tr_fork)
noncomputable def F_X3_readLine (tx_place : Int32) (tx_stop : Int32) (tx_signs : Nat → Int32) (tr_comingFruits : Int32) (tr_comingStandings : Int32) (tr_x : Nat → Int32) (tr_height : Nat → Int32) (tr_worth : Nat → Int32) (tr_ripe : Nat → Int32) (tr_foot : Nat → Int32) (tr_fork : Nat → Int32) : Int32 × Int32 × Int32 × Int32 × (Nat → Int32) × (Nat → Int32) × (Nat → Int32) × (Nat → Int32) × (Nat → Int32) × (Nat → Int32) := if (F_X8_here tx_place tx_stop tx_signs) = 102 then (if 16 ≤ tr_comingFruits then (j_X3_readLine_28 (fun o0 o1 o2 o3 o4 o5 o6 o7 o8 o9 => (o0, o1, o2, o3, o4, o5, o6, o7, o8, o9)) tx_stop tx_signs tx_place tr_comingFruits tr_comingStandings tr_x tr_height tr_worth tr_ripe tr_foot tr_fork) else ((F_X3_readFruit (F_X8_skip tx_place tx_stop) tx_stop tx_signs tr_comingFruits tr_x tr_height tr_worth tr_ripe).1, (F_X3_readFruit (F_X8_skip tx_place tx_stop) tx_stop tx_signs tr_comingFruits tr_x tr_height tr_worth tr_ripe).2.1, (F_X3_readFruit (F_X8_skip tx_place tx_stop) tx_stop tx_signs tr_comingFruits tr_x tr_height tr_worth tr_ripe).2.2.1, tr_comingStandings, (F_X3_readFruit (F_X8_skip tx_place tx_stop) tx_stop tx_signs tr_comingFruits tr_x tr_height tr_worth tr_ripe).2.2.2.1, (F_X3_readFruit (F_X8_skip tx_place tx_stop) tx_stop tx_signs tr_comingFruits tr_x tr_height tr_worth tr_ripe).2.2.2.2.1, (F_X3_readFruit (F_X8_skip tx_place tx_stop) tx_stop tx_signs tr_comingFruits tr_x tr_height tr_worth tr_ripe).2.2.2.2.2.1, (F_X3_readFruit (F_X8_skip tx_place tx_stop) tx_stop tx_signs tr_comingFruits tr_x tr_height tr_worth tr_ripe).2.2.2.2.2.2, tr_foot, tr_fork)) else (j_X3_readLine_28 (fun o0 o1 o2 o3 o4 o5 o6 o7 o8 o9 => (o0, o1, o2, o3, o4, o5, o6, o7, o8, o9)) tx_stop tx_signs tx_place tr_comingFruits tr_comingStandings tr_x tr_height tr_worth tr_ripe tr_foot tr_fork)
set_option maxHeartbeats 200000 in
set_option maxRecDepth 10000 in
theorem dt_X3_readLine {P Q : Int32 → Int32 → Int32 → Int32 → (Nat → Int32) → (Nat → Int32) → (Nat → Int32) → (Nat → Int32) → (Nat → Int32) → (Nat → Int32) → Prop} {tx_place : Int32} {tx_stop : Int32} {tx_signs : Nat → Int32} {tr_comingFruits : Int32} {tr_comingStandings : Int32} {tr_x : Nat → Int32} {tr_height : Nat → Int32} {tr_worth : Nat → Int32} {tr_ripe : Nat → Int32} {tr_foot : Nat → Int32} {tr_fork : Nat → Int32} (h : wp_X3_readLine P tx_place tx_stop tx_signs tr_comingFruits tr_comingStandings tr_x tr_height tr_worth tr_ripe tr_foot tr_fork) (hq : ∀ o : Int32 × Int32 × Int32 × Int32 × (Nat → Int32) × (Nat → Int32) × (Nat → Int32) × (Nat → Int32) × (Nat → Int32) × (Nat → Int32), o = F_X3_readLine tx_place tx_stop tx_signs tr_comingFruits tr_comingStandings tr_x tr_height tr_worth tr_ripe tr_foot tr_fork → P o.1 o.2.1 o.2.2.1 o.2.2.2.1 o.2.2.2.2.1 o.2.2.2.2.2.1 o.2.2.2.2.2.2.1 o.2.2.2.2.2.2.2.1 o.2.2.2.2.2.2.2.2.1 o.2.2.2.2.2.2.2.2.2 → Q o.1 o.2.1 o.2.2.1 o.2.2.2.1 o.2.2.2.2.1 o.2.2.2.2.2.1 o.2.2.2.2.2.2.1 o.2.2.2.2.2.2.2.1 o.2.2.2.2.2.2.2.2.1 o.2.2.2.2.2.2.2.2.2) : wp_X3_readLine Q tx_place tx_stop tx_signs tr_comingFruits tr_comingStandings tr_x tr_height tr_worth tr_ripe tr_foot tr_fork := by
  rw [F_X3_readLine] at hq
  refine du_X8_here h ?_
  intro h
  refine And.intro (fun c1 => ?_) (fun c1 => ?_)
  · have h := And.left h c1
    rw [if_neg c1] at hq
    rw [j_X3_readLine_28] at hq
    unfold ws_X3_readLine_28 at h ⊢
    refine du_X8_here h ?_
    intro h
    refine And.intro (fun c2 => ?_) (fun c2 => ?_)
    · have h := And.left h c2
      rw [if_neg c2] at hq
      have q9 := hq _ rfl
      dsimp only at q9
      exact q9 h
    · have h := And.right h c2
      rw [if_pos c2] at hq
      refine And.intro (fun c3 => ?_) (fun c3 => ?_)
      · have h := And.left h c3
        rw [if_pos c3] at hq
        have q9 := hq _ rfl
        dsimp only at q9
        exact q9 h
      · have h := And.right h c3
        rw [if_neg c3] at hq
        refine du_X8_skip h ?_
        intro h
        refine du_X3_readStanding h ?_
        intro h
        refine And.intro (And.left h) ?_
        have h := And.right h
        have q9 := hq _ rfl
        dsimp only at q9
        exact q9 h
  · have h := And.right h c1
    rw [if_pos c1] at hq
    refine And.intro (fun c4 => ?_) (fun c4 => ?_)
    · have h := And.left h c4
      rw [if_pos c4] at hq
      rw [j_X3_readLine_28] at hq
      unfold ws_X3_readLine_28 at h ⊢
      refine du_X8_here h ?_
      intro h
      refine And.intro (fun c5 => ?_) (fun c5 => ?_)
      · have h := And.left h c5
        rw [if_neg c5] at hq
        have q9 := hq _ rfl
        dsimp only at q9
        exact q9 h
      · have h := And.right h c5
        rw [if_pos c5] at hq
        refine And.intro (fun c6 => ?_) (fun c6 => ?_)
        · have h := And.left h c6
          rw [if_pos c6] at hq
          have q9 := hq _ rfl
          dsimp only at q9
          exact q9 h
        · have h := And.right h c6
          rw [if_neg c6] at hq
          refine du_X8_skip h ?_
          intro h
          refine du_X3_readStanding h ?_
          intro h
          refine And.intro (And.left h) ?_
          have h := And.right h
          have q9 := hq _ rfl
          dsimp only at q9
          exact q9 h
    · have h := And.right h c4
      rw [if_neg c4] at hq
      refine du_X8_skip h ?_
      intro h
      refine du_X3_readFruit h ?_
      intro h
      refine And.intro (And.left h) ?_
      have h := And.right h
      have q9 := hq _ rfl
      dsimp only at q9
      exact q9 h
theorem du_X3_readLine {P Q : Int32 → Int32 → Int32 → Int32 → (Nat → Int32) → (Nat → Int32) → (Nat → Int32) → (Nat → Int32) → (Nat → Int32) → (Nat → Int32) → Prop} {tx_place : Int32} {tx_stop : Int32} {tx_signs : Nat → Int32} {tr_comingFruits : Int32} {tr_comingStandings : Int32} {tr_x : Nat → Int32} {tr_height : Nat → Int32} {tr_worth : Nat → Int32} {tr_ripe : Nat → Int32} {tr_foot : Nat → Int32} {tr_fork : Nat → Int32} (h : wp_X3_readLine P tx_place tx_stop tx_signs tr_comingFruits tr_comingStandings tr_x tr_height tr_worth tr_ripe tr_foot tr_fork) (hq : P (F_X3_readLine tx_place tx_stop tx_signs tr_comingFruits tr_comingStandings tr_x tr_height tr_worth tr_ripe tr_foot tr_fork).1 (F_X3_readLine tx_place tx_stop tx_signs tr_comingFruits tr_comingStandings tr_x tr_height tr_worth tr_ripe tr_foot tr_fork).2.1 (F_X3_readLine tx_place tx_stop tx_signs tr_comingFruits tr_comingStandings tr_x tr_height tr_worth tr_ripe tr_foot tr_fork).2.2.1 (F_X3_readLine tx_place tx_stop tx_signs tr_comingFruits tr_comingStandings tr_x tr_height tr_worth tr_ripe tr_foot tr_fork).2.2.2.1 (F_X3_readLine tx_place tx_stop tx_signs tr_comingFruits tr_comingStandings tr_x tr_height tr_worth tr_ripe tr_foot tr_fork).2.2.2.2.1 (F_X3_readLine tx_place tx_stop tx_signs tr_comingFruits tr_comingStandings tr_x tr_height tr_worth tr_ripe tr_foot tr_fork).2.2.2.2.2.1 (F_X3_readLine tx_place tx_stop tx_signs tr_comingFruits tr_comingStandings tr_x tr_height tr_worth tr_ripe tr_foot tr_fork).2.2.2.2.2.2.1 (F_X3_readLine tx_place tx_stop tx_signs tr_comingFruits tr_comingStandings tr_x tr_height tr_worth tr_ripe tr_foot tr_fork).2.2.2.2.2.2.2.1 (F_X3_readLine tx_place tx_stop tx_signs tr_comingFruits tr_comingStandings tr_x tr_height tr_worth tr_ripe tr_foot tr_fork).2.2.2.2.2.2.2.2.1 (F_X3_readLine tx_place tx_stop tx_signs tr_comingFruits tr_comingStandings tr_x tr_height tr_worth tr_ripe tr_foot tr_fork).2.2.2.2.2.2.2.2.2 → Q (F_X3_readLine tx_place tx_stop tx_signs tr_comingFruits tr_comingStandings tr_x tr_height tr_worth tr_ripe tr_foot tr_fork).1 (F_X3_readLine tx_place tx_stop tx_signs tr_comingFruits tr_comingStandings tr_x tr_height tr_worth tr_ripe tr_foot tr_fork).2.1 (F_X3_readLine tx_place tx_stop tx_signs tr_comingFruits tr_comingStandings tr_x tr_height tr_worth tr_ripe tr_foot tr_fork).2.2.1 (F_X3_readLine tx_place tx_stop tx_signs tr_comingFruits tr_comingStandings tr_x tr_height tr_worth tr_ripe tr_foot tr_fork).2.2.2.1 (F_X3_readLine tx_place tx_stop tx_signs tr_comingFruits tr_comingStandings tr_x tr_height tr_worth tr_ripe tr_foot tr_fork).2.2.2.2.1 (F_X3_readLine tx_place tx_stop tx_signs tr_comingFruits tr_comingStandings tr_x tr_height tr_worth tr_ripe tr_foot tr_fork).2.2.2.2.2.1 (F_X3_readLine tx_place tx_stop tx_signs tr_comingFruits tr_comingStandings tr_x tr_height tr_worth tr_ripe tr_foot tr_fork).2.2.2.2.2.2.1 (F_X3_readLine tx_place tx_stop tx_signs tr_comingFruits tr_comingStandings tr_x tr_height tr_worth tr_ripe tr_foot tr_fork).2.2.2.2.2.2.2.1 (F_X3_readLine tx_place tx_stop tx_signs tr_comingFruits tr_comingStandings tr_x tr_height tr_worth tr_ripe tr_foot tr_fork).2.2.2.2.2.2.2.2.1 (F_X3_readLine tx_place tx_stop tx_signs tr_comingFruits tr_comingStandings tr_x tr_height tr_worth tr_ripe tr_foot tr_fork).2.2.2.2.2.2.2.2.2) : wp_X3_readLine Q tx_place tx_stop tx_signs tr_comingFruits tr_comingStandings tr_x tr_height tr_worth tr_ripe tr_foot tr_fork := dt_X3_readLine h (fun o eo => by rw [eo]; exact hq)
noncomputable def fs_X3_readLines_18 {R : Type} (po : Int32 → Int32 → Int32 → Int32 → (Nat → Int32) → (Nat → Int32) → (Nat → Int32) → (Nat → Int32) → (Nat → Int32) → (Nat → Int32) → R) (tx_stop : Int32) (tx_signs : Nat → Int32) (tr_fruits : Int32) (tr_standings : Int32) (nx : Int32 → Int32 → Int32 → Int32 → (Nat → Int32) → (Nat → Int32) → (Nat → Int32) → (Nat → Int32) → (Nat → Int32) → (Nat → Int32) → R) (x2 : Int32) (tx_place : Int32) (tr_comingFruits : Int32) (tr_comingStandings : Int32) (tr_x : Nat → Int32) (tr_height : Nat → Int32) (tr_worth : Nat → Int32) (tr_ripe : Nat → Int32) (tr_foot : Nat → Int32) (tr_fork : Nat → Int32) : R := if 76 < x2 then (po (-1) tx_place tr_comingFruits tr_comingStandings tr_x tr_height tr_worth tr_ripe tr_foot tr_fork) else (if (F_X3_readLine tx_place tx_stop tx_signs tr_comingFruits tr_comingStandings tr_x tr_height tr_worth tr_ripe tr_foot tr_fork).1 = 0 then (po (-1) ((F_X3_readLine tx_place tx_stop tx_signs tr_comingFruits tr_comingStandings tr_x tr_height tr_worth tr_ripe tr_foot tr_fork).2.1) ((F_X3_readLine tx_place tx_stop tx_signs tr_comingFruits tr_comingStandings tr_x tr_height tr_worth tr_ripe tr_foot tr_fork).2.2.1) ((F_X3_readLine tx_place tx_stop tx_signs tr_comingFruits tr_comingStandings tr_x tr_height tr_worth tr_ripe tr_foot tr_fork).2.2.2.1) ((F_X3_readLine tx_place tx_stop tx_signs tr_comingFruits tr_comingStandings tr_x tr_height tr_worth tr_ripe tr_foot tr_fork).2.2.2.2.1) ((F_X3_readLine tx_place tx_stop tx_signs tr_comingFruits tr_comingStandings tr_x tr_height tr_worth tr_ripe tr_foot tr_fork).2.2.2.2.2.1) ((F_X3_readLine tx_place tx_stop tx_signs tr_comingFruits tr_comingStandings tr_x tr_height tr_worth tr_ripe tr_foot tr_fork).2.2.2.2.2.2.1) ((F_X3_readLine tx_place tx_stop tx_signs tr_comingFruits tr_comingStandings tr_x tr_height tr_worth tr_ripe tr_foot tr_fork).2.2.2.2.2.2.2.1) ((F_X3_readLine tx_place tx_stop tx_signs tr_comingFruits tr_comingStandings tr_x tr_height tr_worth tr_ripe tr_foot tr_fork).2.2.2.2.2.2.2.2.1) ((F_X3_readLine tx_place tx_stop tx_signs tr_comingFruits tr_comingStandings tr_x tr_height tr_worth tr_ripe tr_foot tr_fork).2.2.2.2.2.2.2.2.2)) else (if (F_X8_take 59 (F_X3_readLine tx_place tx_stop tx_signs tr_comingFruits tr_comingStandings tr_x tr_height tr_worth tr_ripe tr_foot tr_fork).2.1 tx_stop tx_signs).1 = 0 then (po x2 ((F_X8_take 59 (F_X3_readLine tx_place tx_stop tx_signs tr_comingFruits tr_comingStandings tr_x tr_height tr_worth tr_ripe tr_foot tr_fork).2.1 tx_stop tx_signs).2) ((F_X3_readLine tx_place tx_stop tx_signs tr_comingFruits tr_comingStandings tr_x tr_height tr_worth tr_ripe tr_foot tr_fork).2.2.1) ((F_X3_readLine tx_place tx_stop tx_signs tr_comingFruits tr_comingStandings tr_x tr_height tr_worth tr_ripe tr_foot tr_fork).2.2.2.1) ((F_X3_readLine tx_place tx_stop tx_signs tr_comingFruits tr_comingStandings tr_x tr_height tr_worth tr_ripe tr_foot tr_fork).2.2.2.2.1) ((F_X3_readLine tx_place tx_stop tx_signs tr_comingFruits tr_comingStandings tr_x tr_height tr_worth tr_ripe tr_foot tr_fork).2.2.2.2.2.1) ((F_X3_readLine tx_place tx_stop tx_signs tr_comingFruits tr_comingStandings tr_x tr_height tr_worth tr_ripe tr_foot tr_fork).2.2.2.2.2.2.1) ((F_X3_readLine tx_place tx_stop tx_signs tr_comingFruits tr_comingStandings tr_x tr_height tr_worth tr_ripe tr_foot tr_fork).2.2.2.2.2.2.2.1) ((F_X3_readLine tx_place tx_stop tx_signs tr_comingFruits tr_comingStandings tr_x tr_height tr_worth tr_ripe tr_foot tr_fork).2.2.2.2.2.2.2.2.1) ((F_X3_readLine tx_place tx_stop tx_signs tr_comingFruits tr_comingStandings tr_x tr_height tr_worth tr_ripe tr_foot tr_fork).2.2.2.2.2.2.2.2.2)) else (nx (x2 + 1) ((F_X8_take 59 (F_X3_readLine tx_place tx_stop tx_signs tr_comingFruits tr_comingStandings tr_x tr_height tr_worth tr_ripe tr_foot tr_fork).2.1 tx_stop tx_signs).2) ((F_X3_readLine tx_place tx_stop tx_signs tr_comingFruits tr_comingStandings tr_x tr_height tr_worth tr_ripe tr_foot tr_fork).2.2.1) ((F_X3_readLine tx_place tx_stop tx_signs tr_comingFruits tr_comingStandings tr_x tr_height tr_worth tr_ripe tr_foot tr_fork).2.2.2.1) ((F_X3_readLine tx_place tx_stop tx_signs tr_comingFruits tr_comingStandings tr_x tr_height tr_worth tr_ripe tr_foot tr_fork).2.2.2.2.1) ((F_X3_readLine tx_place tx_stop tx_signs tr_comingFruits tr_comingStandings tr_x tr_height tr_worth tr_ripe tr_foot tr_fork).2.2.2.2.2.1) ((F_X3_readLine tx_place tx_stop tx_signs tr_comingFruits tr_comingStandings tr_x tr_height tr_worth tr_ripe tr_foot tr_fork).2.2.2.2.2.2.1) ((F_X3_readLine tx_place tx_stop tx_signs tr_comingFruits tr_comingStandings tr_x tr_height tr_worth tr_ripe tr_foot tr_fork).2.2.2.2.2.2.2.1) ((F_X3_readLine tx_place tx_stop tx_signs tr_comingFruits tr_comingStandings tr_x tr_height tr_worth tr_ripe tr_foot tr_fork).2.2.2.2.2.2.2.2.1) ((F_X3_readLine tx_place tx_stop tx_signs tr_comingFruits tr_comingStandings tr_x tr_height tr_worth tr_ripe tr_foot tr_fork).2.2.2.2.2.2.2.2.2))))
set_option maxHeartbeats 200000 in
set_option maxRecDepth 10000 in
theorem dl_X3_readLines_18 {P Q : Int32 → Int32 → Int32 → Int32 → (Nat → Int32) → (Nat → Int32) → (Nat → Int32) → (Nat → Int32) → (Nat → Int32) → (Nat → Int32) → Prop} {tx_stop : Int32} {tx_signs : Nat → Int32} {tr_fruits : Int32} {tr_standings : Int32} {R : Type} {po : Int32 → Int32 → Int32 → Int32 → (Nat → Int32) → (Nat → Int32) → (Nat → Int32) → (Nat → Int32) → (Nat → Int32) → (Nat → Int32) → R} {d : Int32 → Int32 → Int32 → Int32 → (Nat → Int32) → (Nat → Int32) → (Nat → Int32) → (Nat → Int32) → (Nat → Int32) → (Nat → Int32) → R} : ∀ (n m : Nat) (x2 : Int32) (tx_place : Int32) (tr_comingFruits : Int32) (tr_comingStandings : Int32) (tr_x : Nat → Int32) (tr_height : Nat → Int32) (tr_worth : Nat → Int32) (tr_ripe : Nat → Int32) (tr_foot : Nat → Int32) (tr_fork : Nat → Int32), 1 ≤ Int32.toInt x2 ∧ Int32.toInt x2 ≤ 77 → 77 - Int32.toInt x2 < (m : Int) → wb_X3_readLines_18 P tx_stop tx_signs tr_fruits tr_standings n x2 tx_place tr_comingFruits tr_comingStandings tr_x tr_height tr_worth tr_ripe tr_foot tr_fork → (∀ (b0 : Int32) (b1 : Int32) (b2 : Int32) (b3 : Int32) (b4 : Nat → Int32) (b5 : Nat → Int32) (b6 : Nat → Int32) (b7 : Nat → Int32) (b8 : Nat → Int32) (b9 : Nat → Int32), po b0 b1 b2 b3 b4 b5 b6 b7 b8 b9 = flp (fs_X3_readLines_18 po tx_stop tx_signs tr_fruits tr_standings) d m x2 tx_place tr_comingFruits tr_comingStandings tr_x tr_height tr_worth tr_ripe tr_foot tr_fork → P b0 b1 b2 b3 b4 b5 b6 b7 b8 b9 → Q b0 b1 b2 b3 b4 b5 b6 b7 b8 b9) → wb_X3_readLines_18 Q tx_stop tx_signs tr_fruits tr_standings n x2 tx_place tr_comingFruits tr_comingStandings tr_x tr_height tr_worth tr_ripe tr_foot tr_fork := by
  have l1 : Int32.toInt (1 : Int32) = 1 := by decide
  have l76 : Int32.toInt (76 : Int32) = 76 := by decide
  intro n
  induction n with
  | zero => intro m x2 tx_place tr_comingFruits tr_comingStandings tr_x tr_height tr_worth tr_ripe tr_foot tr_fork hv hm h hq; exact False.elim h
  | succ n ih =>
    intro m x2 tx_place tr_comingFruits tr_comingStandings tr_x tr_height tr_worth tr_ripe tr_foot tr_fork hv hm h hq
    cases m with
    | zero => exfalso; omega
    | succ m =>
      rw [flp_s, fs_X3_readLines_18] at hq
      have h : ws_X3_readLines_18 P (wb_X3_readLines_18 P tx_stop tx_signs tr_fruits tr_standings n) tx_stop tx_signs tr_fruits tr_standings x2 tx_place tr_comingFruits tr_comingStandings tr_x tr_height tr_worth tr_ripe tr_foot tr_fork := h
      show ws_X3_readLines_18 Q (wb_X3_readLines_18 Q tx_stop tx_signs tr_fruits tr_standings n) tx_stop tx_signs tr_fruits tr_standings x2 tx_place tr_comingFruits tr_comingStandings tr_x tr_height tr_worth tr_ripe tr_foot tr_fork
      unfold ws_X3_readLines_18 at h ⊢
      refine And.intro (fun c1 => ?_) (fun c1 => ?_)
      · have h := And.left h c1
        rw [if_pos c1] at hq
        have dc1 := (fa_lt _ _).mp c1
        exact hq _ _ _ _ _ _ _ _ _ _ rfl h
      · have h := And.right h c1
        rw [if_neg c1] at hq
        have dc1 := mt (fa_lt _ _).mpr c1
        refine du_X3_readLine h ?_
        intro h
        refine And.intro (fun c2 => ?_) (fun c2 => ?_)
        · have h := And.left h c2
          rw [if_neg c2] at hq
          have dc2 := mt (fa_eq _ _).mpr c2
          refine du_X8_take h ?_
          intro h
          refine And.intro (fun c3 => ?_) (fun c3 => ?_)
          · have h := And.left h c3
            rw [if_neg c3] at hq
            have dc3 := mt (fa_eq _ _).mpr c3
            refine ae ?_
            have h := h _ rfl
            have f9 := ta_add x2 1 (by omega)
            exact ih m _ _ _ _ _ _ _ _ _ _ (by omega) (by omega) h hq
          · have h := And.right h c3
            rw [if_pos c3] at hq
            have dc3 := (fa_eq _ _).mp c3
            exact hq _ _ _ _ _ _ _ _ _ _ rfl h
        · have h := And.right h c2
          rw [if_pos c2] at hq
          have dc2 := (fa_eq _ _).mp c2
          exact hq _ _ _ _ _ _ _ _ _ _ rfl h
noncomputable def F_X3_readLines (tx_place : Int32) (tx_stop : Int32) (tx_signs : Nat → Int32) (tr_fruits : Int32) (tr_standings : Int32) (tr_comingFruits : Int32) (tr_comingStandings : Int32) (tr_x : Nat → Int32) (tr_height : Nat → Int32) (tr_worth : Nat → Int32) (tr_ripe : Nat → Int32) (tr_foot : Nat → Int32) (tr_fork : Nat → Int32) : Int32 × Int32 × Int32 × Int32 × (Nat → Int32) × (Nat → Int32) × (Nat → Int32) × (Nat → Int32) × (Nat → Int32) × (Nat → Int32) := flp (fs_X3_readLines_18 (fun o0 o1 o2 o3 o4 o5 o6 o7 o8 o9 => (o0, o1, o2, o3, o4, o5, o6, o7, o8, o9)) tx_stop tx_signs tr_fruits tr_standings) (fun _ _ _ _ _ _ _ _ _ _ => (0, 0, 0, 0, (fun _ => 0), (fun _ => 0), (fun _ => 0), (fun _ => 0), (fun _ => 0), (fun _ => 0))) 77 1 tx_place tr_fruits tr_standings tr_x tr_height tr_worth tr_ripe tr_foot tr_fork
set_option maxHeartbeats 200000 in
set_option maxRecDepth 10000 in
theorem dt_X3_readLines {P Q : Int32 → Int32 → Int32 → Int32 → (Nat → Int32) → (Nat → Int32) → (Nat → Int32) → (Nat → Int32) → (Nat → Int32) → (Nat → Int32) → Prop} {tx_place : Int32} {tx_stop : Int32} {tx_signs : Nat → Int32} {tr_fruits : Int32} {tr_standings : Int32} {tr_comingFruits : Int32} {tr_comingStandings : Int32} {tr_x : Nat → Int32} {tr_height : Nat → Int32} {tr_worth : Nat → Int32} {tr_ripe : Nat → Int32} {tr_foot : Nat → Int32} {tr_fork : Nat → Int32} (h : wp_X3_readLines P tx_place tx_stop tx_signs tr_fruits tr_standings tr_comingFruits tr_comingStandings tr_x tr_height tr_worth tr_ripe tr_foot tr_fork) (hq : ∀ o : Int32 × Int32 × Int32 × Int32 × (Nat → Int32) × (Nat → Int32) × (Nat → Int32) × (Nat → Int32) × (Nat → Int32) × (Nat → Int32), o = F_X3_readLines tx_place tx_stop tx_signs tr_fruits tr_standings tr_comingFruits tr_comingStandings tr_x tr_height tr_worth tr_ripe tr_foot tr_fork → P o.1 o.2.1 o.2.2.1 o.2.2.2.1 o.2.2.2.2.1 o.2.2.2.2.2.1 o.2.2.2.2.2.2.1 o.2.2.2.2.2.2.2.1 o.2.2.2.2.2.2.2.2.1 o.2.2.2.2.2.2.2.2.2 → Q o.1 o.2.1 o.2.2.1 o.2.2.2.1 o.2.2.2.2.1 o.2.2.2.2.2.1 o.2.2.2.2.2.2.1 o.2.2.2.2.2.2.2.1 o.2.2.2.2.2.2.2.2.1 o.2.2.2.2.2.2.2.2.2) : wp_X3_readLines Q tx_place tx_stop tx_signs tr_fruits tr_standings tr_comingFruits tr_comingStandings tr_x tr_height tr_worth tr_ripe tr_foot tr_fork := by
  rw [F_X3_readLines] at hq
  obtain ⟨n1, h⟩ := h
  exact ⟨n1, dl_X3_readLines_18 n1 77 _ _ _ _ _ _ _ _ _ _ (by decide) (by decide) h (fun b0 b1 b2 b3 b4 b5 b6 b7 b8 b9 e9 h9 => hq (b0, b1, b2, b3, b4, b5, b6, b7, b8, b9) e9 h9)⟩
theorem du_X3_readLines {P Q : Int32 → Int32 → Int32 → Int32 → (Nat → Int32) → (Nat → Int32) → (Nat → Int32) → (Nat → Int32) → (Nat → Int32) → (Nat → Int32) → Prop} {tx_place : Int32} {tx_stop : Int32} {tx_signs : Nat → Int32} {tr_fruits : Int32} {tr_standings : Int32} {tr_comingFruits : Int32} {tr_comingStandings : Int32} {tr_x : Nat → Int32} {tr_height : Nat → Int32} {tr_worth : Nat → Int32} {tr_ripe : Nat → Int32} {tr_foot : Nat → Int32} {tr_fork : Nat → Int32} (h : wp_X3_readLines P tx_place tx_stop tx_signs tr_fruits tr_standings tr_comingFruits tr_comingStandings tr_x tr_height tr_worth tr_ripe tr_foot tr_fork) (hq : P (F_X3_readLines tx_place tx_stop tx_signs tr_fruits tr_standings tr_comingFruits tr_comingStandings tr_x tr_height tr_worth tr_ripe tr_foot tr_fork).1 (F_X3_readLines tx_place tx_stop tx_signs tr_fruits tr_standings tr_comingFruits tr_comingStandings tr_x tr_height tr_worth tr_ripe tr_foot tr_fork).2.1 (F_X3_readLines tx_place tx_stop tx_signs tr_fruits tr_standings tr_comingFruits tr_comingStandings tr_x tr_height tr_worth tr_ripe tr_foot tr_fork).2.2.1 (F_X3_readLines tx_place tx_stop tx_signs tr_fruits tr_standings tr_comingFruits tr_comingStandings tr_x tr_height tr_worth tr_ripe tr_foot tr_fork).2.2.2.1 (F_X3_readLines tx_place tx_stop tx_signs tr_fruits tr_standings tr_comingFruits tr_comingStandings tr_x tr_height tr_worth tr_ripe tr_foot tr_fork).2.2.2.2.1 (F_X3_readLines tx_place tx_stop tx_signs tr_fruits tr_standings tr_comingFruits tr_comingStandings tr_x tr_height tr_worth tr_ripe tr_foot tr_fork).2.2.2.2.2.1 (F_X3_readLines tx_place tx_stop tx_signs tr_fruits tr_standings tr_comingFruits tr_comingStandings tr_x tr_height tr_worth tr_ripe tr_foot tr_fork).2.2.2.2.2.2.1 (F_X3_readLines tx_place tx_stop tx_signs tr_fruits tr_standings tr_comingFruits tr_comingStandings tr_x tr_height tr_worth tr_ripe tr_foot tr_fork).2.2.2.2.2.2.2.1 (F_X3_readLines tx_place tx_stop tx_signs tr_fruits tr_standings tr_comingFruits tr_comingStandings tr_x tr_height tr_worth tr_ripe tr_foot tr_fork).2.2.2.2.2.2.2.2.1 (F_X3_readLines tx_place tx_stop tx_signs tr_fruits tr_standings tr_comingFruits tr_comingStandings tr_x tr_height tr_worth tr_ripe tr_foot tr_fork).2.2.2.2.2.2.2.2.2 → Q (F_X3_readLines tx_place tx_stop tx_signs tr_fruits tr_standings tr_comingFruits tr_comingStandings tr_x tr_height tr_worth tr_ripe tr_foot tr_fork).1 (F_X3_readLines tx_place tx_stop tx_signs tr_fruits tr_standings tr_comingFruits tr_comingStandings tr_x tr_height tr_worth tr_ripe tr_foot tr_fork).2.1 (F_X3_readLines tx_place tx_stop tx_signs tr_fruits tr_standings tr_comingFruits tr_comingStandings tr_x tr_height tr_worth tr_ripe tr_foot tr_fork).2.2.1 (F_X3_readLines tx_place tx_stop tx_signs tr_fruits tr_standings tr_comingFruits tr_comingStandings tr_x tr_height tr_worth tr_ripe tr_foot tr_fork).2.2.2.1 (F_X3_readLines tx_place tx_stop tx_signs tr_fruits tr_standings tr_comingFruits tr_comingStandings tr_x tr_height tr_worth tr_ripe tr_foot tr_fork).2.2.2.2.1 (F_X3_readLines tx_place tx_stop tx_signs tr_fruits tr_standings tr_comingFruits tr_comingStandings tr_x tr_height tr_worth tr_ripe tr_foot tr_fork).2.2.2.2.2.1 (F_X3_readLines tx_place tx_stop tx_signs tr_fruits tr_standings tr_comingFruits tr_comingStandings tr_x tr_height tr_worth tr_ripe tr_foot tr_fork).2.2.2.2.2.2.1 (F_X3_readLines tx_place tx_stop tx_signs tr_fruits tr_standings tr_comingFruits tr_comingStandings tr_x tr_height tr_worth tr_ripe tr_foot tr_fork).2.2.2.2.2.2.2.1 (F_X3_readLines tx_place tx_stop tx_signs tr_fruits tr_standings tr_comingFruits tr_comingStandings tr_x tr_height tr_worth tr_ripe tr_foot tr_fork).2.2.2.2.2.2.2.2.1 (F_X3_readLines tx_place tx_stop tx_signs tr_fruits tr_standings tr_comingFruits tr_comingStandings tr_x tr_height tr_worth tr_ripe tr_foot tr_fork).2.2.2.2.2.2.2.2.2) : wp_X3_readLines Q tx_place tx_stop tx_signs tr_fruits tr_standings tr_comingFruits tr_comingStandings tr_x tr_height tr_worth tr_ripe tr_foot tr_fork := dt_X3_readLines h (fun o eo => by rw [eo]; exact hq)
noncomputable def F_X3_takeLines (tr_fruits : Int32) (tr_standings : Int32) (tr_comingFruits : Int32) (tr_comingStandings : Int32) : Int32 × Int32 := (tr_comingFruits, tr_comingStandings)
set_option maxHeartbeats 200000 in
set_option maxRecDepth 10000 in
theorem dt_X3_takeLines {P Q : Int32 → Int32 → Prop} {tr_fruits : Int32} {tr_standings : Int32} {tr_comingFruits : Int32} {tr_comingStandings : Int32} (h : wp_X3_takeLines P tr_fruits tr_standings tr_comingFruits tr_comingStandings) (hq : ∀ o : Int32 × Int32, o = F_X3_takeLines tr_fruits tr_standings tr_comingFruits tr_comingStandings → P o.1 o.2 → Q o.1 o.2) : wp_X3_takeLines Q tr_fruits tr_standings tr_comingFruits tr_comingStandings := by
  rw [F_X3_takeLines] at hq
  have q9 := hq _ rfl
  dsimp only at q9
  exact q9 h
theorem du_X3_takeLines {P Q : Int32 → Int32 → Prop} {tr_fruits : Int32} {tr_standings : Int32} {tr_comingFruits : Int32} {tr_comingStandings : Int32} (h : wp_X3_takeLines P tr_fruits tr_standings tr_comingFruits tr_comingStandings) (hq : P (F_X3_takeLines tr_fruits tr_standings tr_comingFruits tr_comingStandings).1 (F_X3_takeLines tr_fruits tr_standings tr_comingFruits tr_comingStandings).2 → Q (F_X3_takeLines tr_fruits tr_standings tr_comingFruits tr_comingStandings).1 (F_X3_takeLines tr_fruits tr_standings tr_comingFruits tr_comingStandings).2) : wp_X3_takeLines Q tr_fruits tr_standings tr_comingFruits tr_comingStandings := dt_X3_takeLines h (fun o eo => by rw [eo]; exact hq)
noncomputable def bd_X4_forgetAll_7 (pa_undoable : Int32) (c : Int32) (s : (Nat → Int32)) : (Nat → Int32) := (upd s c.toNatClampNeg (vp_nar .boolean 0))
noncomputable def ex_X4_forgetAll_7 {R : Type} (po : Int32 → (Nat → Int32) → R) (pa_undoable : Int32) (c : Int32) (s : (Nat → Int32)) : R := po pa_undoable s
set_option maxHeartbeats 200000 in
set_option maxRecDepth 10000 in
theorem dl_X4_forgetAll_7 {P Q : Int32 → (Nat → Int32) → Prop} {pa_undoable : Int32} {a : (Nat → Int32)} {i : Nat} (hi0 : i < 2147483648) (hE : ∀ (c : Int32) (s : (Nat → Int32)), c = nI (i + (Int32.toInt 2 - ((i : Nat) : Int)).toNat) → s = itr (bd_X4_forgetAll_7 pa_undoable) a i (Int32.toInt 2 - ((i : Nat) : Int)).toNat → (P pa_undoable s) → (Q pa_undoable s)) : ∀ (n k : Nat) (c : Int32), c = nI (i + k) → k ≤ (Int32.toInt 2 - ((i : Nat) : Int)).toNat → wb_X4_forgetAll_7 P n c pa_undoable (itr (bd_X4_forgetAll_7 pa_undoable) a i k) → wb_X4_forgetAll_7 Q n c pa_undoable (itr (bd_X4_forgetAll_7 pa_undoable) a i k) := by
  intro n
  induction n with
  | zero => intro k c hc hk h; exact False.elim h
  | succ n ih =>
    intro k c hc hk h
    have hr := tp_r 2
    have hi : Int32.toInt c = ((i + k : Nat) : Int) := by rw [hc]; exact nI_toInt (by omega)
    refine And.intro (fun t0 => ?_) (fun t0 => ?_)
    · have h := And.left h t0
      have t1 := (fa_le _ _).mp t0
      have hk2 : k = (Int32.toInt 2 - ((i : Nat) : Int)).toNat := by omega
      subst hk2
      exact hE _ _ hc rfl h
    · have h := And.right h t0
      have t1 := mt (fa_le _ _).mpr t0
      have hs : ∀ o : (Nat → Int32), o = itr (bd_X4_forgetAll_7 pa_undoable) a i (k + 1) → wb_X4_forgetAll_7 P n (c + 1) pa_undoable o → wb_X4_forgetAll_7 Q n (c + 1) pa_undoable o := by
        intro o eo h9
        have q := ih (k + 1) (c + 1) (by rw [hc]; exact nI_1 _) (by omega)
        rw [← eo] at q
        exact q h9
      rw [itr_s, ← hc, bd_X4_forgetAll_7] at hs
      refine And.intro (And.left h) ?_
      have h := And.right h
      refine ae ?_
      have h := h _ rfl
      have q9 := hs _ rfl
      exact q9 h
noncomputable def F_X4_forgetAll (pa_undoable : Int32) (pa_isKept : Nat → Int32) : Int32 × (Nat → Int32) := ex_X4_forgetAll_7 (fun o0 o1 => (o0, o1)) 0 (nI (0 + (Int32.toInt 2 - ((0 : Nat) : Int)).toNat)) (itr (bd_X4_forgetAll_7 0) pa_isKept 0 (Int32.toInt 2 - ((0 : Nat) : Int)).toNat)
set_option maxHeartbeats 200000 in
set_option maxRecDepth 10000 in
theorem dt_X4_forgetAll {P Q : Int32 → (Nat → Int32) → Prop} {pa_undoable : Int32} {pa_isKept : Nat → Int32} (h : wp_X4_forgetAll P pa_undoable pa_isKept) (hq : ∀ o : Int32 × (Nat → Int32), o = F_X4_forgetAll pa_undoable pa_isKept → P o.1 o.2 → Q o.1 o.2) : wp_X4_forgetAll Q pa_undoable pa_isKept := by
  rw [F_X4_forgetAll] at hq
  obtain ⟨n1, h⟩ := h
  refine ⟨n1, dl_X4_forgetAll_7 (a := pa_isKept) (i := 0) (by decide) ?_ n1 0 0 (by decide) (Nat.zero_le _) h⟩
  intro cc2 s3 ec4 es5 h
  rw [← ec4, ← es5, ex_X4_forgetAll_7] at hq
  have q9 := hq _ rfl
  dsimp only at q9
  exact q9 h
theorem du_X4_forgetAll {P Q : Int32 → (Nat → Int32) → Prop} {pa_undoable : Int32} {pa_isKept : Nat → Int32} (h : wp_X4_forgetAll P pa_undoable pa_isKept) (hq : P (F_X4_forgetAll pa_undoable pa_isKept).1 (F_X4_forgetAll pa_undoable pa_isKept).2 → Q (F_X4_forgetAll pa_undoable pa_isKept).1 (F_X4_forgetAll pa_undoable pa_isKept).2) : wp_X4_forgetAll Q pa_undoable pa_isKept := dt_X4_forgetAll h (fun o eo => by rw [eo]; exact hq)
noncomputable def j_X9_orchard_94 {R : Type} (po : Int32 → Int32 → Int32 → Int32 → Int32 → Int32 → Int32 → Int32 → (Nat → Int32) → (Nat → Int32) → (Nat → Int32) → (Nat → Int32) → (Nat → Int32) → (Nat → Int32) → Int32 → (Nat → Int32) → R) (tx_signs : Nat → Int32) (x3 : Int32) (tx_length : Int32) (tx_place : Int32) (tx_stop : Int32) (tr_fruits : Int32) (tr_standings : Int32) (tr_comingFruits : Int32) (tr_comingStandings : Int32) (tr_x : Nat → Int32) (tr_height : Nat → Int32) (tr_worth : Nat → Int32) (tr_ripe : Nat → Int32) (tr_foot : Nat → Int32) (tr_fork : Nat → Int32) (pa_undoable : Int32) (pa_isKept : Nat → Int32) : R := po x3 (F_X8_clear tx_length) tx_place tx_stop tr_fruits tr_standings tr_comingFruits tr_comingStandings tr_x tr_height tr_worth tr_ripe tr_foot tr_fork pa_undoable pa_isKept
noncomputable def j_X9_orchard_71 {R : Type} (po : Int32 → Int32 → Int32 → Int32 → Int32 → Int32 → Int32 → Int32 → (Nat → Int32) → (Nat → Int32) → (Nat → Int32) → (Nat → Int32) → (Nat → Int32) → (Nat → Int32) → Int32 → (Nat → Int32) → R) (tx_signs : Nat → Int32) (x1 : Int32) (x2 : Int32) (k0 : Int32) (tx_length : Int32) (tx_place : Int32) (tx_stop : Int32) (tr_fruits : Int32) (tr_standings : Int32) (tr_comingFruits : Int32) (tr_comingStandings : Int32) (tr_x : Nat → Int32) (tr_height : Nat → Int32) (tr_worth : Nat → Int32) (tr_ripe : Nat → Int32) (tr_foot : Nat → Int32) (tr_fork : Nat → Int32) (pa_undoable : Int32) (pa_isKept : Nat → Int32) : R := if x2 = 0 then (j_X9_orchard_94 po tx_signs k0 tx_length tx_place tx_stop tr_fruits tr_standings tr_comingFruits tr_comingStandings tr_x tr_height tr_worth tr_ripe tr_foot tr_fork pa_undoable pa_isKept) else (if x1 ≤ 0 then (j_X9_orchard_94 po tx_signs k0 tx_length tx_place tx_stop tr_fruits tr_standings tr_comingFruits tr_comingStandings tr_x tr_height tr_worth tr_ripe tr_foot tr_fork pa_undoable pa_isKept) else (j_X9_orchard_94 po tx_signs k0 tx_length tx_place tx_stop ((F_X3_takeLines tr_fruits tr_standings tr_comingFruits tr_comingStandings).1) ((F_X3_takeLines tr_fruits tr_standings tr_comingFruits tr_comingStandings).2) tr_comingFruits tr_comingStandings tr_x tr_height tr_worth tr_ripe tr_foot tr_fork ((F_X4_forgetAll pa_undoable pa_isKept).1) ((F_X4_forgetAll pa_undoable pa_isKept).2)))
noncomputable def j_X9_orchard_55 {R : Type} (po : Int32 → Int32 → Int32 → Int32 → Int32 → Int32 → Int32 → Int32 → (Nat → Int32) → (Nat → Int32) → (Nat → Int32) → (Nat → Int32) → (Nat → Int32) → (Nat → Int32) → Int32 → (Nat → Int32) → R) (tx_signs : Nat → Int32) (x1 : Int32) (k0 : Int32) (tx_length : Int32) (tx_place : Int32) (tx_stop : Int32) (tr_fruits : Int32) (tr_standings : Int32) (tr_comingFruits : Int32) (tr_comingStandings : Int32) (tr_x : Nat → Int32) (tr_height : Nat → Int32) (tr_worth : Nat → Int32) (tr_ripe : Nat → Int32) (tr_foot : Nat → Int32) (tr_fork : Nat → Int32) (pa_undoable : Int32) (pa_isKept : Nat → Int32) : R := if k0 = 0 then (j_X9_orchard_71 po tx_signs x1 k0 (F_X8_wrong tx_place) tx_length tx_place tx_stop tr_fruits tr_standings tr_comingFruits tr_comingStandings tr_x tr_height tr_worth tr_ripe tr_foot tr_fork pa_undoable pa_isKept) else (j_X9_orchard_71 po tx_signs x1 k0 x1 tx_length tx_place tx_stop tr_fruits tr_standings tr_comingFruits tr_comingStandings tr_x tr_height tr_worth tr_ripe tr_foot tr_fork pa_undoable pa_isKept)
noncomputable def j_X9_orchard_54 {R : Type} (po : Int32 → Int32 → Int32 → Int32 → Int32 → Int32 → Int32 → Int32 → (Nat → Int32) → (Nat → Int32) → (Nat → Int32) → (Nat → Int32) → (Nat → Int32) → (Nat → Int32) → Int32 → (Nat → Int32) → R) (tx_signs : Nat → Int32) (x1 : Int32) (tx_length : Int32) (tx_place : Int32) (tx_stop : Int32) (tr_fruits : Int32) (tr_standings : Int32) (tr_comingFruits : Int32) (tr_comingStandings : Int32) (tr_x : Nat → Int32) (tr_height : Nat → Int32) (tr_worth : Nat → Int32) (tr_ripe : Nat → Int32) (tr_foot : Nat → Int32) (tr_fork : Nat → Int32) (pa_undoable : Int32) (pa_isKept : Nat → Int32) : R := j_X9_orchard_55 po tx_signs x1 0 tx_length tx_place tx_stop tr_fruits tr_standings tr_comingFruits tr_comingStandings tr_x tr_height tr_worth tr_ripe tr_foot tr_fork pa_undoable pa_isKept
noncomputable def j_X9_orchard_34 {R : Type} (po : Int32 → Int32 → Int32 → Int32 → Int32 → Int32 → Int32 → Int32 → (Nat → Int32) → (Nat → Int32) → (Nat → Int32) → (Nat → Int32) → (Nat → Int32) → (Nat → Int32) → Int32 → (Nat → Int32) → R) (tx_signs : Nat → Int32) (k0 : Int32) (tx_length : Int32) (tx_place : Int32) (tx_stop : Int32) (tr_fruits : Int32) (tr_standings : Int32) (tr_comingFruits : Int32) (tr_comingStandings : Int32) (tr_x : Nat → Int32) (tr_height : Nat → Int32) (tr_worth : Nat → Int32) (tr_ripe : Nat → Int32) (tr_foot : Nat → Int32) (tr_fork : Nat → Int32) (pa_undoable : Int32) (pa_isKept : Nat → Int32) : R := if k0 = (-1) then (j_X9_orchard_54 po tx_signs k0 tx_length tx_place tx_stop tr_fruits tr_standings tr_comingFruits tr_comingStandings tr_x tr_height tr_worth tr_ripe tr_foot tr_fork pa_undoable pa_isKept) else (if (F_X8_isThrough tx_length tx_place) = 0 then (j_X9_orchard_54 po tx_signs k0 tx_length tx_place tx_stop tr_fruits tr_standings tr_comingFruits tr_comingStandings tr_x tr_height tr_worth tr_ripe tr_foot tr_fork pa_undoable pa_isKept) else (j_X9_orchard_55 po tx_signs k0 1 tx_length tx_place tx_stop tr_fruits tr_standings tr_comingFruits tr_comingStandings tr_x tr_height tr_worth tr_ripe tr_foot tr_fork pa_undoable pa_isKept))
noncomputable def F_X9_orchard (tx_length : Int32) (tx_place : Int32) (tx_stop : Int32) (tx_signs : Nat → Int32) (tr_fruits : Int32) (tr_standings : Int32) (tr_comingFruits : Int32) (tr_comingStandings : Int32) (tr_x : Nat → Int32) (tr_height : Nat → Int32) (tr_worth : Nat → Int32) (tr_ripe : Nat → Int32) (tr_foot : Nat → Int32) (tr_fork : Nat → Int32) (pa_undoable : Int32) (pa_isKept : Nat → Int32) : Int32 × Int32 × Int32 × Int32 × Int32 × Int32 × Int32 × Int32 × (Nat → Int32) × (Nat → Int32) × (Nat → Int32) × (Nat → Int32) × (Nat → Int32) × (Nat → Int32) × Int32 × (Nat → Int32) := if tx_length = 0 then (j_X9_orchard_34 (fun o0 o1 o2 o3 o4 o5 o6 o7 o8 o9 o10 o11 o12 o13 o14 o15 => (o0, o1, o2, o3, o4, o5, o6, o7, o8, o9, o10, o11, o12, o13, o14, o15)) tx_signs 0 tx_length ((F_X8_open 76 tx_length tx_place tx_stop).1) ((F_X8_open 76 tx_length tx_place tx_stop).2) tr_fruits tr_standings tr_comingFruits tr_comingStandings tr_x tr_height tr_worth tr_ripe tr_foot tr_fork pa_undoable pa_isKept) else (j_X9_orchard_34 (fun o0 o1 o2 o3 o4 o5 o6 o7 o8 o9 o10 o11 o12 o13 o14 o15 => (o0, o1, o2, o3, o4, o5, o6, o7, o8, o9, o10, o11, o12, o13, o14, o15)) tx_signs ((F_X3_readLines (F_X8_open 76 tx_length tx_place tx_stop).1 (F_X8_open 76 tx_length tx_place tx_stop).2 tx_signs tr_fruits tr_standings tr_comingFruits tr_comingStandings tr_x tr_height tr_worth tr_ripe tr_foot tr_fork).1) tx_length ((F_X3_readLines (F_X8_open 76 tx_length tx_place tx_stop).1 (F_X8_open 76 tx_length tx_place tx_stop).2 tx_signs tr_fruits tr_standings tr_comingFruits tr_comingStandings tr_x tr_height tr_worth tr_ripe tr_foot tr_fork).2.1) ((F_X8_open 76 tx_length tx_place tx_stop).2) tr_fruits tr_standings ((F_X3_readLines (F_X8_open 76 tx_length tx_place tx_stop).1 (F_X8_open 76 tx_length tx_place tx_stop).2 tx_signs tr_fruits tr_standings tr_comingFruits tr_comingStandings tr_x tr_height tr_worth tr_ripe tr_foot tr_fork).2.2.1) ((F_X3_readLines (F_X8_open 76 tx_length tx_place tx_stop).1 (F_X8_open 76 tx_length tx_place tx_stop).2 tx_signs tr_fruits tr_standings tr_comingFruits tr_comingStandings tr_x tr_height tr_worth tr_ripe tr_foot tr_fork).2.2.2.1) ((F_X3_readLines (F_X8_open 76 tx_length tx_place tx_stop).1 (F_X8_open 76 tx_length tx_place tx_stop).2 tx_signs tr_fruits tr_standings tr_comingFruits tr_comingStandings tr_x tr_height tr_worth tr_ripe tr_foot tr_fork).2.2.2.2.1) ((F_X3_readLines (F_X8_open 76 tx_length tx_place tx_stop).1 (F_X8_open 76 tx_length tx_place tx_stop).2 tx_signs tr_fruits tr_standings tr_comingFruits tr_comingStandings tr_x tr_height tr_worth tr_ripe tr_foot tr_fork).2.2.2.2.2.1) ((F_X3_readLines (F_X8_open 76 tx_length tx_place tx_stop).1 (F_X8_open 76 tx_length tx_place tx_stop).2 tx_signs tr_fruits tr_standings tr_comingFruits tr_comingStandings tr_x tr_height tr_worth tr_ripe tr_foot tr_fork).2.2.2.2.2.2.1) ((F_X3_readLines (F_X8_open 76 tx_length tx_place tx_stop).1 (F_X8_open 76 tx_length tx_place tx_stop).2 tx_signs tr_fruits tr_standings tr_comingFruits tr_comingStandings tr_x tr_height tr_worth tr_ripe tr_foot tr_fork).2.2.2.2.2.2.2.1) ((F_X3_readLines (F_X8_open 76 tx_length tx_place tx_stop).1 (F_X8_open 76 tx_length tx_place tx_stop).2 tx_signs tr_fruits tr_standings tr_comingFruits tr_comingStandings tr_x tr_height tr_worth tr_ripe tr_foot tr_fork).2.2.2.2.2.2.2.2.1) ((F_X3_readLines (F_X8_open 76 tx_length tx_place tx_stop).1 (F_X8_open 76 tx_length tx_place tx_stop).2 tx_signs tr_fruits tr_standings tr_comingFruits tr_comingStandings tr_x tr_height tr_worth tr_ripe tr_foot tr_fork).2.2.2.2.2.2.2.2.2) pa_undoable pa_isKept)
set_option maxHeartbeats 200000 in
set_option maxRecDepth 10000 in
theorem dt_X9_orchard {P Q : Int32 → Int32 → Int32 → Int32 → Int32 → Int32 → Int32 → Int32 → (Nat → Int32) → (Nat → Int32) → (Nat → Int32) → (Nat → Int32) → (Nat → Int32) → (Nat → Int32) → Int32 → (Nat → Int32) → Prop} {tx_length : Int32} {tx_place : Int32} {tx_stop : Int32} {tx_signs : Nat → Int32} {tr_fruits : Int32} {tr_standings : Int32} {tr_comingFruits : Int32} {tr_comingStandings : Int32} {tr_x : Nat → Int32} {tr_height : Nat → Int32} {tr_worth : Nat → Int32} {tr_ripe : Nat → Int32} {tr_foot : Nat → Int32} {tr_fork : Nat → Int32} {pa_undoable : Int32} {pa_isKept : Nat → Int32} (h : wp_X9_orchard P tx_length tx_place tx_stop tx_signs tr_fruits tr_standings tr_comingFruits tr_comingStandings tr_x tr_height tr_worth tr_ripe tr_foot tr_fork pa_undoable pa_isKept) (hq : ∀ o : Int32 × Int32 × Int32 × Int32 × Int32 × Int32 × Int32 × Int32 × (Nat → Int32) × (Nat → Int32) × (Nat → Int32) × (Nat → Int32) × (Nat → Int32) × (Nat → Int32) × Int32 × (Nat → Int32), o = F_X9_orchard tx_length tx_place tx_stop tx_signs tr_fruits tr_standings tr_comingFruits tr_comingStandings tr_x tr_height tr_worth tr_ripe tr_foot tr_fork pa_undoable pa_isKept → P o.1 o.2.1 o.2.2.1 o.2.2.2.1 o.2.2.2.2.1 o.2.2.2.2.2.1 o.2.2.2.2.2.2.1 o.2.2.2.2.2.2.2.1 o.2.2.2.2.2.2.2.2.1 o.2.2.2.2.2.2.2.2.2.1 o.2.2.2.2.2.2.2.2.2.2.1 o.2.2.2.2.2.2.2.2.2.2.2.1 o.2.2.2.2.2.2.2.2.2.2.2.2.1 o.2.2.2.2.2.2.2.2.2.2.2.2.2.1 o.2.2.2.2.2.2.2.2.2.2.2.2.2.2.1 o.2.2.2.2.2.2.2.2.2.2.2.2.2.2.2 → Q o.1 o.2.1 o.2.2.1 o.2.2.2.1 o.2.2.2.2.1 o.2.2.2.2.2.1 o.2.2.2.2.2.2.1 o.2.2.2.2.2.2.2.1 o.2.2.2.2.2.2.2.2.1 o.2.2.2.2.2.2.2.2.2.1 o.2.2.2.2.2.2.2.2.2.2.1 o.2.2.2.2.2.2.2.2.2.2.2.1 o.2.2.2.2.2.2.2.2.2.2.2.2.1 o.2.2.2.2.2.2.2.2.2.2.2.2.2.1 o.2.2.2.2.2.2.2.2.2.2.2.2.2.2.1 o.2.2.2.2.2.2.2.2.2.2.2.2.2.2.2) : wp_X9_orchard Q tx_length tx_place tx_stop tx_signs tr_fruits tr_standings tr_comingFruits tr_comingStandings tr_x tr_height tr_worth tr_ripe tr_foot tr_fork pa_undoable pa_isKept := by
  rw [F_X9_orchard] at hq
  refine du_X8_open h ?_
  intro h
  refine And.intro (fun c1 => ?_) (fun c1 => ?_)
  · have h := And.left h c1
    rw [if_neg c1] at hq
    refine du_X3_readLines h ?_
    intro h
    rw [j_X9_orchard_34] at hq
    unfold ws_X9_orchard_34 at h ⊢
    refine And.intro (fun c2 => ?_) (fun c2 => ?_)
    · have h := And.left h c2
      rw [if_pos c2] at hq
      rw [j_X9_orchard_54] at hq
      unfold ws_X9_orchard_54 at h ⊢
      rw [j_X9_orchard_55] at hq
      unfold ws_X9_orchard_55 at h ⊢
      refine And.intro (fun c3 => ?_) (fun c3 => ?_)
      · have h := And.left h c3
        rw [if_pos c3] at hq
        refine du_X8_wrong h ?_
        intro h
        rw [j_X9_orchard_71] at hq
        unfold ws_X9_orchard_71 at h ⊢
        refine And.intro (fun c4 => ?_) (fun c4 => ?_)
        · have h := And.left h c4
          rw [if_pos c4] at hq
          rw [j_X9_orchard_94] at hq
          unfold ws_X9_orchard_94 at h ⊢
          refine du_X8_clear h ?_
          intro h
          have q9 := hq _ rfl
          dsimp only at q9
          exact q9 h
        · have h := And.right h c4
          rw [if_neg c4] at hq
          refine And.intro (fun c5 => ?_) (fun c5 => ?_)
          · have h := And.left h c5
            rw [if_pos c5] at hq
            rw [j_X9_orchard_94] at hq
            unfold ws_X9_orchard_94 at h ⊢
            refine du_X8_clear h ?_
            intro h
            have q9 := hq _ rfl
            dsimp only at q9
            exact q9 h
          · have h := And.right h c5
            rw [if_neg c5] at hq
            refine du_X3_takeLines h ?_
            intro h
            refine du_X4_forgetAll h ?_
            intro h
            rw [j_X9_orchard_94] at hq
            unfold ws_X9_orchard_94 at h ⊢
            refine du_X8_clear h ?_
            intro h
            have q9 := hq _ rfl
            dsimp only at q9
            exact q9 h
      · have h := And.right h c3
        rw [if_neg c3] at hq
        rw [j_X9_orchard_71] at hq
        unfold ws_X9_orchard_71 at h ⊢
        refine And.intro (fun c6 => ?_) (fun c6 => ?_)
        · have h := And.left h c6
          rw [if_pos c6] at hq
          rw [j_X9_orchard_94] at hq
          unfold ws_X9_orchard_94 at h ⊢
          refine du_X8_clear h ?_
          intro h
          have q9 := hq _ rfl
          dsimp only at q9
          exact q9 h
        · have h := And.right h c6
          rw [if_neg c6] at hq
          refine And.intro (fun c7 => ?_) (fun c7 => ?_)
          · have h := And.left h c7
            rw [if_pos c7] at hq
            rw [j_X9_orchard_94] at hq
            unfold ws_X9_orchard_94 at h ⊢
            refine du_X8_clear h ?_
            intro h
            have q9 := hq _ rfl
            dsimp only at q9
            exact q9 h
          · have h := And.right h c7
            rw [if_neg c7] at hq
            refine du_X3_takeLines h ?_
            intro h
            refine du_X4_forgetAll h ?_
            intro h
            rw [j_X9_orchard_94] at hq
            unfold ws_X9_orchard_94 at h ⊢
            refine du_X8_clear h ?_
            intro h
            have q9 := hq _ rfl
            dsimp only at q9
            exact q9 h
    · have h := And.right h c2
      rw [if_neg c2] at hq
      refine du_X8_isThrough h ?_
      intro h
      refine And.intro (fun c8 => ?_) (fun c8 => ?_)
      · have h := And.left h c8
        rw [if_pos c8] at hq
        rw [j_X9_orchard_54] at hq
        unfold ws_X9_orchard_54 at h ⊢
        rw [j_X9_orchard_55] at hq
        unfold ws_X9_orchard_55 at h ⊢
        refine And.intro (fun c9 => ?_) (fun c9 => ?_)
        · have h := And.left h c9
          rw [if_pos c9] at hq
          refine du_X8_wrong h ?_
          intro h
          rw [j_X9_orchard_71] at hq
          unfold ws_X9_orchard_71 at h ⊢
          refine And.intro (fun c10 => ?_) (fun c10 => ?_)
          · have h := And.left h c10
            rw [if_pos c10] at hq
            rw [j_X9_orchard_94] at hq
            unfold ws_X9_orchard_94 at h ⊢
            refine du_X8_clear h ?_
            intro h
            have q9 := hq _ rfl
            dsimp only at q9
            exact q9 h
          · have h := And.right h c10
            rw [if_neg c10] at hq
            refine And.intro (fun c11 => ?_) (fun c11 => ?_)
            · have h := And.left h c11
              rw [if_pos c11] at hq
              rw [j_X9_orchard_94] at hq
              unfold ws_X9_orchard_94 at h ⊢
              refine du_X8_clear h ?_
              intro h
              have q9 := hq _ rfl
              dsimp only at q9
              exact q9 h
            · have h := And.right h c11
              rw [if_neg c11] at hq
              refine du_X3_takeLines h ?_
              intro h
              refine du_X4_forgetAll h ?_
              intro h
              rw [j_X9_orchard_94] at hq
              unfold ws_X9_orchard_94 at h ⊢
              refine du_X8_clear h ?_
              intro h
              have q9 := hq _ rfl
              dsimp only at q9
              exact q9 h
        · have h := And.right h c9
          rw [if_neg c9] at hq
          rw [j_X9_orchard_71] at hq
          unfold ws_X9_orchard_71 at h ⊢
          refine And.intro (fun c12 => ?_) (fun c12 => ?_)
          · have h := And.left h c12
            rw [if_pos c12] at hq
            rw [j_X9_orchard_94] at hq
            unfold ws_X9_orchard_94 at h ⊢
            refine du_X8_clear h ?_
            intro h
            have q9 := hq _ rfl
            dsimp only at q9
            exact q9 h
          · have h := And.right h c12
            rw [if_neg c12] at hq
            refine And.intro (fun c13 => ?_) (fun c13 => ?_)
            · have h := And.left h c13
              rw [if_pos c13] at hq
              rw [j_X9_orchard_94] at hq
              unfold ws_X9_orchard_94 at h ⊢
              refine du_X8_clear h ?_
              intro h
              have q9 := hq _ rfl
              dsimp only at q9
              exact q9 h
            · have h := And.right h c13
              rw [if_neg c13] at hq
              refine du_X3_takeLines h ?_
              intro h
              refine du_X4_forgetAll h ?_
              intro h
              rw [j_X9_orchard_94] at hq
              unfold ws_X9_orchard_94 at h ⊢
              refine du_X8_clear h ?_
              intro h
              have q9 := hq _ rfl
              dsimp only at q9
              exact q9 h
      · have h := And.right h c8
        rw [if_neg c8] at hq
        rw [j_X9_orchard_55] at hq
        unfold ws_X9_orchard_55 at h ⊢
        refine And.intro (fun c14 => ?_) (fun c14 => ?_)
        · have h := And.left h c14
          rw [if_pos c14] at hq
          refine du_X8_wrong h ?_
          intro h
          rw [j_X9_orchard_71] at hq
          unfold ws_X9_orchard_71 at h ⊢
          refine And.intro (fun c15 => ?_) (fun c15 => ?_)
          · have h := And.left h c15
            rw [if_pos c15] at hq
            rw [j_X9_orchard_94] at hq
            unfold ws_X9_orchard_94 at h ⊢
            refine du_X8_clear h ?_
            intro h
            have q9 := hq _ rfl
            dsimp only at q9
            exact q9 h
          · have h := And.right h c15
            rw [if_neg c15] at hq
            refine And.intro (fun c16 => ?_) (fun c16 => ?_)
            · have h := And.left h c16
              rw [if_pos c16] at hq
              rw [j_X9_orchard_94] at hq
              unfold ws_X9_orchard_94 at h ⊢
              refine du_X8_clear h ?_
              intro h
              have q9 := hq _ rfl
              dsimp only at q9
              exact q9 h
            · have h := And.right h c16
              rw [if_neg c16] at hq
              refine du_X3_takeLines h ?_
              intro h
              refine du_X4_forgetAll h ?_
              intro h
              rw [j_X9_orchard_94] at hq
              unfold ws_X9_orchard_94 at h ⊢
              refine du_X8_clear h ?_
              intro h
              have q9 := hq _ rfl
              dsimp only at q9
              exact q9 h
        · have h := And.right h c14
          rw [if_neg c14] at hq
          rw [j_X9_orchard_71] at hq
          unfold ws_X9_orchard_71 at h ⊢
          refine And.intro (fun c17 => ?_) (fun c17 => ?_)
          · have h := And.left h c17
            rw [if_pos c17] at hq
            rw [j_X9_orchard_94] at hq
            unfold ws_X9_orchard_94 at h ⊢
            refine du_X8_clear h ?_
            intro h
            have q9 := hq _ rfl
            dsimp only at q9
            exact q9 h
          · have h := And.right h c17
            rw [if_neg c17] at hq
            refine And.intro (fun c18 => ?_) (fun c18 => ?_)
            · have h := And.left h c18
              rw [if_pos c18] at hq
              rw [j_X9_orchard_94] at hq
              unfold ws_X9_orchard_94 at h ⊢
              refine du_X8_clear h ?_
              intro h
              have q9 := hq _ rfl
              dsimp only at q9
              exact q9 h
            · have h := And.right h c18
              rw [if_neg c18] at hq
              refine du_X3_takeLines h ?_
              intro h
              refine du_X4_forgetAll h ?_
              intro h
              rw [j_X9_orchard_94] at hq
              unfold ws_X9_orchard_94 at h ⊢
              refine du_X8_clear h ?_
              intro h
              have q9 := hq _ rfl
              dsimp only at q9
              exact q9 h
  · have h := And.right h c1
    rw [if_pos c1] at hq
    rw [j_X9_orchard_34] at hq
    unfold ws_X9_orchard_34 at h ⊢
    refine And.intro (fun c19 => ?_) (fun c19 => ?_)
    · have h := And.left h c19
      rw [if_pos c19] at hq
      rw [j_X9_orchard_54] at hq
      unfold ws_X9_orchard_54 at h ⊢
      rw [j_X9_orchard_55] at hq
      unfold ws_X9_orchard_55 at h ⊢
      refine And.intro (fun c20 => ?_) (fun c20 => ?_)
      · have h := And.left h c20
        rw [if_pos c20] at hq
        refine du_X8_wrong h ?_
        intro h
        rw [j_X9_orchard_71] at hq
        unfold ws_X9_orchard_71 at h ⊢
        refine And.intro (fun c21 => ?_) (fun c21 => ?_)
        · have h := And.left h c21
          rw [if_pos c21] at hq
          rw [j_X9_orchard_94] at hq
          unfold ws_X9_orchard_94 at h ⊢
          refine du_X8_clear h ?_
          intro h
          have q9 := hq _ rfl
          dsimp only at q9
          exact q9 h
        · have h := And.right h c21
          rw [if_neg c21] at hq
          refine And.intro (fun c22 => ?_) (fun c22 => ?_)
          · have h := And.left h c22
            rw [if_pos c22] at hq
            rw [j_X9_orchard_94] at hq
            unfold ws_X9_orchard_94 at h ⊢
            refine du_X8_clear h ?_
            intro h
            have q9 := hq _ rfl
            dsimp only at q9
            exact q9 h
          · have h := And.right h c22
            rw [if_neg c22] at hq
            refine du_X3_takeLines h ?_
            intro h
            refine du_X4_forgetAll h ?_
            intro h
            rw [j_X9_orchard_94] at hq
            unfold ws_X9_orchard_94 at h ⊢
            refine du_X8_clear h ?_
            intro h
            have q9 := hq _ rfl
            dsimp only at q9
            exact q9 h
      · have h := And.right h c20
        rw [if_neg c20] at hq
        rw [j_X9_orchard_71] at hq
        unfold ws_X9_orchard_71 at h ⊢
        refine And.intro (fun c23 => ?_) (fun c23 => ?_)
        · have h := And.left h c23
          rw [if_pos c23] at hq
          rw [j_X9_orchard_94] at hq
          unfold ws_X9_orchard_94 at h ⊢
          refine du_X8_clear h ?_
          intro h
          have q9 := hq _ rfl
          dsimp only at q9
          exact q9 h
        · have h := And.right h c23
          rw [if_neg c23] at hq
          refine And.intro (fun c24 => ?_) (fun c24 => ?_)
          · have h := And.left h c24
            rw [if_pos c24] at hq
            rw [j_X9_orchard_94] at hq
            unfold ws_X9_orchard_94 at h ⊢
            refine du_X8_clear h ?_
            intro h
            have q9 := hq _ rfl
            dsimp only at q9
            exact q9 h
          · have h := And.right h c24
            rw [if_neg c24] at hq
            refine du_X3_takeLines h ?_
            intro h
            refine du_X4_forgetAll h ?_
            intro h
            rw [j_X9_orchard_94] at hq
            unfold ws_X9_orchard_94 at h ⊢
            refine du_X8_clear h ?_
            intro h
            have q9 := hq _ rfl
            dsimp only at q9
            exact q9 h
    · have h := And.right h c19
      rw [if_neg c19] at hq
      refine du_X8_isThrough h ?_
      intro h
      refine And.intro (fun c25 => ?_) (fun c25 => ?_)
      · have h := And.left h c25
        rw [if_pos c25] at hq
        rw [j_X9_orchard_54] at hq
        unfold ws_X9_orchard_54 at h ⊢
        rw [j_X9_orchard_55] at hq
        unfold ws_X9_orchard_55 at h ⊢
        refine And.intro (fun c26 => ?_) (fun c26 => ?_)
        · have h := And.left h c26
          rw [if_pos c26] at hq
          refine du_X8_wrong h ?_
          intro h
          rw [j_X9_orchard_71] at hq
          unfold ws_X9_orchard_71 at h ⊢
          refine And.intro (fun c27 => ?_) (fun c27 => ?_)
          · have h := And.left h c27
            rw [if_pos c27] at hq
            rw [j_X9_orchard_94] at hq
            unfold ws_X9_orchard_94 at h ⊢
            refine du_X8_clear h ?_
            intro h
            have q9 := hq _ rfl
            dsimp only at q9
            exact q9 h
          · have h := And.right h c27
            rw [if_neg c27] at hq
            refine And.intro (fun c28 => ?_) (fun c28 => ?_)
            · have h := And.left h c28
              rw [if_pos c28] at hq
              rw [j_X9_orchard_94] at hq
              unfold ws_X9_orchard_94 at h ⊢
              refine du_X8_clear h ?_
              intro h
              have q9 := hq _ rfl
              dsimp only at q9
              exact q9 h
            · have h := And.right h c28
              rw [if_neg c28] at hq
              refine du_X3_takeLines h ?_
              intro h
              refine du_X4_forgetAll h ?_
              intro h
              rw [j_X9_orchard_94] at hq
              unfold ws_X9_orchard_94 at h ⊢
              refine du_X8_clear h ?_
              intro h
              have q9 := hq _ rfl
              dsimp only at q9
              exact q9 h
        · have h := And.right h c26
          rw [if_neg c26] at hq
          rw [j_X9_orchard_71] at hq
          unfold ws_X9_orchard_71 at h ⊢
          refine And.intro (fun c29 => ?_) (fun c29 => ?_)
          · have h := And.left h c29
            rw [if_pos c29] at hq
            rw [j_X9_orchard_94] at hq
            unfold ws_X9_orchard_94 at h ⊢
            refine du_X8_clear h ?_
            intro h
            have q9 := hq _ rfl
            dsimp only at q9
            exact q9 h
          · have h := And.right h c29
            rw [if_neg c29] at hq
            refine And.intro (fun c30 => ?_) (fun c30 => ?_)
            · have h := And.left h c30
              rw [if_pos c30] at hq
              rw [j_X9_orchard_94] at hq
              unfold ws_X9_orchard_94 at h ⊢
              refine du_X8_clear h ?_
              intro h
              have q9 := hq _ rfl
              dsimp only at q9
              exact q9 h
            · have h := And.right h c30
              rw [if_neg c30] at hq
              refine du_X3_takeLines h ?_
              intro h
              refine du_X4_forgetAll h ?_
              intro h
              rw [j_X9_orchard_94] at hq
              unfold ws_X9_orchard_94 at h ⊢
              refine du_X8_clear h ?_
              intro h
              have q9 := hq _ rfl
              dsimp only at q9
              exact q9 h
      · have h := And.right h c25
        rw [if_neg c25] at hq
        rw [j_X9_orchard_55] at hq
        unfold ws_X9_orchard_55 at h ⊢
        refine And.intro (fun c31 => ?_) (fun c31 => ?_)
        · have h := And.left h c31
          rw [if_pos c31] at hq
          refine du_X8_wrong h ?_
          intro h
          rw [j_X9_orchard_71] at hq
          unfold ws_X9_orchard_71 at h ⊢
          refine And.intro (fun c32 => ?_) (fun c32 => ?_)
          · have h := And.left h c32
            rw [if_pos c32] at hq
            rw [j_X9_orchard_94] at hq
            unfold ws_X9_orchard_94 at h ⊢
            refine du_X8_clear h ?_
            intro h
            have q9 := hq _ rfl
            dsimp only at q9
            exact q9 h
          · have h := And.right h c32
            rw [if_neg c32] at hq
            refine And.intro (fun c33 => ?_) (fun c33 => ?_)
            · have h := And.left h c33
              rw [if_pos c33] at hq
              rw [j_X9_orchard_94] at hq
              unfold ws_X9_orchard_94 at h ⊢
              refine du_X8_clear h ?_
              intro h
              have q9 := hq _ rfl
              dsimp only at q9
              exact q9 h
            · have h := And.right h c33
              rw [if_neg c33] at hq
              refine du_X3_takeLines h ?_
              intro h
              refine du_X4_forgetAll h ?_
              intro h
              rw [j_X9_orchard_94] at hq
              unfold ws_X9_orchard_94 at h ⊢
              refine du_X8_clear h ?_
              intro h
              have q9 := hq _ rfl
              dsimp only at q9
              exact q9 h
        · have h := And.right h c31
          rw [if_neg c31] at hq
          rw [j_X9_orchard_71] at hq
          unfold ws_X9_orchard_71 at h ⊢
          refine And.intro (fun c34 => ?_) (fun c34 => ?_)
          · have h := And.left h c34
            rw [if_pos c34] at hq
            rw [j_X9_orchard_94] at hq
            unfold ws_X9_orchard_94 at h ⊢
            refine du_X8_clear h ?_
            intro h
            have q9 := hq _ rfl
            dsimp only at q9
            exact q9 h
          · have h := And.right h c34
            rw [if_neg c34] at hq
            refine And.intro (fun c35 => ?_) (fun c35 => ?_)
            · have h := And.left h c35
              rw [if_pos c35] at hq
              rw [j_X9_orchard_94] at hq
              unfold ws_X9_orchard_94 at h ⊢
              refine du_X8_clear h ?_
              intro h
              have q9 := hq _ rfl
              dsimp only at q9
              exact q9 h
            · have h := And.right h c35
              rw [if_neg c35] at hq
              refine du_X3_takeLines h ?_
              intro h
              refine du_X4_forgetAll h ?_
              intro h
              rw [j_X9_orchard_94] at hq
              unfold ws_X9_orchard_94 at h ⊢
              refine du_X8_clear h ?_
              intro h
              have q9 := hq _ rfl
              dsimp only at q9
              exact q9 h
