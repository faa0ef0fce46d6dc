/-! the reference's route(): the table of the least moves -/
def mvo (foot told : Nat → Int32) (a b : Int32) : Int32 := if a = -1 then 9 else 9 + (told (3 : Int32).toNatClampNeg * (if 0 ≤ foot a.toNatClampNeg - foot b.toNatClampNeg then foot a.toNatClampNeg - foot b.toNatClampNeg else 0 - (foot a.toNatClampNeg - foot b.toNatClampNeg)))
theorem mvo_rng {foot told : Nat → Int32} (hf : ∀ k : Nat, 0 ≤ Int32.toInt (foot k) ∧ Int32.toInt (foot k) ≤ 99) (ht : ∀ k : Nat, k = 3 → 0 ≤ Int32.toInt (told k) ∧ Int32.toInt (told k) ≤ 9) (a b : Int32) : 9 ≤ (mvo foot told a b).toInt ∧ (mvo foot told a b).toInt ≤ 900 := by
  have l9 : Int32.toInt (9 : Int32) = 9 := by decide
  unfold mvo
  by_cases h : a = -1
  · rw [if_pos h]; omega
  · rw [if_neg h]
    have h1 := hf a.toNatClampNeg
    have h2 := hf b.toNatClampNeg
    have h3 := ta_sub (foot a.toNatClampNeg) (foot b.toNatClampNeg) (by omega)
    generalize foot a.toNatClampNeg - foot b.toNatClampNeg = d at h3 ⊢
    have h4 := ti_abs d (by omega)
    generalize (if 0 ≤ d then d else 0 - d) = q at h4 ⊢
    have h5 := ht (3 : Int32).toNatClampNeg (by decide)
    generalize told (3 : Int32).toNatClampNeg = t at h5 ⊢
    have hq : 0 ≤ q.toInt ∧ q.toInt ≤ 99 := by omega
    have m1 : 0 ≤ t.toInt * q.toInt := Int.mul_nonneg h5.1 hq.1
    have m2 : t.toInt * q.toInt ≤ 9 * 99 := Int.mul_le_mul h5.2 hq.2 hq.1 (by omega)
    have h6 : Int32.toInt (t * q) = t.toInt * q.toInt := by
      rw [Int32.toInt_mul]; exact tp_b (by omega)
    have h7 := ta_add 9 (t * q) (by omega)
    omega
theorem f_moveOf {post : Int32 → Prop} {p0 p1 : Int32} {foot told : Nat → Int32} (h0 : -1 ≤ Int32.toInt p0 ∧ Int32.toInt p0 ≤ 7) (h1 : 0 ≤ Int32.toInt p1 ∧ Int32.toInt p1 ≤ 7) (hp : post (mvo foot told p0 p1)) : wp_X10_moveOf post p0 p1 foot told := by
  have z := z_im
  refine And.intro (fun c => ?_) (fun c => ?_)
  · have c2 := mt (fa_eq _ _).mpr c
    intro v1 e1
    refine And.intro (t_in (by omega)) (fun v2 e2 => And.intro (t_in (by omega)) (fun v3 e3 v4 e4 => ?_))
    have e : 9 + (v1 * v4) = mvo foot told p0 p1 := by
      unfold mvo
      rw [if_neg c, e4, e3, e2, e1]
    rw [e]; exact hp
  · have e : (9 : Int32) = mvo foot told p0 p1 := (if_pos c).symm
    rw [e]; exact hp
def ent (mv : Nat → Int32) (f l : Int32) : Int := Int32.toInt (mv (256 * f.toInt.toNat + l.toInt.toNat))
def clr (l s : Int32) : Int32 := l &&& ((1 <<< (s &&& 31)) ^^^ (-1))
def lad (f : Int32) : Int32 := if f.toInt = 8 then -1 else f
def plc (a : Int32) : Int32 := if a.toInt = -1 then 8 else a
def VAL (st f l : Int32) : Prop := f.toInt = 8 ∨ (f.toInt < st.toInt ∧ bt l f.toInt.toNat = false)
def VALz (st f l : Int32) : Prop := l.toInt = 0 ∨ VAL st f l
def LB (l st : Int32) : Prop := ∀ k : Nat, bt l k = true → (k : Int) < st.toInt
def OKE (mv foot told : Nat → Int32) (st f l : Int32) : Prop :=
  (0 ≤ ent mv f l ∧ ent mv f l ≤ 1000 * l.toInt) ∧
  (∀ s : Int32, 0 ≤ s.toInt → s.toInt < st.toInt → bt l s.toInt.toNat = true → ent mv f l ≤ (mvo foot told (lad f) s).toInt + ent mv s (clr l s)) ∧
  (l.toInt ≠ 0 → ∃ s : Int32, 0 ≤ s.toInt ∧ s.toInt < st.toInt ∧ bt l s.toInt.toNat = true ∧ ent mv f l = (mvo foot told (lad f) s).toInt + ent mv s (clr l s))
def MVa (mv foot told : Nat → Int32) (st l : Int32) : Prop := ∀ a : Int32, 0 ≤ a.toInt → a.toInt < l.toInt → ∀ f : Int32, 0 ≤ f.toInt → VAL st f a → OKE mv foot told st f a
def MVb (mv foot told : Nat → Int32) (st l f : Int32) : Prop := MVa mv foot told st l ∧ ∀ g : Int32, 0 ≤ g.toInt → g.toInt < f.toInt → VAL st g l → OKE mv foot told st g l
def MVb1 (mv foot told : Nat → Int32) (st l f : Int32) : Prop := MVa mv foot told st l ∧ ∀ g : Int32, 0 ≤ g.toInt → g.toInt ≤ f.toInt → VAL st g l → OKE mv foot told st g l
def MVT (mv foot told : Nat → Int32) (st : Int32) : Prop := ∀ a : Int32, 0 ≤ a.toInt → LB a st → ∀ f : Int32, 0 ≤ f.toInt → VAL st f a → OKE mv foot told st f a
def PB (mv foot told : Nat → Int32) (l f s best : Int32) : Prop :=
  (∀ t : Int32, 0 ≤ t.toInt → t.toInt < s.toInt → bt l t.toInt.toNat = true → best.toInt ≤ (mvo foot told (lad f) t).toInt + ent mv t (clr l t)) ∧
  ((l.toInt = 0 ∧ best.toInt = 0) ∨ (l.toInt ≠ 0 ∧ best.toInt = 1000000) ∨ ∃ t : Int32, 0 ≤ t.toInt ∧ t.toInt < s.toInt ∧ bt l t.toInt.toNat = true ∧ best.toInt = (mvo foot told (lad f) t).toInt + ent mv t (clr l t))
def PB1 (mv foot told : Nat → Int32) (l f s best : Int32) : Prop :=
  (∀ t : Int32, 0 ≤ t.toInt → t.toInt ≤ s.toInt → bt l t.toInt.toNat = true → best.toInt ≤ (mvo foot told (lad f) t).toInt + ent mv t (clr l t)) ∧
  ((l.toInt = 0 ∧ best.toInt = 0) ∨ (l.toInt ≠ 0 ∧ best.toInt = 1000000) ∨ ∃ t : Int32, 0 ≤ t.toInt ∧ t.toInt ≤ s.toInt ∧ bt l t.toInt.toNat = true ∧ best.toInt = (mvo foot told (lad f) t).toInt + ent mv t (clr l t))
theorem clr_bt (l s : Int32) (hs : 0 ≤ s.toInt ∧ s.toInt < 32) (k : Nat) (hk : k < 32) : bt (clr l s) k = (bt l k && !decide (k = s.toInt.toNat)) := by
  unfold clr
  rw [bt_and, bt_not _ k hk, bt_shl s hs]
theorem clr_lt {l s : Int32} (h0 : 0 ≤ l.toInt) (hs : 0 ≤ s.toInt ∧ s.toInt < 32) (hb : bt l s.toInt.toNat = true) : 0 ≤ (clr l s).toInt ∧ (clr l s).toInt < l.toInt := by
  have h1 : 0 ≤ (clr l s).toInt ∧ (clr l s).toInt ≤ l.toInt := ti_andl l ((1 <<< (s &&& 31)) ^^^ (-1)) h0
  have h2 : clr l s ≠ l := by
    intro e
    have h3 := clr_bt l s hs s.toInt.toNat (by omega)
    rw [e, hb] at h3
    simp at h3
  have h3 : (clr l s).toInt ≠ l.toInt := fun e => h2 ((fa_eq _ _).mpr e)
  omega
theorem clr_val {st l s : Int32} (hs : 0 ≤ s.toInt ∧ s.toInt < st.toInt) (h8 : st.toInt ≤ 8) : VAL st s (clr l s) := by
  refine Or.inr ⟨hs.2, ?_⟩
  rw [clr_bt l s (by omega) _ (by omega)]
  simp
section ROUTE
variable {mv foot told : Nat → Int32} {st l l' f f' s s' best w x at0 left i j r k0 k2 v v1 v2 v9 v10 v12 v13 : Int32}
theorem MVb_0 (h : MVa mv foot told st l) : MVb mv foot told st l 0 := ⟨h, fun g h1 h2 => by have z := z_i0; omega⟩
theorem MVb_s (h : MVb1 mv foot told st l f) (hf : f'.toInt = f.toInt + 1) : MVb mv foot told st l f' := ⟨h.1, fun g h1 h2 => h.2 g h1 (by omega)⟩
theorem MVb1_sk1 (h : MVb mv foot told st l f) (h8 : f.toInt < 8) (hst : st.toInt ≤ f.toInt) : MVb1 mv foot told st l f := by
  refine ⟨h.1, fun g h1 h2 hv => ?_⟩
  refine h.2 g h1 ?_ hv
  rcases hv with h3 | ⟨h3, -⟩ <;> omega
theorem MVb1_sk2 (h : MVb mv foot told st l f) (h8 : 0 ≤ f.toInt ∧ f.toInt < 8) (e1 : v1 = l >>> (f &&& 31)) (e2 : v2 = v1 &&& 1) (hh : Int32.toInt v2 = Int32.toInt 1) : MVb1 mv foot told st l f := by
  have hb := has_1 e1 e2 hh (by omega)
  refine ⟨h.1, fun g h1 h2 hv => ?_⟩
  by_cases hg : g.toInt = f.toInt
  · obtain rfl : g = f := (fa_eq _ _).mpr hg
    rcases hv with h3 | ⟨-, h3⟩
    · omega
    · rw [hb] at h3; exact absurd h3 (by decide)
  · exact h.2 g h1 (by omega) hv
theorem MVa_s (h : MVb mv foot told st l f) (hf : 8 < f.toInt) (hl : l'.toInt = l.toInt + 1) (h8 : st.toInt ≤ 8) : MVa mv foot told st l' := by
  intro a h1 h2 g h3 hv
  by_cases ha : a.toInt = l.toInt
  · obtain rfl : a = l := (fa_eq _ _).mpr ha
    refine h.2 g h3 ?_ hv
    rcases hv with h4 | ⟨h4, -⟩ <;> omega
  · exact h.1 a h1 (by omega) g h3 hv
theorem MVa_0 (h : l.toInt = 0) : MVa mv foot told st l := fun a h1 h2 => by omega
theorem VAL_8 (h : f.toInt = 8) : VAL st f l := Or.inl h
theorem VAL_b (hf : 0 ≤ f.toInt ∧ f.toInt < 8) (hs : f.toInt < st.toInt) (e1 : v1 = l >>> (f &&& 31)) (e2 : v2 = v1 &&& 1) (hh : ¬ Int32.toInt v2 = Int32.toInt 1) : VAL st f l := Or.inr ⟨hs, has_0 e1 e2 hh (by omega)⟩
theorem sh_pow (hst : 0 ≤ st.toInt ∧ st.toInt ≤ 8) (e : v = 1 <<< (st &&& 31)) : v.toInt = ((2 ^ st.toInt.toNat : Nat) : Int) := by
  have e2 := tp_nI hst.1
  obtain ⟨n, hn⟩ : ∃ n, n = st.toInt.toNat := ⟨_, rfl⟩
  rw [← hn] at e2 ⊢
  rw [e, e2]
  exact ti_s1 n (by omega)
theorem LB_of (e : v = 1 <<< (st &&& 31)) (hst : 0 ≤ st.toInt ∧ st.toInt ≤ 8) (h0 : 0 ≤ l.toInt) (hc : l.toInt ≤ v.toInt - 1) : LB l st := by
  intro k hk
  have h1 := sh_pow hst e
  by_cases h2 : st.toInt.toNat ≤ k
  · rw [bt_lt l st.toInt.toNat (by omega) k h2] at hk
    exact absurd hk (by decide)
  · omega
theorem LB_c (h : LB l st) : LB (l &&& w) st := by
  intro k hk
  rw [bt_and] at hk
  exact h k (by cases hb : bt l k <;> simp_all)
theorem LB_e (h : LB l st) (e : l' = l &&& w) : LB l' st := by rw [e]; exact LB_c h
theorem MVT_of (h : MVa mv foot told st l) (e : v = 1 <<< (st &&& 31)) (hst : 0 ≤ st.toInt ∧ st.toInt ≤ 8) (hc : v.toInt - 1 < l.toInt) : MVT mv foot told st := by
  intro a h1 h2 g h3 hv
  refine h a h1 ?_ g h3 hv
  have h4 := sh_pow hst e
  have h5 := bt_bound a st.toInt.toNat (by omega) (fun k hk => by
    cases hb : bt a k
    · rfl
    · have := h2 k hb; omega)
  omega
theorem PB_init (h : (l.toInt = 0 ∧ best.toInt = 0) ∨ (l.toInt ≠ 0 ∧ best.toInt = 1000000)) : PB mv foot told l f 0 best := by
  refine ⟨fun t h1 h2 => by have z := z_i0; omega, ?_⟩
  rcases h with h | h
  · exact Or.inl h
  · exact Or.inr (Or.inl h)
theorem PB_s (h : PB1 mv foot told l f s best) (hs : s'.toInt = s.toInt + 1) : PB mv foot told l f s' best := by
  refine ⟨fun t h1 h2 => h.1 t h1 (by omega), ?_⟩
  rcases h.2 with h3 | h3 | ⟨t, h3, h4, h5⟩
  · exact Or.inl h3
  · exact Or.inr (Or.inl h3)
  · exact Or.inr (Or.inr ⟨t, h3, by omega, h5⟩)
theorem PB_1 (h : PB mv foot told l f s best) (hk : bt l s.toInt.toNat = false) : PB1 mv foot told l f s best := by
  refine ⟨fun t h1 h2 h3 => ?_, ?_⟩
  · by_cases ht : t.toInt = s.toInt
    · rw [ht, hk] at h3; exact absurd h3 (by decide)
    · exact h.1 t h1 (by omega) h3
  · rcases h.2 with h3 | h3 | ⟨t, h3, h4, h5⟩
    · exact Or.inl h3
    · exact Or.inr (Or.inl h3)
    · exact Or.inr (Or.inr ⟨t, h3, by omega, h5⟩)
theorem PB_skip (h : PB mv foot told l f s best) (hs : 0 ≤ s.toInt ∧ s.toInt ≤ 8) (e1 : v1 = l >>> (s &&& 31)) (e2 : v2 = v1 &&& 1) (hh : ¬ Int32.toInt v2 = Int32.toInt 1) : PB1 mv foot told l f s best := PB_1 h (has_0 e1 e2 hh (by omega))
theorem lad_of (hk : (f.toInt = 8 ∧ k2.toInt = -1) ∨ (f.toInt ≠ 8 ∧ k2.toInt = f.toInt)) : k2 = lad f := by
  unfold lad
  rcases hk with ⟨h1, h2⟩ | ⟨h1, h2⟩
  · rw [if_pos h1]; exact (fa_eq _ _).mpr (by rw [h2]; decide)
  · rw [if_neg h1]; exact (fa_eq _ _).mpr h2
theorem ent_i (hi : i.toInt = 256 * f.toInt + l.toInt) (hf : 0 ≤ f.toInt) (hl : 0 ≤ l.toInt) : ent mv f l = Int32.toInt (mv i.toNatClampNeg) := by
  have ei : i.toNatClampNeg = i.toInt.toNat := rfl
  unfold ent
  rw [show 256 * f.toInt.toNat + l.toInt.toNat = i.toNatClampNeg by omega]
theorem PB_add (h : PB mv foot told l f s k0) (hm : MVb mv foot told st l f) (hb : bt l s.toInt.toNat = true) (er : r = mvo foot told k2 s) (hk : (f.toInt = 8 ∧ k2.toInt = -1) ∨ (f.toInt ≠ 8 ∧ k2.toInt = f.toInt)) (e9 : v9 = 1 <<< (s &&& 31)) (e10 : v10 = l &&& (v9 ^^^ (-1))) (e12 : v12 = r + mv i.toNatClampNeg) (hi : i.toInt = 256 * s.toInt + v10.toInt) (e13 : v13 = if v12 < k0 then v12 else k0) (hs : 0 ≤ s.toInt ∧ s.toInt < st.toInt) (h8 : st.toInt ≤ 8) (hl : 0 ≤ l.toInt ∧ l.toInt ≤ 255) (hf : ∀ k : Nat, 0 ≤ Int32.toInt (foot k) ∧ Int32.toInt (foot k) ≤ 99) (ht : ∀ k : Nat, k = 3 → 0 ≤ Int32.toInt (told k) ∧ Int32.toInt (told k) ≤ 9) : PB1 mv foot told l f s v13 := by
  obtain rfl := lad_of hk
  have ec : v10 = clr l s := by rw [e10, e9]; rfl
  have c1 := clr_lt hl.1 (by omega) hb
  rw [← ec] at c1
  have o := hm.1 v10 c1.1 c1.2 s hs.1 (by rw [ec]; exact clr_val hs h8)
  have o1 := o.1
  have m := mvo_rng hf ht (lad f) s
  have en := ent_i (mv := mv) hi hs.1 c1.1
  rw [en] at o1
  have a12 : v12.toInt = (mvo foot told (lad f) s).toInt + ent mv s (clr l s) := by
    rw [e12, er, ta_add _ _ (by omega), ← ec, en]
  by_cases hc : v12 < k0
  · rw [if_pos hc] at e13
    have hc := (fa_lt _ _).mp hc
    subst e13
    refine ⟨fun t h1 h2 h3 => ?_, Or.inr (Or.inr ⟨s, hs.1, by omega, hb, a12⟩)⟩
    by_cases ht : t.toInt = s.toInt
    · obtain rfl : t = s := (fa_eq _ _).mpr ht
      omega
    · have := h.1 t h1 (by omega) h3; omega
  · rw [if_neg hc] at e13
    have hc := mt (fa_lt _ _).mpr hc
    subst e13
    refine ⟨fun t h1 h2 h3 => ?_, ?_⟩
    · by_cases ht : t.toInt = s.toInt
      · obtain rfl : t = s := (fa_eq _ _).mpr ht
        omega
      · exact h.1 t h1 (by omega) h3
    · rcases h.2 with h3 | h3 | ⟨t, h3, h4, h5⟩
      · exact Or.inl h3
      · exact Or.inr (Or.inl h3)
      · exact Or.inr (Or.inr ⟨t, h3, by omega, h5⟩)
theorem MVb1_up (h : MVb mv foot told st l f) (hv : VAL st f l) (hlb : LB l st) (hp : PB mv foot told l f s best) (hs : st.toInt ≤ s.toInt) (hi : i.toInt = 256 * f.toInt + l.toInt) (hf0 : 0 ≤ f.toInt ∧ f.toInt ≤ 8) (h8 : 0 ≤ st.toInt ∧ st.toInt ≤ 8) (hs8 : s.toInt ≤ st.toInt) (hl : 0 ≤ l.toInt ∧ l.toInt ≤ 255) (hf : ∀ k : Nat, 0 ≤ Int32.toInt (foot k) ∧ Int32.toInt (foot k) ≤ 99) (ht : ∀ k : Nat, k = 3 → 0 ≤ Int32.toInt (told k) ∧ Int32.toInt (told k) ≤ 9) : MVb1 (upd mv i.toNatClampNeg best) foot told st l f := by
  have ei : i.toNatClampNeg = i.toInt.toNat := rfl
  have keep : ∀ g a : Int32, 0 ≤ g.toInt → 0 ≤ a.toInt → a.toInt ≤ 255 → (a.toInt ≠ l.toInt ∨ g.toInt ≠ f.toInt) → ent (upd mv i.toNatClampNeg best) g a = ent mv g a := by
    intro g a g1 a1 a2 hne
    unfold ent upd
    rw [if_neg (by omega)]
  have okk : ∀ g a : Int32, 0 ≤ g.toInt → 0 ≤ a.toInt → a.toInt ≤ l.toInt → (a.toInt ≠ l.toInt ∨ g.toInt ≠ f.toInt) → OKE mv foot told st g a → OKE (upd mv i.toNatClampNeg best) foot told st g a := by
    intro g a g1 a1 a2 hne o
    have kg := keep g a g1 a1 (by omega) hne
    refine ⟨by rw [kg]; exact o.1, fun t t1 t2 t3 => ?_, fun hz => ?_⟩
    · have c := clr_lt a1 (by omega) t3
      rw [kg, keep t (clr a t) t1 c.1 (by omega) (Or.inl (by omega))]
      exact o.2.1 t t1 t2 t3
    · obtain ⟨t, t1, t2, t3, t4⟩ := o.2.2 hz
      have c := clr_lt a1 (by omega) t3
      refine ⟨t, t1, t2, t3, ?_⟩
      rw [kg, keep t (clr a t) t1 c.1 (by omega) (Or.inl (by omega))]
      exact t4
  have own : ent (upd mv i.toNatClampNeg best) f l = best.toInt := by
    unfold ent upd
    rw [if_pos (by omega)]
  have bnd : ∀ t : Int32, 0 ≤ t.toInt → t.toInt < st.toInt → bt l t.toInt.toNat = true → 0 ≤ ent mv t (clr l t) ∧ ent mv t (clr l t) ≤ 1000 * (l.toInt - 1) := by
    intro t t1 t2 t3
    have c := clr_lt hl.1 (by omega) t3
    have o := (h.1 (clr l t) c.1 c.2 t t1 (clr_val ⟨t1, t2⟩ h8.2)).1
    omega
  refine ⟨fun a h1 h2 g h3 hv => okk g a h3 h1 (by omega) (Or.inl (by omega)) (h.1 a h1 h2 g h3 hv), fun g h1 h2 hv2 => ?_⟩
  by_cases hg : g.toInt = f.toInt
  · obtain rfl : g = f := (fa_eq _ _).mpr hg
    have le : ∀ t : Int32, 0 ≤ t.toInt → t.toInt < st.toInt → bt l t.toInt.toNat = true → ent (upd mv i.toNatClampNeg best) g l ≤ (mvo foot told (lad g) t).toInt + ent (upd mv i.toNatClampNeg best) t (clr l t) := by
      intro t t1 t2 t3
      have c := clr_lt hl.1 (by omega) t3
      rw [own, keep t (clr l t) t1 c.1 (by omega) (Or.inl (by omega))]
      exact hp.1 t t1 (by omega) t3
    have att : l.toInt ≠ 0 → ∃ t : Int32, 0 ≤ t.toInt ∧ t.toInt < st.toInt ∧ bt l t.toInt.toNat = true ∧ best.toInt = (mvo foot told (lad g) t).toInt + ent mv t (clr l t) := by
      intro hz
      have ex : ∃ k : Nat, bt l k = true := by
        apply Classical.byContradiction
        intro hn
        apply hz
        have e : l = 0 := bt_ext (fun k hk => by
          rw [bt_zero]
          cases hb : bt l k
          · rfl
          · exact absurd ⟨k, hb⟩ hn)
        rw [e]; decide
      obtain ⟨k, hk⟩ := ex
      have hk2 := hlb k hk
      have en : Int32.toInt (nI k) = (k : Int) := by
        have q := tp_o (x := nI k) (by
          show (BitVec.ofNat 32 k).toNat < _
          rw [BitVec.toNat_ofNat]; omega)
        rw [q]
        show (((BitVec.ofNat 32 k).toNat : Nat) : Int) = _
        rw [BitVec.toNat_ofNat]; omega
      have b1 := hp.1 (nI k) (by omega) (by omega) (by rw [en]; simpa using hk)
      have b2 := bnd (nI k) (by omega) (by omega) (by rw [en]; simpa using hk)
      have b3 := mvo_rng hf ht (lad g) (nI k)
      rcases hp.2 with h3 | h3 | ⟨t, t1, t2, t3, t4⟩
      · omega
      · omega
      · exact ⟨t, t1, by omega, t3, t4⟩
    refine ⟨?_, le, fun hz => ?_⟩
    · rw [own]
      by_cases hz : l.toInt = 0
      · rcases hp.2 with h3 | h3 | ⟨t, t1, t2, t3, t4⟩
        · omega
        · omega
        · have c := clr_lt hl.1 (by omega) t3
          omega
      · obtain ⟨t, t1, t2, t3, t4⟩ := att hz
        have b2 := bnd t t1 t2 t3
        have b3 := mvo_rng hf ht (lad g) t
        omega
    · obtain ⟨t, t1, t2, t3, t4⟩ := att hz
      have c := clr_lt hl.1 (by omega) t3
      refine ⟨t, t1, t2, t3, ?_⟩
      rw [own, keep t (clr l t) t1 c.1 (by omega) (Or.inl (by omega))]
      exact t4
  · exact okk g l h1 hl.1 (by omega) (Or.inr hg) (h.2 g h1 (by omega) hv2)
def RtX (mv foot told : Nat → Int32) (st at0 left x : Int32) : Prop := ∃ s : Int32, x.toInt ≤ s.toInt ∧ 0 ≤ s.toInt ∧ s.toInt < st.toInt ∧ bt left s.toInt.toNat = true ∧ ent mv (plc at0) left = (mvo foot told at0 s).toInt + ent mv s (clr left s)
def RtY (mv foot told : Nat → Int32) (st at0 left x : Int32) : Prop := ∃ s : Int32, x.toInt + 1 ≤ s.toInt ∧ 0 ≤ s.toInt ∧ s.toInt < st.toInt ∧ bt left s.toInt.toNat = true ∧ ent mv (plc at0) left = (mvo foot told at0 s).toInt + ent mv s (clr left s)
theorem plc_n (h : -1 ≤ at0.toInt ∧ at0.toInt ≤ 7) : 0 ≤ (plc at0).toInt ∧ lad (plc at0) = at0 ∧ ((at0.toInt = -1 ∧ (plc at0).toInt = 8) ∨ (at0.toInt ≠ -1 ∧ (plc at0).toInt = at0.toInt)) := by
  have l8 : Int32.toInt (8 : Int32) = 8 := by decide
  unfold plc lad
  by_cases e : at0.toInt = -1
  · rw [if_pos e, if_pos l8]
    exact ⟨by omega, ((fa_eq _ _).mpr (by rw [e]; decide)), by omega⟩
  · rw [if_neg e, if_neg (by omega)]
    exact ⟨by omega, rfl, by omega⟩
theorem RtX_0 (h : MVT mv foot told st) (hl : LB left st) (hv : VALz st (plc at0) left) (h0 : 0 ≤ left.toInt) (hne : ¬ Int32.toInt left = Int32.toInt 0) (ha : -1 ≤ at0.toInt ∧ at0.toInt ≤ 7) : RtX mv foot told st at0 left 0 := by
  have z := z_i0
  obtain ⟨p1, p2, -⟩ := plc_n ha
  obtain ⟨s, s1, s2, s3, s4⟩ := (h left h0 hl (plc at0) p1 (hv.resolve_left (by omega))).2.2 (by omega)
  rw [p2] at s4
  exact ⟨s, by omega, s1, s2, s3, s4⟩
theorem RtX_h (h : RtX mv foot told st at0 left x) (hx : 0 ≤ x.toInt ∧ x.toInt ≤ 7) (e1 : v1 = left >>> (x &&& 31)) (e2 : v2 = v1 &&& 1) (hh : ¬ Int32.toInt v2 = Int32.toInt 1) : RtY mv foot told st at0 left x := by
  have hb := has_0 e1 e2 hh (by omega)
  obtain ⟨s, s0, s1, s2, s3, s4⟩ := h
  refine ⟨s, ?_, s1, s2, s3, s4⟩
  by_cases e : s.toInt = x.toInt
  · rw [e, hb] at s3; exact absurd s3 (by decide)
  · omega
theorem RtX_n (h : RtX mv foot told st at0 left x) (hm : MVT mv foot told st) (hl : LB left st) (er : r = mvo foot told at0 x) (e9 : v9 = 1 <<< (x &&& 31)) (e10 : v10 = left &&& (v9 ^^^ (-1))) (e12 : v12 = r + mv i.toNatClampNeg) (hne : ¬ Int32.toInt v12 = Int32.toInt (mv j.toNatClampNeg)) (hi : i.toInt = 256 * x.toInt + v10.toInt) (hj : (at0.toInt = -1 ∧ j.toInt = 2048 + left.toInt) ∨ (at0.toInt ≠ -1 ∧ j.toInt = 256 * at0.toInt + left.toInt)) (ha : -1 ≤ at0.toInt ∧ at0.toInt ≤ 7) (hx : 0 ≤ x.toInt ∧ x.toInt ≤ 7) (h8 : st.toInt ≤ 8) (h0 : 0 ≤ left.toInt ∧ left.toInt ≤ 255) (hf : ∀ k : Nat, 0 ≤ Int32.toInt (foot k) ∧ Int32.toInt (foot k) ≤ 99) (ht : ∀ k : Nat, k = 3 → 0 ≤ Int32.toInt (told k) ∧ Int32.toInt (told k) ≤ 9) : RtY mv foot told st at0 left x := by
  obtain ⟨s, s0, s1, s2, s3, s4⟩ := h
  refine ⟨s, ?_, s1, s2, s3, s4⟩
  by_cases e : s.toInt = x.toInt
  · exfalso
    obtain rfl : s = x := (fa_eq _ _).mpr e
    apply hne
    obtain ⟨p1, p2, p3⟩ := plc_n ha
    have ec : v10 = clr left s := by rw [e10, e9]; rfl
    have c := clr_lt h0.1 (by omega) s3
    have o := (hm (clr left s) c.1 (LB_c hl) s s1 (clr_val ⟨s1, s2⟩ h8)).1
    have en : ent mv s (clr left s) = Int32.toInt (mv i.toNatClampNeg) := ent_i (by rw [← ec]; exact hi) s1 c.1
    have ej : ent mv (plc at0) left = Int32.toInt (mv j.toNatClampNeg) := ent_i (by omega) p1 h0.1
    have m := mvo_rng hf ht at0 s
    rw [← ej, s4, e12, er, ta_add _ _ (by omega), en]
  · omega
theorem RtX_s (h : RtY mv foot told st at0 left x) (e : w.toInt = x.toInt + 1) : RtX mv foot told st at0 left w := by
  obtain ⟨s, s0, s1, s2, s3, s4⟩ := h
  exact ⟨s, by omega, s1, s2, s3, s4⟩
theorem RtY_le (h : RtY mv foot told st at0 left x) (h8 : st.toInt ≤ 8) : x.toInt + 1 ≤ 7 := by
  obtain ⟨s, s0, s1, s2, s3, s4⟩ := h
  omega
theorem VAL_c (e : l' = left &&& (v ^^^ (-1))) (ev : v = 1 <<< (x &&& 31)) (hl : LB left st) (e1 : v1 = left >>> (x &&& 31)) (e2 : v2 = v1 &&& 1) (hh : Int32.toInt v2 = Int32.toInt 1) (hx : 0 ≤ x.toInt ∧ x.toInt ≤ 7) : VAL st (plc x) l' := by
  have hb := hl _ (has_1 e1 e2 hh (by omega))
  have p := plc_n (at0 := x) (by omega)
  refine Or.inr ⟨by omega, ?_⟩
  rw [show (plc x).toInt.toNat = x.toInt.toNat by omega, e, ev]
  have := clr_bt left x (by omega) x.toInt.toNat (by omega)
  unfold clr at this
  rw [this]
  simp
theorem VAL_i {y p : Int32} (ev : v = 1 <<< (y &&& 31)) (ey : x = y) (hx : 0 ≤ x.toInt ∧ x.toInt ≤ 7) (hs : x.toInt < st.toInt) : VAL st (plc x) (p &&& (v ^^^ (-1))) := by
  have q := plc_n (at0 := x) (by omega)
  refine Or.inr ⟨by omega, ?_⟩
  rw [show (plc x).toInt.toNat = x.toInt.toNat by omega, ev, ← ey]
  have := clr_bt p x (by omega) x.toInt.toNat (by omega)
  unfold clr at this
  rw [this]
  simp
theorem VAL_p (hx : x.toInt = -1) : VAL st (plc x) l := by
  have q := plc_n (at0 := x) (by omega)
  exact Or.inl (by omega)
theorem VALz_p (hx : x.toInt = -1) : VALz st (plc x) l := Or.inr (VAL_p hx)
theorem VALz_c (e : l' = left &&& (v ^^^ (-1))) (ev : v = 1 <<< (x &&& 31)) (hl : LB left st) (e1 : v1 = left >>> (x &&& 31)) (e2 : v2 = v1 &&& 1) (hh : Int32.toInt v2 = Int32.toInt 1) (hx : 0 ≤ x.toInt ∧ x.toInt ≤ 7) : VALz st (plc x) l' := Or.inr (VAL_c e ev hl e1 e2 hh hx)
theorem VALz_i {y p v' : Int32} (ev : v = 1 <<< (y &&& 31)) (ey : x = y) (hx : 0 ≤ x.toInt ∧ x.toInt ≤ 7) (hs : x.toInt < st.toInt ∨ st.toInt ≤ 0) (es : v' = 1 <<< (st &&& 31)) (hst : 0 ≤ st.toInt ∧ st.toInt ≤ 8) (h0 : 0 ≤ p.toInt) (hc : p.toInt ≤ v'.toInt - 1) : VALz st (plc x) (p &&& (v ^^^ (-1))) := by
  rcases hs with hs | hs
  · exact Or.inr (VAL_i ev ey hx hs)
  · left
    have h1 := sh_pow hst es
    rw [show st.toInt.toNat = 0 by omega] at h1
    have h2 : v'.toInt = 1 := h1
    have h3 := ti_andl p (v ^^^ (-1)) h0
    omega
end ROUTE
