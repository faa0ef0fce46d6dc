/-! the work: what class and reference do to the moment -/
theorem c16 : (16 : Int32).toNatClampNeg = 16 := by decide
theorem c17 : (17 : Int32).toNatClampNeg = 17 := by decide
theorem c18 : (18 : Int32).toNatClampNeg = 18 := by decide
theorem c19 : (19 : Int32).toNatClampNeg = 19 := by decide
theorem c20 : (20 : Int32).toNatClampNeg = 20 := by decide
theorem emp_v {fr : Int32} {now : Nat → Int32} (h : 0 ≤ fr.toInt ∧ fr.toInt ≤ 16) (j : Nat) : (F_X10_empty fr now).2 j = if j < fr.toInt.toNat ∧ now j = 1 then 2 else now j := by
  obtain ⟨z, z2, _⟩ := z16 h
  have key : ∀ k : Nat, k ≤ fr.toInt.toNat → ∀ j : Nat, (itr (bd_X10_empty_4 fr) (0, now) 0 k).2 j = if j < k ∧ now j = 1 then 2 else now j := by
    intro k
    induction k with
    | zero => intro _ j; rw [if_neg (fun h9 => by omega)]; rfl
    | succ k ih =>
      intro hk j
      have i := (nI_0c (k := k) (by omega)).1
      have ih := ih (by omega)
      rw [itr_s, bd_X10_empty_4, i, j_X10_empty_35, j_X10_empty_35]
      have ek := ih k
      rw [if_neg (fun h9 => by omega)] at ek
      rw [ek]
      by_cases c : now k = 1
      · rw [if_pos c]
        show upd (itr (bd_X10_empty_4 fr) (0, now) 0 k).2 k 2 j = _
        by_cases hj : j = k
        · rw [hj, upd_i, if_pos ⟨by omega, c⟩]
        · rw [aGi _ _ hj, ih j]
          by_cases c2 : j < k ∧ now j = 1
          · rw [if_pos c2, if_pos ⟨by omega, c2.2⟩]
          · rw [if_neg c2, if_neg (fun h9 => c2 ⟨by omega, h9.2⟩)]
      · rw [if_neg c]
        show (itr (bd_X10_empty_4 fr) (0, now) 0 k).2 j = _
        rw [ih j]
        by_cases c2 : j < k ∧ now j = 1
        · rw [if_pos c2, if_pos ⟨by omega, c2.2⟩]
        · rw [if_neg c2, if_neg (fun h9 => by
            by_cases hj : j = k
            · rw [hj] at h9; exact c h9.2
            · exact c2 ⟨by omega, h9.2⟩)]
  rw [F_X10_empty, ex_X10_empty_4, z]
  exact key _ (Nat.le_refl _) j
section MOM2
variable {fr ap ba gr br la he td : Int32} {now : Nat → Int32}
theorem MO_emp (hm : MO fr ap ba gr now) (h : 0 ≤ fr.toInt ∧ fr.toInt ≤ 16) : MO fr 0 (ba ||| ap) gr (F_X10_empty fr now).2 := by
  refine ⟨fun j hj => ?_, fun j hj => ?_⟩
  · rw [emp_v h, bt_zero, bt_or]
    rcases hm.1 j hj with ⟨e, a, b, c⟩ | ⟨e, a, b, c⟩ | ⟨e, a, b, c⟩ | ⟨e, a, b, c⟩ <;> rw [a, b, c]
    · rw [if_neg (fun h9 => by rw [e] at h9; exact absurd h9.2 (by decide))]; exact Or.inl ⟨e, rfl, rfl, rfl⟩
    · rw [if_pos ⟨by omega, e⟩]; exact Or.inr (Or.inr (Or.inl ⟨rfl, rfl, rfl, rfl⟩))
    · rw [if_neg (fun h9 => by rw [e] at h9; exact absurd h9.2 (by decide))]; exact Or.inr (Or.inr (Or.inl ⟨e, rfl, rfl, rfl⟩))
    · rw [if_neg (fun h9 => by rw [e] at h9; exact absurd h9.2 (by decide))]; exact Or.inr (Or.inr (Or.inr ⟨e, rfl, rfl, rfl⟩))
  · obtain ⟨a, b, c⟩ := hm.2 j hj
    rw [bt_zero, bt_or, a, b]
    exact ⟨rfl, rfl, c⟩
theorem MQm_emp (hm : MQm fr ap ba gr br la he td now) (h : 0 ≤ fr.toInt ∧ fr.toInt ≤ 16) : MQm fr 0 (ba ||| ap) gr br la he td (F_X10_empty fr now).2 := by
  obtain ⟨m, a, b, c, d⟩ := hm
  refine ⟨MO_emp m h, ?_, ?_, ?_, ?_⟩ <;> rw [emp_v h, if_neg (fun h9 => by omega)] <;> assumption
theorem MO_u (hm : MO fr ap ba gr now) (h : fr.toInt ≤ 16) {i : Nat} (hi : 16 ≤ i) (v : Int32) : MO fr ap ba gr (upd now i v) := ⟨fun j hj => by rw [aGi _ _ (by omega)]; exact hm.1 j hj, hm.2⟩
theorem MQm_16 (hm : MQm fr ap ba gr br la he td now) (h : fr.toInt ≤ 16) (v : Int32) : MQm fr ap ba gr v la he td (upd now (16 : Int32).toNatClampNeg v) := by
  rw [c16]
  exact ⟨MO_u hm.1 h (by omega) v, (upd_i _ _ _).symm, by rw [aGi _ _ (by decide)]; exact hm.2.2.1, by rw [aGi _ _ (by decide)]; exact hm.2.2.2.1, by rw [aGi _ _ (by decide)]; exact hm.2.2.2.2⟩
theorem MQm_17 (hm : MQm fr ap ba gr br la he td now) (h : fr.toInt ≤ 16) (v : Int32) : MQm fr ap ba gr br v he td (upd now (17 : Int32).toNatClampNeg v) := by
  rw [c17]
  exact ⟨MO_u hm.1 h (by omega) v, by rw [aGi _ _ (by decide)]; exact hm.2.1, (upd_i _ _ _).symm, by rw [aGi _ _ (by decide)]; exact hm.2.2.2.1, by rw [aGi _ _ (by decide)]; exact hm.2.2.2.2⟩
theorem MQm_18 (hm : MQm fr ap ba gr br la he td now) (h : fr.toInt ≤ 16) (v : Int32) : MQm fr ap ba gr br la v td (upd now (18 : Int32).toNatClampNeg v) := by
  rw [c18]
  exact ⟨MO_u hm.1 h (by omega) v, by rw [aGi _ _ (by decide)]; exact hm.2.1, by rw [aGi _ _ (by decide)]; exact hm.2.2.1, (upd_i _ _ _).symm, by rw [aGi _ _ (by decide)]; exact hm.2.2.2.2⟩
theorem MQm_19 (hm : MQm fr ap ba gr br la he td now) (h : fr.toInt ≤ 16) (v : Int32) : MQm fr ap ba gr br la he v (upd now (19 : Int32).toNatClampNeg v) := by
  rw [c19]
  exact ⟨MO_u hm.1 h (by omega) v, by rw [aGi _ _ (by decide)]; exact hm.2.1, by rw [aGi _ _ (by decide)]; exact hm.2.2.1, by rw [aGi _ _ (by decide)]; exact hm.2.2.2.1, (upd_i _ _ _).symm⟩
theorem MQm_20 (hm : MQm fr ap ba gr br la he td now) (h : fr.toInt ≤ 16) (v : Int32) : MQm fr ap ba gr br la he td (upd now (20 : Int32).toNatClampNeg v) := by
  rw [c20]
  exact ⟨MO_u hm.1 h (by omega) v, by rw [aGi _ _ (by decide)]; exact hm.2.1, by rw [aGi _ _ (by decide)]; exact hm.2.2.1, by rw [aGi _ _ (by decide)]; exact hm.2.2.2.1, by rw [aGi _ _ (by decide)]; exact hm.2.2.2.2⟩
theorem MQm_pass (hm : MQm fr ap ba gr br la he td now) (h : fr.toInt ≤ 16) (v : Int32) : MQm fr ap ba gr br la he td (F_X10_passBy v now) := MQm_20 hm h _
end MOM2
/-! bits that a loop joins -/
theorem b_iff {a b : Bool} (h : a = true ↔ b = true) : a = b := by cases a <;> cases b <;> simp_all
theorem itr_or {f : Int32 → Int32 → Int32} {c : Nat → Prop} {v : Nat → Int32} {a : Int32} (n : Nat) (hy : ∀ (k : Nat) (s : Int32), k < n → c k → f (nI (0 + k)) s = s ||| v k) (hn : ∀ (k : Nat) (s : Int32), k < n → ¬ c k → f (nI (0 + k)) s = s) (j : Nat) : bt (itr f a 0 n) j = true ↔ bt a j = true ∨ ∃ k : Nat, k < n ∧ c k ∧ bt (v k) j = true := by
  have key : ∀ m : Nat, m ≤ n → (bt (itr f a 0 m) j = true ↔ bt a j = true ∨ ∃ k : Nat, k < m ∧ c k ∧ bt (v k) j = true) := by
    intro m
    induction m with
    | zero => intro _; exact ⟨fun h => Or.inl h, fun h => by rcases h with h | ⟨k, hk, _⟩; exact h; exact absurd hk (by omega)⟩
    | succ m ih =>
      intro hm
      have ih := ih (by omega)
      rw [itr_s]
      by_cases hc : c m
      · rw [hy m _ (by omega) hc, bt_or, Bool.or_eq_true, ih]
        constructor
        · rintro ((h | ⟨k, hk, h1, h2⟩) | h)
          · exact Or.inl h
          · exact Or.inr ⟨k, by omega, h1, h2⟩
          · exact Or.inr ⟨m, by omega, hc, h⟩
        · rintro (h | ⟨k, hk, h1, h2⟩)
          · exact Or.inl (Or.inl h)
          · by_cases hk2 : k = m
            · rw [hk2] at h2; exact Or.inr h2
            · exact Or.inl (Or.inr ⟨k, by omega, h1, h2⟩)
      · rw [hn m _ (by omega) hc, ih]
        constructor
        · rintro (h | ⟨k, hk, h1, h2⟩)
          · exact Or.inl h
          · exact Or.inr ⟨k, by omega, h1, h2⟩
        · rintro (h | ⟨k, hk, h1, h2⟩)
          · exact Or.inl h
          · by_cases hk2 : k = m
            · rw [hk2] at h1; exact absurd h1 hc
            · exact Or.inr ⟨k, by omega, h1, h2⟩
  exact key n (Nat.le_refl n)
theorem hs_0 (x : Int32) {k : Nat} (hk : k < 32) : ((x >>> (nI k &&& 31)) &&& 1) = 0 ↔ bt x k = false := by
  have i : Int32.toInt (nI k) = (k : Int) := nI_toInt (by omega)
  have q := has_v x (nI k) (by omega)
  rw [i] at q
  rw [q]
  show (if bt x k = true then (1 : Int32) else 0) = 0 ↔ _
  cases bt x k
  · exact ⟨fun _ => rfl, fun _ => rfl⟩
  · exact ⟨fun h => absurd h (by decide), fun h => absurd h (by decide)⟩
theorem hs_i (x : Int32) {f : Int32} (hf : 0 ≤ f.toInt ∧ f.toInt < 32) : ((x >>> (f &&& 31)) &&& 1) = 0 ↔ bt x f.toInt.toNat = false := by
  have q := hs_0 x (k := f.toInt.toNat) (by omega)
  rw [← tp_nI hf.1] at q
  exact q
theorem hs_10 (x : Int32) {f : Int32} (hf : 0 ≤ f.toInt ∧ f.toInt < 32) : F_X10_has x f = if bt x f.toInt.toNat = true then 1 else 0 := by
  rw [F_X10_has, has_v x f hf]
  cases bt x f.toInt.toNat
  · rfl
  · rfl
section TREE2
variable {fr sd : Int32} {x h w r ft fk mx mh mw mr mf mk st told : Nat → Int32}
theorem rp_eq (T : TR fr sd x h w r ft fk mx mh mw mr mf mk) (d : Int32) : F_X3_ripeBy d fr r = F_X10_ripeOnes d fr mr := by
  have bf := T.2.2.1
  rw [F_X3_ripeBy, F_X10_ripeOnes, ex_X3_ripeBy_4, ex_X10_ripeOnes_4]
  refine itr_cg _ (fun k s hk => ?_)
  have i := (nI_0c (k := k) (by omega)).1
  rw [bd_X3_ripeBy_4, bd_X10_ripeOnes_4, i, (T.1 k (by omega)).2.2.2, j_X3_ripeBy_28, j_X3_ripeBy_28, j_X10_ripeOnes_30, j_X10_ripeOnes_30, or0]
/-- whether b is lower than a and near, by the reference's rows -/
def lowr (mx mh : Nat → Int32) (a b : Nat) : Prop := (Int32.toInt (mx a) - Int32.toInt (mx b) ≤ 1 ∧ Int32.toInt (mx b) - Int32.toInt (mx a) ≤ 1) ∧ Int32.toInt (mh b) < Int32.toInt (mh a)
theorem ab1 {a b : Int32} (ha : 0 ≤ a.toInt ∧ a.toInt ≤ 99) (hb : 0 ≤ b.toInt ∧ b.toInt ≤ 99) : 1 < (if 0 ≤ a - b then a - b else 0 - (a - b)) ↔ ¬ (a.toInt - b.toInt ≤ 1 ∧ b.toInt - a.toInt ≤ 1) := by
  have l1 : Int32.toInt (1 : Int32) = 1 := by decide
  have s := aCA a b (by omega)
  have q := ti_abs (a - b) (by omega)
  constructor
  · intro c
    have := (aAd _ _).mp c
    omega
  · intro c
    exact (aAd _ _).mpr (by omega)
theorem lw_bt (T : TR fr sd x h w r ft fk mx mh mw mr mf mk) {f H : Int32} (hf : 0 ≤ f.toInt ∧ f.toInt < fr.toInt) (hb : bt H f.toInt.toNat = true) (j : Nat) : bt (F_X3_lowerThan f H fr x h) j = true ↔ ∃ k : Nat, k < fr.toInt.toNat ∧ (lowr mx mh f.toInt.toNat k ∧ bt H k = true) ∧ j = k := by
  obtain ⟨be, _, bf, _, bx, bh, _, _⟩ := T
  obtain ⟨z, z2, _⟩ := z16 bf
  have cf := cl_n f
  obtain ⟨ex, eh, _, _⟩ := be f.toInt.toNat (by omega)
  rw [F_X3_lowerThan, if_neg (fun c => by have := (hs_i H (f := f) (by omega)).mp c; rw [hb] at this; exact absurd this (by decide)), ex_X3_lowerThan_15, z]
  have q := itr_or (f := bd_X3_lowerThan_15 fr x h f H) (a := 0) (c := fun k => lowr mx mh f.toInt.toNat k ∧ bt H k = true) (v := fun k => 1 <<< (nI k &&& 31)) fr.toInt.toNat (fun k s hk hc => by
    have i := nI_0c (k := k) (by omega)
    obtain ⟨e1, e2, _, _⟩ := be k (by omega)
    obtain ⟨⟨c1, c2⟩, c3⟩ := hc
    rw [bd_X3_lowerThan_15, i.1, cf, e1, ex, e2, eh, if_neg (fun c => (ab1 (bx k) (bx _)).mp c ⟨by omega, by omega⟩), if_neg (fun c => by have := (aAO _ _).mp c; omega), j_X3_lowerThan_66, if_neg n10, if_neg (fun c => by rw [Nat.zero_add] at c; have := (hs_0 H (k := k) (by omega)).mp c; rw [c3] at this; exact absurd this (by decide)), aYa, Nat.zero_add]) (fun k s hk hc => by
    have i := nI_0c (k := k) (by omega)
    obtain ⟨e1, e2, _, _⟩ := be k (by omega)
    rw [bd_X3_lowerThan_15, i.1, cf, e1, ex, e2, eh, j_X3_lowerThan_65, j_X3_lowerThan_66, if_pos rfl, j_X3_lowerThan_66, if_neg n10, aYa, aYa, Nat.zero_add]
    by_cases c1 : 1 < (if 0 ≤ mx k - mx f.toInt.toNat then mx k - mx f.toInt.toNat else 0 - (mx k - mx f.toInt.toNat))
    · rw [if_pos c1]
    · rw [if_neg c1]
      by_cases c2 : mh f.toInt.toNat ≤ mh k
      · rw [if_pos c2]
      · rw [if_neg c2]
        by_cases c3 : ((H >>> (nI k &&& 31)) &&& 1) = 0
        · rw [if_pos c3]
        · exfalso
          apply hc
          have d1 := mt (ab1 (bx k) (bx f.toInt.toNat)).mpr c1
          have d2 := mt (aAO _ _).mpr c2
          have d3 := mt (hs_0 H (k := k) (by omega)).mpr c3
          refine ⟨⟨by omega, by omega⟩, ?_⟩
          cases hk2 : bt H k
          · exact absurd hk2 d3
          · rfl) j
  show bt (itr (bd_X3_lowerThan_15 fr x h f H) 0 0 fr.toInt.toNat) j = true ↔ _
  rw [q, bt_zero]
  constructor
  · rintro (h9 | ⟨k, hk, h1, h2⟩)
    · exact absurd h9 (by decide)
    · rw [bt_shlN k (by omega)] at h2
      exact ⟨k, hk, h1, of_decide_eq_true h2⟩
  · rintro ⟨k, hk, h1, h2⟩
    refine Or.inr ⟨k, hk, h1, ?_⟩
    rw [bt_shlN k (by omega)]
    exact decide_eq_true h2
theorem bl_bt (bf : 0 ≤ fr.toInt ∧ fr.toInt ≤ 16) (bx : ∀ k : Nat, 0 ≤ Int32.toInt (mx k) ∧ Int32.toInt (mx k) ≤ 99) {f H : Int32} (hf : 0 ≤ f.toInt ∧ f.toInt < fr.toInt) (j : Nat) : bt (F_X10_below f H fr mx mh) j = true ↔ ∃ k : Nat, k < fr.toInt.toNat ∧ (lowr mx mh f.toInt.toNat k ∧ bt H k = true) ∧ j = k := by
  obtain ⟨z, z2, _⟩ := z16 bf
  have cf := cl_n f
  rw [F_X10_below, ex_X10_below_5, z]
  have q := itr_or (f := bd_X10_below_5 fr mx mh f H) (a := 0) (c := fun k => lowr mx mh f.toInt.toNat k ∧ bt H k = true) (v := fun k => 1 <<< (nI k &&& 31)) fr.toInt.toNat (fun k s hk hc => by
    have i := nI_0c (k := k) (by omega)
    have i2 : (Int32.toInt (nI (0 + k))).toNat = k := by omega
    obtain ⟨⟨c1, c2⟩, c3⟩ := hc
    have c9 : ¬ mh f.toInt.toNat ≤ mh k := fun c => by have := (aAO _ _).mp c; omega
    rw [bd_X10_below_5, hs_10 H (f := nI (0 + k)) (by omega), i2, if_pos c3, if_neg n10, F_X10_isBelow, i.1, cf, if_neg (fun c => (ab1 (bx _) (bx k)).mp c ⟨by omega, by omega⟩), if_neg c9, if_neg n10, j_X10_below_42, Nat.zero_add]) (fun k s hk hc => by
    have i := nI_0c (k := k) (by omega)
    have i2 : (Int32.toInt (nI (0 + k))).toNat = k := by omega
    rw [bd_X10_below_5, hs_10 H (f := nI (0 + k)) (by omega), i2, j_X10_below_41, j_X10_below_42, j_X10_below_42, or0]
    by_cases c3 : bt H k = true
    · rw [if_pos c3, if_neg n10, F_X10_isBelow, i.1, cf]
      by_cases c1 : 1 < (if 0 ≤ mx f.toInt.toNat - mx k then mx f.toInt.toNat - mx k else 0 - (mx f.toInt.toNat - mx k))
      · rw [if_pos c1, if_pos rfl]
      · rw [if_neg c1]
        by_cases c2 : mh f.toInt.toNat ≤ mh k
        · rw [if_pos c2, if_pos rfl]
        · exfalso
          apply hc
          have d1 := mt (ab1 (bx f.toInt.toNat) (bx k)).mpr c1
          have d2 := mt (aAO _ _).mpr c2
          exact ⟨⟨by omega, by omega⟩, c3⟩
    · rw [if_neg c3, if_pos rfl]) j
  show bt (itr (bd_X10_below_5 fr mx mh f H) 0 0 fr.toInt.toNat) j = true ↔ _
  rw [q, bt_zero]
  constructor
  · rintro (h9 | ⟨k, hk, h1, h2⟩)
    · exact absurd h9 (by decide)
    · rw [bt_shlN k (by omega)] at h2
      exact ⟨k, hk, h1, of_decide_eq_true h2⟩
  · rintro ⟨k, hk, h1, h2⟩
    refine Or.inr ⟨k, hk, h1, ?_⟩
    rw [bt_shlN k (by omega)]
    exact decide_eq_true h2
theorem lw_eq (T : TR fr sd x h w r ft fk mx mh mw mr mf mk) {f H : Int32} (hf : 0 ≤ f.toInt ∧ f.toInt < fr.toInt) (hb : bt H f.toInt.toNat = true) : F_X3_lowerThan f H fr x h = F_X10_below f H fr mx mh :=
  bt_eq (fun j => b_iff ((lw_bt T hf hb j).trans (bl_bt T.2.2.1 T.2.2.2.2.1 hf j).symm))
end TREE2
