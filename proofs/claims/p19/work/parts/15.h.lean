/-! the moment: bits of the class against the reference's row now[] -/
noncomputable def W3 (a b g : Bool) (v : Int32) : Prop := (v = 0 ∧ a = false ∧ b = false ∧ g = false) ∨ (v = 1 ∧ a = true ∧ b = false ∧ g = false) ∨ (v = 2 ∧ a = false ∧ b = true ∧ g = false) ∨ (v = 3 ∧ a = false ∧ b = false ∧ g = true)
noncomputable def MO (fr ap ba gr : Int32) (now : Nat → Int32) : Prop := (∀ j : Nat, (j : Int) < fr.toInt → W3 (bt ap j) (bt ba j) (bt gr j) (now j)) ∧ (∀ j : Nat, fr.toInt ≤ (j : Int) → bt ap j = false ∧ bt ba j = false ∧ bt gr j = false)
noncomputable def MQm (fr ap ba gr br la he td : Int32) (now : Nat → Int32) : Prop := MO fr ap ba gr now ∧ br = now 16 ∧ la = now 17 ∧ he = now 18 ∧ td = now 19
noncomputable def LQ (sd la he td : Int32) : Prop := (-1 ≤ la.toInt ∧ la.toInt < sd.toInt) ∧ (0 ≤ td.toInt ∧ td.toInt ≤ 9) ∧ (he = 0 ∨ he = 1)
noncomputable def MR (fr sd ap ba gr br la he td : Int32) (now : Nat → Int32) : Prop := MQm fr ap ba gr br la he td now ∧ LQ sd la he td
/-- bits that a loop gathers: one for each k for which c holds -/
theorem itr_bt {f : Int32 → Int32 → Int32} {c : Nat → Bool} (n : Nat) (hn : n ≤ 32) (hf : ∀ (k : Nat) (s : Int32), k < n → f (nI (0 + k)) s = if c k = true then s ||| (1 <<< (nI (0 + k) &&& 31)) else s) : ∀ j : Nat, bt (itr f 0 0 n) j = (decide (j < n) && c j) := by
  have key : ∀ k : Nat, k ≤ n → ∀ j : Nat, bt (itr f 0 0 k) j = (decide (j < k) && c j) := by
    intro k
    induction k with
    | zero => intro _ j; show bt 0 j = _; rw [bt_zero]; simp
    | succ k ih =>
      intro hk j
      rw [itr_s, hf k _ (by omega), Nat.zero_add]
      by_cases hc : c k = true
      · rw [if_pos hc, bt_or, ih (by omega), bt_shlN k (by omega)]
        by_cases hj : j = k
        · rw [hj, hc]; simp
        · rw [decide_eq_false hj, Bool.or_false]
          rw [show decide (j < k + 1) = decide (j < k) from decide_eq_decide.mpr (by omega)]
      · rw [if_neg hc, ih (by omega)]
        by_cases hj : j = k
        · rw [hj]; cases h9 : c k
          · simp
          · exact absurd h9 hc
        · rw [show decide (j < k + 1) = decide (j < k) from decide_eq_decide.mpr (by omega)]
  exact key n (Nat.le_refl n)
theorem z16 {fr : Int32} (h : 0 ≤ fr.toInt ∧ fr.toInt ≤ 16) : (Int32.toInt fr - ((0 : Nat) : Int)).toNat = fr.toInt.toNat ∧ fr.toInt.toNat ≤ 16 ∧ ((fr.toInt.toNat : Nat) : Int) = fr.toInt := by omega
theorem wh_bt {v fr : Int32} {now : Nat → Int32} (h : 0 ≤ fr.toInt ∧ fr.toInt ≤ 16) (j : Nat) : bt (F_X10_which v fr now) j = (decide (j < fr.toInt.toNat) && decide (now j = v)) := by
  obtain ⟨z, z2, _⟩ := z16 h
  rw [F_X10_which, ex_X10_which_5, z]
  refine itr_bt (c := fun j => decide (now j = v)) _ (by omega) (fun k s hk => ?_) j
  have i := (nI_0c (k := k) (by omega)).1
  rw [bd_X10_which_5, i]
  by_cases c : now k = v
  · rw [if_pos c, if_pos (decide_eq_true c), j_X10_which_31]
  · rw [if_neg c, if_neg (by rw [decide_eq_false c]; decide), j_X10_which_31, or0]
theorem af_t : ∀ n, n ≤ 16 → ∀ j, j < 32 → bt (((1 : Int32) <<< (nI n &&& 31)) - 1) j = decide (j < n) := by decide +kernel
theorem af_bt {fr : Int32} (h : 0 ≤ fr.toInt ∧ fr.toInt ≤ 16) (j : Nat) : bt (F_X3_allFruits fr) j = decide (j < fr.toInt.toNat) := by
  rw [F_X3_allFruits]
  have e := tp_nI h.1
  by_cases hj : j < 32
  · have q := af_t fr.toInt.toNat (by omega) j hj
    rw [← e] at q
    exact q
  · rw [bt_ge _ _ (by omega)]; exact (decide_eq_false (by omega)).symm
theorem bt_eq {x y : Int32} (h : ∀ k : Nat, bt x k = bt y k) : x = y := bt_ext (fun k _ => h k)
section MOM
variable {fr ap ba gr br la he td : Int32} {now : Nat → Int32}
theorem mo_v (hm : MO fr ap ba gr now) (h : 0 ≤ fr.toInt ∧ fr.toInt ≤ 16) (j : Nat) : bt (F_X10_which 1 fr now) j = bt ap j ∧ bt (F_X10_which 2 fr now) j = bt ba j ∧ bt (F_X10_which 3 fr now) j = bt gr j ∧ bt (F_X10_which 0 fr now) j = (decide (j < fr.toInt.toNat) && !(bt ap j || bt ba j || bt gr j)) := by
  rw [wh_bt h, wh_bt h, wh_bt h, wh_bt h]
  by_cases hj : j < fr.toInt.toNat
  · rw [decide_eq_true hj]
    rcases hm.1 j (by omega) with ⟨e, a, b, c⟩ | ⟨e, a, b, c⟩ | ⟨e, a, b, c⟩ | ⟨e, a, b, c⟩ <;> rw [e, a, b, c] <;> decide
  · rw [decide_eq_false hj]
    obtain ⟨a, b, c⟩ := hm.2 j (by omega)
    rw [a, b, c]
    simp
theorem mo_ap (hm : MO fr ap ba gr now) (h : 0 ≤ fr.toInt ∧ fr.toInt ≤ 16) : F_X10_which 1 fr now = ap := bt_eq (fun k => (mo_v hm h k).1)
theorem mo_ba (hm : MO fr ap ba gr now) (h : 0 ≤ fr.toInt ∧ fr.toInt ≤ 16) : F_X10_which 2 fr now = ba := bt_eq (fun k => (mo_v hm h k).2.1)
theorem mo_gr (hm : MO fr ap ba gr now) (h : 0 ≤ fr.toInt ∧ fr.toInt ≤ 16) : F_X10_which 3 fr now = gr := bt_eq (fun k => (mo_v hm h k).2.2.1)
theorem hg_bt (h : 0 ≤ fr.toInt ∧ fr.toInt ≤ 16) (j : Nat) : bt (F_X0_hanging fr ap ba gr) j = (decide (j < fr.toInt.toNat) && !(bt ap j || bt ba j || bt gr j)) := by
  rw [F_X0_hanging]
  by_cases hj : j < 32
  · rw [bt_and, af_bt h, bt_not _ _ hj, bt_or, bt_or]
  · rw [bt_ge _ _ (by omega), decide_eq_false (by omega)]; rfl
theorem mo_hg (hm : MO fr ap ba gr now) (h : 0 ≤ fr.toInt ∧ fr.toInt ≤ 16) : F_X10_which 0 fr now = F_X0_hanging fr ap ba gr := bt_eq (fun k => by rw [(mo_v hm h k).2.2.2, hg_bt h])
theorem mo_0 (hm : MO fr ap ba gr now) {j : Nat} (hj : (j : Int) < fr.toInt) : now j = 0 ↔ (bt ap j = false ∧ bt ba j = false ∧ bt gr j = false) := by
  rcases hm.1 j hj with ⟨e, a, b, c⟩ | ⟨e, a, b, c⟩ | ⟨e, a, b, c⟩ | ⟨e, a, b, c⟩ <;> rw [e, a, b, c] <;> decide
end MOM
/-! rows that are laid: lay, remember, undo -/
theorem itr_lay {f : Int32 → (Nat → Int32) → (Nat → Int32)} {g : Nat → Nat} {v : Nat → Int32} (n : Nat) (u : Nat → Int32) (hf : ∀ (k : Nat) (s : Nat → Int32), k < n → f (nI (0 + k)) s = upd s (g k) (v k)) (hg : ∀ a b : Nat, a < n → b < n → g a = g b → a = b) : (∀ k : Nat, k < n → itr f u 0 n (g k) = v k) ∧ (∀ i : Nat, (∀ k : Nat, k < n → i ≠ g k) → itr f u 0 n i = u i) := by
  have key : ∀ m : Nat, m ≤ n → (∀ k : Nat, k < m → itr f u 0 m (g k) = v k) ∧ (∀ i : Nat, (∀ k : Nat, k < m → i ≠ g k) → itr f u 0 m i = u i) := by
    intro m
    induction m with
    | zero => intro _; exact ⟨fun k hk => absurd hk (by omega), fun i _ => rfl⟩
    | succ m ih =>
      intro hm
      obtain ⟨i1, i2⟩ := ih (by omega)
      rw [itr_s, hf m _ (by omega)]
      refine ⟨fun k hk => ?_, fun i hi => ?_⟩
      · by_cases h : k = m
        · rw [h, upd_i]
        · rw [upd_n _ _ (fun e => h (hg k m (by omega) (by omega) e))]
          exact i1 k (by omega)
      · rw [upd_n _ _ (hi m (by omega))]
        exact i2 i (fun k hk => hi k (by omega))
  exact key n (Nat.le_refl n)
theorem z21 : (Int32.toInt 21 - ((0 : Nat) : Int)).toNat = 21 := by decide
theorem pc_n {p c : Int32} (hp : 0 ≤ p.toInt ∧ p.toInt ≤ 1000) (hc : 0 ≤ c.toInt ∧ c.toInt ≤ 1000) : (p + c).toNatClampNeg = p.toInt.toNat + c.toInt.toNat := by
  rw [cl_n, ta_add p c (by omega)]; omega
theorem lay_v {p : Int32} {now u : Nat → Int32} (hp : 0 ≤ p.toInt ∧ p.toInt ≤ 1000) : (∀ k : Nat, k < 21 → F_X10_lay p now u (p.toInt.toNat + k) = now k) ∧ (∀ i : Nat, (i < p.toInt.toNat ∨ p.toInt.toNat + 21 ≤ i) → F_X10_lay p now u i = u i) := by
  rw [F_X10_lay, ex_X10_lay_2, z21]
  have q := itr_lay (f := bd_X10_lay_2 now p) (g := fun k => p.toInt.toNat + k) (v := now) 21 u (fun k s hk => by
    have i := nI_0c (k := k) (by omega)
    rw [bd_X10_lay_2, i.1, pc_n hp (by omega)]
    have e : (Int32.toInt (nI (0 + k))).toNat = k := by omega
    rw [e]) (fun a b _ _ h => by omega)
  exact ⟨q.1, fun i hi => q.2 i (fun k hk => by omega)⟩
theorem lay2_v {p : Int32} {now u : Nat → Int32} (hp : 0 ≤ p.toInt ∧ p.toInt ≤ 1000) : (∀ k : Nat, k < 21 → F_X10_lay_b2 p now u (p.toInt.toNat + k) = now k) ∧ (∀ i : Nat, (i < p.toInt.toNat ∨ p.toInt.toNat + 21 ≤ i) → F_X10_lay_b2 p now u i = u i) := lay_v hp
theorem lay3_v {p : Int32} {now u : Nat → Int32} (hp : 0 ≤ p.toInt ∧ p.toInt ≤ 1000) : (∀ k : Nat, k < 21 → F_X10_lay_b3 p u now (p.toInt.toNat + k) = now k) ∧ (∀ i : Nat, (i < p.toInt.toNat ∨ p.toInt.toNat + 21 ≤ i) → F_X10_lay_b3 p u now i = u i) := lay_v hp
theorem lay4_v {p : Int32} {now u : Nat → Int32} (hp : 0 ≤ p.toInt ∧ p.toInt ≤ 1000) : (∀ k : Nat, k < 21 → F_X10_lay_b4 p now u (p.toInt.toNat + k) = now k) ∧ (∀ i : Nat, (i < p.toInt.toNat ∨ p.toInt.toNat + 21 ≤ i) → F_X10_lay_b4 p now u i = u i) := lay_v hp
theorem sh_v {now u : Nat → Int32} {m : Int32} : ∀ n : Nat, n ≤ 231 → (∀ i : Nat, i < n → itr (bd_X10_remember_11 now m) u 0 n i = u (i + 21)) ∧ (∀ i : Nat, n ≤ i → itr (bd_X10_remember_11 now m) u 0 n i = u i) := by
  have l21 : Int32.toInt (21 : Int32) = 21 := by decide
  intro n
  induction n with
  | zero => intro _; exact ⟨fun i hi => absurd hi (by omega), fun i _ => rfl⟩
  | succ n ih =>
    intro hn
    obtain ⟨i1, i2⟩ := ih (by omega)
    have i := nI_0c (k := n) (by omega)
    have e : (nI (0 + n) + 21).toNatClampNeg = n + 21 := by rw [cl_n, ta_add _ _ (by omega)]; omega
    rw [itr_s, bd_X10_remember_11, i.1, e]
    refine ⟨fun j hj => ?_, fun j hj => ?_⟩
    · by_cases h : j = n
      · rw [h, upd_i]; exact i2 _ (by omega)
      · rw [upd_n _ _ h]; exact i1 j (by omega)
    · rw [upd_n _ _ (by omega)]; exact i2 j (by omega)
theorem m21 {m : Int32} (h : 0 ≤ m.toInt ∧ m.toInt ≤ 40) : (21 * m).toInt = 21 * m.toInt := by
  have l : Int32.toInt (21 : Int32) = 21 := by decide
  have := ta_cmul 21 m l (by omega)
  omega
theorem rem_v {m : Int32} {now u : Nat → Int32} (h : 0 ≤ m.toInt ∧ m.toInt ≤ 12) : (m.toInt < 12 ∧ Int32.toInt (F_X10_remember m now u).1 = m.toInt + 1 ∧ (∀ k : Nat, k < 21 → (F_X10_remember m now u).2 (21 * m.toInt.toNat + k) = now k) ∧ (∀ i : Nat, i < 21 * m.toInt.toNat → (F_X10_remember m now u).2 i = u i)) ∨ (m.toInt = 12 ∧ Int32.toInt (F_X10_remember m now u).1 = 12 ∧ (∀ k : Nat, k < 21 → (F_X10_remember m now u).2 (231 + k) = now k) ∧ (∀ i : Nat, i < 231 → (F_X10_remember m now u).2 i = u (i + 21))) := by
  have l1 : Int32.toInt (1 : Int32) = 1 := by decide
  have l12 : Int32.toInt (12 : Int32) = 12 := by decide
  rw [F_X10_remember]
  by_cases c : m = 12
  · have d := (fa_eq _ _).mp c
    have s1 := ta_sub m 1 (by omega)
    have e := m21 (m := m - 1) (by omega)
    have a := ta_add (m - 1) 1 (by omega)
    rw [if_pos c, ex_X10_remember_11, j_X10_remember_49, show (Int32.toInt 231 - ((0 : Nat) : Int)).toNat = 231 from by decide]
    obtain ⟨i1, i2⟩ := sh_v (now := now) (u := u) (m := m) 231 (by omega)
    obtain ⟨q1, q2⟩ := lay_v (p := 21 * (m - 1)) (now := now) (u := itr (bd_X10_remember_11 now m) u 0 231) (by omega)
    refine Or.inr ⟨by omega, by show Int32.toInt (m - 1 + 1) = 12; omega, fun k hk => ?_, fun i hi => ?_⟩
    · have := q1 k hk
      rw [show (21 * (m - 1)).toInt.toNat + k = 231 + k by omega] at this
      exact this
    · exact (q2 i (by omega)).trans (i1 i hi)
  · have d := mt (fa_eq _ _).mpr c
    have e := m21 (m := m) (by omega)
    have a := ta_add m 1 (by omega)
    rw [if_neg c, j_X10_remember_49]
    obtain ⟨q1, q2⟩ := lay_v (p := 21 * m) (now := now) (u := u) (by omega)
    refine Or.inl ⟨by omega, by show Int32.toInt (m + 1) = _; omega, fun k hk => ?_, fun i hi => ?_⟩
    · have := q1 k hk
      rw [show (21 * m).toInt.toNat + k = 21 * m.toInt.toNat + k by omega] at this
      exact this
    · exact q2 i (by omega)
/-! what can be undone -/
noncomputable def MRC (fr sd : Int32) (cells : Nat → Int32) (c : Nat) (u : Nat → Int32) (b : Nat) : Prop := MR fr sd (cells c) (cells (c + 1)) (cells (c + 2)) (cells (c + 3)) (cells (c + 4)) (cells (c + 5)) (cells (c + 6)) (fun j => u (b + j))
noncomputable def URn (fr sd : Int32) (n f : Nat) (cells u : Nat → Int32) : Prop := ∀ i : Nat, i < n → MRC fr sd cells (8 * ((f + 12 - i) % 13)) u (21 * (n - 1 - i))
noncomputable def UR (fr sd und free mund : Int32) (cells u : Nat → Int32) : Prop := und.toInt = mund.toInt ∧ (0 ≤ und.toInt ∧ und.toInt ≤ 12) ∧ (0 ≤ free.toInt ∧ free.toInt ≤ 12) ∧ URn fr sd und.toInt.toNat free.toInt.toNat cells u
theorem MO_c {fr ap ba gr : Int32} {f g : Nat → Int32} (h : MO fr ap ba gr f) (hf : fr.toInt ≤ 16) (e : ∀ j : Nat, j < 21 → g j = f j) : MO fr ap ba gr g := ⟨fun j hj => by rw [e j (by omega)]; exact h.1 j hj, h.2⟩
theorem MQm_c {fr ap ba gr br la he td : Int32} {f g : Nat → Int32} (h : MQm fr ap ba gr br la he td f) (hf : fr.toInt ≤ 16) (e : ∀ j : Nat, j < 21 → g j = f j) : MQm fr ap ba gr br la he td g := ⟨MO_c h.1 hf e, by rw [e 16 (by omega)]; exact h.2.1, by rw [e 17 (by omega)]; exact h.2.2.1, by rw [e 18 (by omega)]; exact h.2.2.2.1, by rw [e 19 (by omega)]; exact h.2.2.2.2⟩
theorem MR_c {fr sd ap ba gr br la he td : Int32} {f g : Nat → Int32} (h : MR fr sd ap ba gr br la he td f) (hf : fr.toInt ≤ 16) (e : ∀ j : Nat, j < 21 → g j = f j) : MR fr sd ap ba gr br la he td g := ⟨MQm_c h.1 hf e, h.2⟩
theorem MRC_c {fr sd : Int32} {c1 c2 u1 u2 : Nat → Int32} {a1 a2 b1 b2 : Nat} (h : MRC fr sd c1 a1 u1 b1) (hf : fr.toInt ≤ 16) (e : ∀ j : Nat, j < 7 → c2 (a2 + j) = c1 (a1 + j)) (e2 : ∀ j : Nat, j < 21 → u2 (b2 + j) = u1 (b1 + j)) : MRC fr sd c2 a2 u2 b2 := by
  have q := MR_c h hf e2
  unfold MRC
  have e0 := e 0 (by omega)
  rw [Nat.add_zero, Nat.add_zero] at e0
  rw [e0, e 1 (by omega), e 2 (by omega), e 3 (by omega), e 4 (by omega), e 5 (by omega), e 6 (by omega)]
  exact q
theorem wr_v {p ap ba gr br la he td cl : Int32} {cells : Nat → Int32} (h : 0 ≤ p.toInt ∧ p.toInt ≤ 96) : (F_X2_write p ap ba gr br la he td cl cells p.toInt.toNat = ap ∧ F_X2_write p ap ba gr br la he td cl cells (p.toInt.toNat + 1) = ba ∧ F_X2_write p ap ba gr br la he td cl cells (p.toInt.toNat + 2) = gr ∧ F_X2_write p ap ba gr br la he td cl cells (p.toInt.toNat + 3) = br ∧ F_X2_write p ap ba gr br la he td cl cells (p.toInt.toNat + 4) = la ∧ F_X2_write p ap ba gr br la he td cl cells (p.toInt.toNat + 5) = he ∧ F_X2_write p ap ba gr br la he td cl cells (p.toInt.toNat + 6) = td) ∧ (∀ i : Nat, (i < p.toInt.toNat ∨ p.toInt.toNat + 8 ≤ i) → F_X2_write p ap ba gr br la he td cl cells i = cells i) := by
  have l0 : Int32.toInt (0 : Int32) = 0 := by decide
  have l96 : Int32.toInt (104 - 8 : Int32) = 96 := by decide
  have a0 := cl_n p
  have ad : ∀ (c : Int32) (n : Nat), c.toInt = (n : Int) → n ≤ 7 → (p + c).toNatClampNeg = p.toInt.toNat + n := by
    intro c n hc hn
    rw [cl_n, ta_add _ _ (by omega)]; omega
  have a1 := ad 1 1 (by decide) (by decide)
  have a2 := ad 2 2 (by decide) (by decide)
  have a3 := ad 3 3 (by decide) (by decide)
  have a4 := ad 4 4 (by decide) (by decide)
  have a5 := ad 5 5 (by decide) (by decide)
  have a6 := ad 6 6 (by decide) (by decide)
  have a7 := ad 7 7 (by decide) (by decide)
  rw [F_X2_write, if_neg (fun c => by have := (fa_lt _ _).mp c; omega), if_pos ((fa_le _ _).mpr (by omega)), a0, a1, a2, a3, a4, a5, a6, a7]
  refine ⟨⟨?_, ?_, ?_, ?_, ?_, ?_, ?_⟩, fun i hi => ?_⟩
  · rw [upd_n _ _ (by omega), upd_n _ _ (by omega), upd_n _ _ (by omega), upd_n _ _ (by omega), upd_n _ _ (by omega), upd_n _ _ (by omega), upd_n _ _ (by omega), upd_i]
  · rw [upd_n _ _ (by omega), upd_n _ _ (by omega), upd_n _ _ (by omega), upd_n _ _ (by omega), upd_n _ _ (by omega), upd_n _ _ (by omega), upd_i]
  · rw [upd_n _ _ (by omega), upd_n _ _ (by omega), upd_n _ _ (by omega), upd_n _ _ (by omega), upd_n _ _ (by omega), upd_i]
  · rw [upd_n _ _ (by omega), upd_n _ _ (by omega), upd_n _ _ (by omega), upd_n _ _ (by omega), upd_i]
  · rw [upd_n _ _ (by omega), upd_n _ _ (by omega), upd_n _ _ (by omega), upd_i]
  · rw [upd_n _ _ (by omega), upd_n _ _ (by omega), upd_i]
  · rw [upd_n _ _ (by omega), upd_i]
  · rw [upd_n _ _ (by omega), upd_n _ _ (by omega), upd_n _ _ (by omega), upd_n _ _ (by omega), upd_n _ _ (by omega), upd_n _ _ (by omega), upd_n _ _ (by omega), upd_n _ _ (by omega)]
theorem f8 {free : Int32} (h : 0 ≤ free.toInt ∧ free.toInt ≤ 12) : (free * 8).toInt = 8 * free.toInt := by
  have l : Int32.toInt (8 : Int32) = 8 := by decide
  have := ta_mulc free 8 l (by omega)
  omega
theorem URn_s {fr sd : Int32} {n f : Nat} {cells cells' u u' : Nat → Int32} (h : URn fr sd n f cells u) (hn : n < 12) (hf : f ≤ 12) (hfr : fr.toInt ≤ 16) (hc : ∀ i : Nat, (i < 8 * f ∨ 8 * f + 8 ≤ i) → cells' i = cells i) (hu : ∀ i : Nat, i < 21 * n → u' i = u i) (hnew : MRC fr sd cells' (8 * f) u' (21 * n)) : URn fr sd (n + 1) ((f + 1) % 13) cells' u' := by
  intro i hi
  by_cases h0 : i = 0
  · subst h0
    rw [show ((f + 1) % 13 + 12 - 0) % 13 = f by omega, show n + 1 - 1 - 0 = n by omega]
    exact hnew
  · have q := h (i - 1) (by omega)
    have e1 : ((f + 1) % 13 + 12 - i) % 13 = (f + 12 - (i - 1)) % 13 := by omega
    have e2 : n + 1 - 1 - i = n - 1 - (i - 1) := by omega
    have e3 : (f + 12 - (i - 1)) % 13 ≠ f := by omega
    rw [e1, e2]
    refine MRC_c q hfr (fun j hj => hc _ ?_) (fun j hj => hu _ ?_)
    · generalize (f + 12 - (i - 1)) % 13 = x at e3 ⊢
      omega
    · omega
theorem URn_t {fr sd : Int32} {f : Nat} {cells cells' u u' : Nat → Int32} (h : URn fr sd 12 f cells u) (hf : f ≤ 12) (hfr : fr.toInt ≤ 16) (hc : ∀ i : Nat, (i < 8 * f ∨ 8 * f + 8 ≤ i) → cells' i = cells i) (hu : ∀ i : Nat, i < 231 → u' i = u (i + 21)) (hnew : MRC fr sd cells' (8 * f) u' 231) : URn fr sd 12 ((f + 1) % 13) cells' u' := by
  intro i hi
  by_cases h0 : i = 0
  · subst h0
    rw [show ((f + 1) % 13 + 12 - 0) % 13 = f by omega]
    exact hnew
  · have q := h (i - 1) (by omega)
    have e1 : ((f + 1) % 13 + 12 - i) % 13 = (f + 12 - (i - 1)) % 13 := by omega
    have e3 : (f + 12 - (i - 1)) % 13 ≠ f := by omega
    rw [e1]
    refine MRC_c q hfr (fun j hj => hc _ ?_) (fun j hj => ?_)
    · generalize (f + 12 - (i - 1)) % 13 = x at e3 ⊢
      omega
    · rw [hu _ (by omega)]
      congr 1
      omega
theorem URn_n {fr sd : Int32} {n f : Nat} {cells cells' u : Nat → Int32} (h : URn fr sd n f cells u) (hn : n ≤ 12) (hf : f ≤ 12) (hfr : fr.toInt ≤ 16) (hc : ∀ i : Nat, (i < 8 * f ∨ 8 * f + 8 ≤ i) → cells' i = cells i) : URn fr sd n f cells' u := by
  intro i hi
  have e3 : (f + 12 - i) % 13 ≠ f := by omega
  refine MRC_c (h i hi) hfr (fun j hj => hc _ ?_) (fun j _ => rfl)
  generalize (f + 12 - i) % 13 = x at e3 ⊢
  omega
theorem URn_b {fr sd : Int32} {n f : Nat} {cells u : Nat → Int32} (h : URn fr sd n f cells u) (hn : n ≤ 12) (hf : f ≤ 12) (h0 : 0 < n) : MRC fr sd cells (8 * ((f + 12) % 13)) u (21 * (n - 1)) ∧ URn fr sd (n - 1) ((f + 12) % 13) cells u := by
  refine ⟨h 0 h0, fun i hi => ?_⟩
  have q := h (i + 1) (by omega)
  rw [show ((f + 12) % 13 + 12 - i) % 13 = (f + 12 - (i + 1)) % 13 by omega, show n - 1 - 1 - i = n - 1 - (i + 1) by omega]
  exact q
theorem nt_v {free ap ba gr br la he td cl : Int32} {cells : Nat → Int32} (h3 : 0 ≤ free.toInt ∧ free.toInt ≤ 12) : (∀ i : Nat, (i < 8 * free.toInt.toNat ∨ 8 * free.toInt.toNat + 8 ≤ i) → F_X4_note ap ba gr br la he td cl free cells i = cells i) ∧ (∀ (fr sd : Int32) (now v : Nat → Int32) (b : Nat), fr.toInt ≤ 16 → MR fr sd ap ba gr br la he td now → (∀ k : Nat, k < 21 → v (b + k) = now k) → MRC fr sd (F_X4_note ap ba gr br la he td cl free cells) (8 * free.toInt.toNat) v b) := by
  have e := f8 h3
  obtain ⟨w1, w⟩ := wr_v (p := free * 8) (ap := ap) (ba := ba) (gr := gr) (br := br) (la := la) (he := he) (td := td) (cl := cl) (cells := cells) (by omega)
  have p8 : (free * 8).toInt.toNat = 8 * free.toInt.toNat := by omega
  rw [p8] at w1 w
  rw [F_X4_note]
  refine ⟨w, fun fr sd now v b hf hm hv => ?_⟩
  unfold MRC
  obtain ⟨q0, q1, q2, q3, q4, q5, q6⟩ := w1
  rw [q0, q1, q2, q3, q4, q5, q6]
  exact MR_c hm hf hv
theorem UR_note {fr sd und free mund ap ba gr br la he td cl : Int32} {cells u : Nat → Int32} (h : UR fr sd und free mund cells u) (hf : fr.toInt ≤ 16) : UR fr sd und free mund (F_X4_note ap ba gr br la he td cl free cells) u := by
  obtain ⟨h1, h2, h3, h4⟩ := h
  exact ⟨h1, h2, h3, URn_n h4 (by omega) (by omega) hf (nt_v h3).1⟩
theorem hold_v {und free : Int32} (h2 : 0 ≤ und.toInt ∧ und.toInt ≤ 12) (h3 : 0 ≤ free.toInt ∧ free.toInt ≤ 12) : ((und.toInt < 12 ∧ Int32.toInt (F_X4_hold und free).1 = und.toInt + 1) ∨ (und.toInt = 12 ∧ Int32.toInt (F_X4_hold und free).1 = 12)) ∧ Int32.toInt (F_X4_hold und free).2 = (free.toInt + 1) % 13 := by
  have l1 : Int32.toInt (1 : Int32) = 1 := by decide
  have l12 : Int32.toInt (12 : Int32) = 12 := by decide
  have l13 : Int32.toInt (13 : Int32) = 13 := by decide
  have af := ta_add free 1 (by omega)
  have rf := ti_rem (free + 1) 13 l13 (by omega) (by omega)
  have au := ta_add und 1 (by omega)
  rw [F_X4_hold]
  refine ⟨?_, ?_⟩
  · show (_ ∧ Int32.toInt (if und + 1 < 12 then und + 1 else 12) = _) ∨ (_ ∧ Int32.toInt (if und + 1 < 12 then und + 1 else 12) = _)
    by_cases c : und + 1 < 12
    · have d := (fa_lt _ _).mp c
      rw [if_pos c]; omega
    · have d := mt (fa_lt _ _).mpr c
      rw [if_neg c]; omega
  · show Int32.toInt ((free + 1) - (free + 1) / 13 * 13) = _
    omega
theorem UR_hold {fr sd und free mund ap ba gr br la he td cl : Int32} {cells u now : Nat → Int32} (h : UR fr sd und free mund cells u) (hf : fr.toInt ≤ 16) (hm : MR fr sd ap ba gr br la he td now) : UR fr sd (F_X4_hold und free).1 (F_X4_hold und free).2 (F_X10_remember mund now u).1 (F_X4_note ap ba gr br la he td cl free cells) (F_X10_remember mund now u).2 := by
  obtain ⟨h1, h2, h3, h4⟩ := h
  obtain ⟨k1, k2⟩ := hold_v h2 h3
  obtain ⟨n1, n2⟩ := nt_v (ap := ap) (ba := ba) (gr := gr) (br := br) (la := la) (he := he) (td := td) (cl := cl) (cells := cells) h3
  have ef : (Int32.toInt (F_X4_hold und free).2).toNat = (free.toInt.toNat + 1) % 13 := by omega
  rcases rem_v (m := mund) (now := now) (u := u) (by omega) with ⟨g0, g1, g2, g3⟩ | ⟨g0, g1, g2, g3⟩
  · have eu : (Int32.toInt (F_X4_hold und free).1).toNat = und.toInt.toNat + 1 := by omega
    have em : mund.toInt.toNat = und.toInt.toNat := by omega
    rw [em] at g2 g3
    refine ⟨by omega, by omega, by omega, ?_⟩
    rw [eu, ef]
    exact URn_s h4 (by omega) (by omega) hf n1 g3 (n2 fr sd now _ _ hf hm g2)
  · have eu : (Int32.toInt (F_X4_hold und free).1).toNat = 12 := by omega
    have em : und.toInt.toNat = 12 := by omega
    rw [em] at h4
    refine ⟨by omega, by omega, by omega, ?_⟩
    rw [eu, ef]
    exact URn_t h4 (by omega) hf n1 g3 (n2 fr sd now _ _ hf hm g2)
