theorem rem_v {m : Int32} {now u : Nat → Int32} (h : 0 ≤ m.toInt ∧ m.toInt ≤ 12) : (m.toInt < 12 ∧ Int32.toInt (aNN m now u).1 = m.toInt + 1 ∧ (∀ k : Nat, k < 21 → (aNN m now u).2 (21 * m.toInt.toNat + k) = now k) ∧ (∀ i : Nat, i < 21 * m.toInt.toNat → (aNN m now u).2 i = u i)) ∨ (m.toInt = 12 ∧ Int32.toInt (aNN m now u).1 = 12 ∧ (∀ k : Nat, k < 21 → (aNN m now u).2 (231 + k) = now k) ∧ (∀ i : Nat, i < 231 → (aNN m now u).2 i = u (i + 21))) := by
  have l1 : Int32.toInt (1 : Int32) = 1 := by decide
  have l12 : Int32.toInt (12 : Int32) = 12 := by decide
  rw [aNN]
  by_cases c : m = 12
  · have d := (zJ _ _).mp c
    have s1 := aCA m 1 (by omega)
    have e := m21 (m := m - 1) (by omega)
    have a := aAD (m - 1) 1 (by omega)
    rw [if_pos c, ex_X10_remember_11, j_X10_remember_49, show (Int32.toInt 231 - ((0 : Nat) : Int)).toNat = 231 from by decide]
    obtain ⟨i1, i2⟩ := sh_v (now := now) (u := u) (m := m) 231 (by omega)
    obtain ⟨q1, q2⟩ := lay_v (p := 21 * (m - 1)) (now := now) (u := itr (bd_X10_remember_11 now m) u 0 231) (by omega)
    refine Or.inr ⟨by omega, by show Int32.toInt (m - 1 + 1) = 12; omega, fun k hk => ?_, fun i hi => ?_⟩
    · have := q1 k hk
      rw [show (21 * (m - 1)).toInt.toNat + k = 231 + k by omega] at this
      exact this
    · exact (q2 i (by omega)).trans (i1 i hi)
  · have d := mt (zJ _ _).mpr c
    have e := m21 (m := m) (by omega)
    have a := aAD m 1 (by omega)
    rw [if_neg c, j_X10_remember_49]
    obtain ⟨q1, q2⟩ := lay_v (p := 21 * m) (now := now) (u := u) (by omega)
    refine Or.inl ⟨by omega, by show Int32.toInt (m + 1) = _; omega, fun k hk => ?_, fun i hi => ?_⟩
    · have := q1 k hk
      rw [show (21 * m).toInt.toNat + k = 21 * m.toInt.toNat + k by omega] at this
      exact this
    · exact q2 i (by omega)
