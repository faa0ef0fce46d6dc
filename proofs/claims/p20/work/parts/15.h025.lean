theorem sh_v {now u : Nat → Int32} {m : Int32} : ∀ n : Nat, n ≤ 231 → (∀ i : Nat, i < n → itr (bd_X10_remember_11 now m) u 0 n i = u (i + 21)) ∧ (∀ i : Nat, n ≤ i → itr (bd_X10_remember_11 now m) u 0 n i = u i) := by
  have l21 : Int32.toInt (21 : Int32) = 21 := by decide
  intro n
  induction n with
  | zero => intro _; exact ⟨fun i hi => absurd hi (by omega), fun i _ => rfl⟩
  | succ n ih =>
    intro hn
    obtain ⟨i1, i2⟩ := ih (by omega)
    have i := nI_0c (k := n) (by omega)
    have e : (nI (0 + n) + 21).toNatClampNeg = n + 21 := by rw [cl_n, aAD _ _ (by omega)]; omega
    rw [itr_s, bd_X10_remember_11, i.1, e]
    refine ⟨fun j hj => ?_, fun j hj => ?_⟩
    · by_cases h : j = n
      · rw [h, upd_i]; exact i2 _ (by omega)
      · rw [aGi _ _ h]; exact i1 j (by omega)
    · rw [aGi _ _ (by omega)]; exact i2 j (by omega)
