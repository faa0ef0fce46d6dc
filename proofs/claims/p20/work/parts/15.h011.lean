section
variable {fr ap ba gr br la he td : Int32} {now : Nat → Int32}
theorem mo_v (hm : MO fr ap ba gr now) (h : 0 ≤ fr.toInt ∧ fr.toInt ≤ 16) (j : Nat) : bt (aUf 1 fr now) j = bt ap j ∧ bt (aUf 2 fr now) j = bt ba j ∧ bt (aUf 3 fr now) j = bt gr j ∧ bt (aUf 0 fr now) j = (decide (j < fr.toInt.toNat) && !(bt ap j || bt ba j || bt gr j)) := by
  rw [wh_bt h, wh_bt h, wh_bt h, wh_bt h]
  by_cases hj : j < fr.toInt.toNat
  · rw [decide_eq_true hj]
    rcases hm.1 j (by omega) with ⟨e, a, b, c⟩ | ⟨e, a, b, c⟩ | ⟨e, a, b, c⟩ | ⟨e, a, b, c⟩ <;> rw [e, a, b, c] <;> decide
  · rw [decide_eq_false hj]
    obtain ⟨a, b, c⟩ := hm.2 j (by omega)
    rw [a, b, c]
    simp
end
