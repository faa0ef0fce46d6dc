section
variable {fr ap ba gr br la he td : Int32} {now : Nat → Int32}
theorem mo_0 (hm : MO fr ap ba gr now) {j : Nat} (hj : (j : Int) < fr.toInt) : now j = 0 ↔ (bt ap j = false ∧ bt ba j = false ∧ bt gr j = false) := by
  rcases hm.1 j hj with ⟨e, a, b, c⟩ | ⟨e, a, b, c⟩ | ⟨e, a, b, c⟩ | ⟨e, a, b, c⟩ <;> rw [e, a, b, c] <;> decide
end
