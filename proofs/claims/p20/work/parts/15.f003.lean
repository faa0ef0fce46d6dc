theorem hst {p sd : Int32} (hs : 0 ≤ sd.toInt ∧ sd.toInt ≤ 100) : (aVU p sd = 0 ∧ aUD p sd = 0 ∧ (p.toInt < 0 ∨ sd.toInt ≤ p.toInt)) ∨ (aVU p sd = 1 ∧ aUD p sd = 1 ∧ 0 ≤ p.toInt ∧ p.toInt < sd.toInt) := by
  have l0 : Int32.toInt (0 : Int32) = 0 := by decide
  have l1 : Int32.toInt (1 : Int32) = 1 := by decide
  have e := aCA sd 1 (by omega)
  rw [aVU, aUD]
  by_cases c : p < 0
  · have d := (aAd _ _).mp c
    rw [if_pos c]
    rcases in01 p 0 (sd - 1) with ⟨q, _⟩ | ⟨_, q⟩
    · exact Or.inl ⟨rfl, q, by omega⟩
    · exfalso; omega
  · have d := mt (aAd _ _).mpr c
    rw [if_neg c]
    by_cases c2 : sd ≤ p
    · have d2 := (aAO _ _).mp c2
      rw [if_pos c2]
      rcases in01 p 0 (sd - 1) with ⟨q, _⟩ | ⟨_, q⟩
      · exact Or.inl ⟨rfl, q, by omega⟩
      · exfalso; omega
    · have d2 := mt (aAO _ _).mpr c2
      rw [if_neg c2]
      rcases in01 p 0 (sd - 1) with ⟨_, q⟩ | ⟨q, _⟩
      · exfalso; omega
      · exact Or.inr ⟨rfl, q, by omega, by omega⟩
