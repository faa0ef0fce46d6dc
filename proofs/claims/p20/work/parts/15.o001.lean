theorem DAC_r {c v mv : Int32} (h : DAC c v mv) : (97 ≤ c.toInt ∧ c.toInt ≤ 122) ∧ (0 ≤ v.toInt ∧ v.toInt ≤ 99) := by
  rcases h with ⟨rfl, h, _⟩ | ⟨rfl | rfl, h, _⟩ | ⟨rfl | rfl | rfl | rfl | rfl, rfl⟩
  · exact ⟨by decide, by omega⟩
  · exact ⟨by decide, h⟩
  · exact ⟨by decide, h⟩
  · decide
  · decide
  · decide
  · decide
  · decide
