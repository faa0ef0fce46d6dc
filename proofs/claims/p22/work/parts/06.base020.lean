theorem g_dis_of {isR isC : List Nat} (h : g_dis isR isC = true) : ∀ i ∈ isR, i ∉ isC := by
  intro i hi hc
  have h1 := List.all_eq_true.mp h i hi
  simp [hc] at h1
