theorem nd_0 (l : List Nat) (h : va_nd l = true) : va_nd (0 :: l.map (fun i => i + 1)) = true := by
  simp only [va_nd, Bool.and_eq_true, decide_eq_true_eq]
  refine ⟨fun hm => ?_, nd_s l h⟩
  obtain ⟨b, _, e⟩ := List.mem_map.mp hm
  exact absurd e (Nat.succ_ne_zero b)
