theorem vaD_mk {A : Nat → Prop} {ws : va_W} (h1 : ws.Pairwise (fun p q => p.1 ≠ q.1)) (h2 : ∀ q, q ∈ ws → A q.1) : va_D A ws := by
  refine ⟨fun i j p q hi hj e => ?_, fun k q hk => h2 q (List.mem_of_getElem? hk)⟩
  obtain ⟨hi1, ei⟩ := List.getElem?_eq_some_iff.mp hi
  obtain ⟨hj1, ej⟩ := List.getElem?_eq_some_iff.mp hj
  have hp := List.pairwise_iff_getElem.mp h1
  rcases Nat.lt_trichotomy i j with c | c | c
  · exact absurd (by rw [ei, ej]; exact e) (hp i j hi1 hj1 c)
  · exact c
  · exact absurd (by rw [ei, ej]; exact e.symm) (hp j i hj1 hi1 c)
