theorem vaP_m {D : va_G} {cl : List vw_C} {ws ws' : va_W} {H : Heap} (h : va_P D cl ws H) (hs : ∀ q, q ∈ ws' → q ∈ ws) : va_P D cl ws' H := by
  intro k q hk
  obtain ⟨j, hj⟩ := List.mem_iff_getElem?.mp (hs q (List.mem_of_getElem? hk))
  exact h j q hj
