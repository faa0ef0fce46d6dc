theorem g0_good {y2 : MethodName} {b2 : ByteArray} {n2 : Nat} {r2 : Option FieldType} (h : Cond.code y2 b2 n2 r2 ∈ W0) : GoodIn W0 (gw y2 b2 n2 r2) := by
  intro w hw
  rcases List.mem_cons.mp hw with e | e
  · subst e
    exact ⟨h, Or.inl rfl⟩
  · exact ⟨e, good_of_word (List.all_eq_true.mp W0_good w e)⟩
