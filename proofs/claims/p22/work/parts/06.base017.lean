theorem gw_good {y y2 : MethodName} {b b2 : ByteArray} {n n2 : Nat} {r r2 : Option FieldType} (h : Cond.code y2 b2 n2 r2 ∈ W0) : GoodIn (gw y b n r) (gw y2 b2 n2 r2) := by
  intro w hw
  rcases List.mem_cons.mp hw with e | e
  · subst e
    exact ⟨List.mem_cons_of_mem _ h, Or.inl rfl⟩
  · exact ⟨List.mem_cons_of_mem _ e, good_of_word (List.all_eq_true.mp W0_good w e)⟩
