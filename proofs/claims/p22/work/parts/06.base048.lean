theorem nd_s : ∀ l : List Nat, va_nd l = true → va_nd (l.map (fun i => i + 1)) = true
  | [], _ => rfl
  | a :: l, h => by
    simp only [va_nd, Bool.and_eq_true, decide_eq_true_eq] at h
    simp only [List.map_cons, va_nd, Bool.and_eq_true, decide_eq_true_eq]
    refine ⟨fun hm => ?_, nd_s l h.2⟩
    obtain ⟨b, hb, e⟩ := List.mem_map.mp hm
    have e2 : b = a := Nat.succ.inj e
    exact h.1 (e2 ▸ hb)
