theorem mpu_p : ∀ (ms : List Bool) (xs ws : va_W), ∃ l : va_W, (mpu ms xs ws).Sublist l ∧ l.Perm (mF ms ws ++ xs)
  | [], xs, _ => ⟨xs, List.nil_sublist _, List.Perm.refl _⟩
  | _ :: _, xs, [] => ⟨xs, List.nil_sublist _, List.Perm.refl _⟩
  | true :: ms, [], _ :: ws => ⟨mF ms ws ++ [], List.nil_sublist _, List.Perm.refl _⟩
  | true :: ms, x :: xs, _ :: ws => by
    obtain ⟨l, h1, h2⟩ := mpu_p ms xs ws
    exact ⟨x :: l, List.Sublist.cons_cons x h1, (List.Perm.cons x h2).trans List.perm_middle.symm⟩
  | false :: ms, xs, w :: ws => by
    obtain ⟨l, h1, h2⟩ := mpu_p ms xs ws
    exact ⟨w :: l, List.Sublist.cons_cons w h1, List.Perm.cons w h2⟩
