/-! rows that are laid: lay, remember, undo -/
theorem itr_lay {f : Int32 → (Nat → Int32) → (Nat → Int32)} {g : Nat → Nat} {v : Nat → Int32} (n : Nat) (u : Nat → Int32) (hf : ∀ (k : Nat) (s : Nat → Int32), k < n → f (nI (0 + k)) s = upd s (g k) (v k)) (hg : ∀ a b : Nat, a < n → b < n → g a = g b → a = b) : (∀ k : Nat, k < n → itr f u 0 n (g k) = v k) ∧ (∀ i : Nat, (∀ k : Nat, k < n → i ≠ g k) → itr f u 0 n i = u i) := by
  have key : ∀ m : Nat, m ≤ n → (∀ k : Nat, k < m → itr f u 0 m (g k) = v k) ∧ (∀ i : Nat, (∀ k : Nat, k < m → i ≠ g k) → itr f u 0 m i = u i) := by
    intro m
    induction m with
    | zero => intro _; exact ⟨fun k hk => absurd hk (by omega), fun i _ => rfl⟩
    | succ m ih =>
      intro hm
      obtain ⟨i1, i2⟩ := ih (by omega)
      rw [itr_s, hf m _ (by omega)]
      refine ⟨fun k hk => ?_, fun i hi => ?_⟩
      · by_cases h : k = m
        · rw [h, upd_i]
        · rw [aGi _ _ (fun e => h (hg k m (by omega) (by omega) e))]
          exact i1 k (by omega)
      · rw [aGi _ _ (hi m (by omega))]
        exact i2 i (fun k hk => hi k (by omega))
  exact key n (Nat.le_refl n)
