theorem URn_s {fr sd : Int32} {n f : Nat} {cells cells' u u' : Nat → Int32} (h : URn fr sd n f cells u) (hn : n < 12) (hf : f ≤ 12) (hfr : fr.toInt ≤ 16) (hc : ∀ i : Nat, (i < 8 * f ∨ 8 * f + 8 ≤ i) → cells' i = cells i) (hu : ∀ i : Nat, i < 21 * n → u' i = u i) (hnew : MRC fr sd cells' (8 * f) u' (21 * n)) : URn fr sd (n + 1) ((f + 1) % 13) cells' u' := by
  intro i hi
  by_cases h0 : i = 0
  · subst h0
    rw [show ((f + 1) % 13 + 12 - 0) % 13 = f by omega, show n + 1 - 1 - 0 = n by omega]
    exact hnew
  · have q := h (i - 1) (by omega)
    have e1 : ((f + 1) % 13 + 12 - i) % 13 = (f + 12 - (i - 1)) % 13 := by omega
    have e2 : n + 1 - 1 - i = n - 1 - (i - 1) := by omega
    have e3 : (f + 12 - (i - 1)) % 13 ≠ f := by omega
    rw [e1, e2]
    refine MRC_c q hfr (fun j hj => hc _ ?_) (fun j hj => hu _ ?_)
    · generalize (f + 12 - (i - 1)) % 13 = x at e3 ⊢
      omega
    · omega
