theorem URn_t {fr sd : Int32} {f : Nat} {cells cells' u u' : Nat → Int32} (h : URn fr sd 12 f cells u) (hf : f ≤ 12) (hfr : fr.toInt ≤ 16) (hc : ∀ i : Nat, (i < 8 * f ∨ 8 * f + 8 ≤ i) → cells' i = cells i) (hu : ∀ i : Nat, i < 231 → u' i = u (i + 21)) (hnew : MRC fr sd cells' (8 * f) u' 231) : URn fr sd 12 ((f + 1) % 13) cells' u' := by
  intro i hi
  by_cases h0 : i = 0
  · subst h0
    rw [show ((f + 1) % 13 + 12 - 0) % 13 = f by omega]
    exact hnew
  · have q := h (i - 1) (by omega)
    have e1 : ((f + 1) % 13 + 12 - i) % 13 = (f + 12 - (i - 1)) % 13 := by omega
    have e3 : (f + 12 - (i - 1)) % 13 ≠ f := by omega
    rw [e1]
    refine MRC_c q hfr (fun j hj => hc _ ?_) (fun j hj => ?_)
    · generalize (f + 12 - (i - 1)) % 13 = x at e3 ⊢
      omega
    · rw [hu _ (by omega)]
      congr 1
      omega
