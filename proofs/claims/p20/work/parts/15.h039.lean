theorem URn_n {fr sd : Int32} {n f : Nat} {cells cells' u : Nat → Int32} (h : URn fr sd n f cells u) (hn : n ≤ 12) (hf : f ≤ 12) (hfr : fr.toInt ≤ 16) (hc : ∀ i : Nat, (i < 8 * f ∨ 8 * f + 8 ≤ i) → cells' i = cells i) : URn fr sd n f cells' u := by
  intro i hi
  have e3 : (f + 12 - i) % 13 ≠ f := by omega
  refine MRC_c (h i hi) hfr (fun j hj => hc _ ?_) (fun j _ => rfl)
  generalize (f + 12 - i) % 13 = x at e3 ⊢
  omega
