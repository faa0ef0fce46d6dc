theorem URn_b {fr sd : Int32} {n f : Nat} {cells u : Nat → Int32} (h : URn fr sd n f cells u) (hn : n ≤ 12) (hf : f ≤ 12) (h0 : 0 < n) : MRC fr sd cells (8 * ((f + 12) % 13)) u (21 * (n - 1)) ∧ URn fr sd (n - 1) ((f + 12) % 13) cells u := by
  refine ⟨h 0 h0, fun i hi => ?_⟩
  have q := h (i + 1) (by omega)
  rw [show ((f + 12) % 13 + 12 - i) % 13 = (f + 12 - (i + 1)) % 13 by omega, show n - 1 - 1 - i = n - 1 - (i + 1) by omega]
  exact q
