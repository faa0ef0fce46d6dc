theorem nt_v {free ap ba gr br la he td cl : Int32} {cells : Nat → Int32} (h3 : 0 ≤ free.toInt ∧ free.toInt ≤ 12) : (∀ i : Nat, (i < 8 * free.toInt.toNat ∨ 8 * free.toInt.toNat + 8 ≤ i) → F_X4_note ap ba gr br la he td cl free cells i = cells i) ∧ (∀ (fr sd : Int32) (now v : Nat → Int32) (b : Nat), fr.toInt ≤ 16 → MR fr sd ap ba gr br la he td now → (∀ k : Nat, k < 21 → v (b + k) = now k) → MRC fr sd (F_X4_note ap ba gr br la he td cl free cells) (8 * free.toInt.toNat) v b) := by
  have e := f8 h3
  obtain ⟨w1, w⟩ := wr_v (p := free * 8) (ap := ap) (ba := ba) (gr := gr) (br := br) (la := la) (he := he) (td := td) (cl := cl) (cells := cells) (by omega)
  have p8 : (free * 8).toInt.toNat = 8 * free.toInt.toNat := by omega
  rw [p8] at w1 w
  rw [F_X4_note]
  refine ⟨w, fun fr sd now v b hf hm hv => ?_⟩
  unfold MRC
  obtain ⟨q0, q1, q2, q3, q4, q5, q6⟩ := w1
  rw [q0, q1, q2, q3, q4, q5, q6]
  exact MR_c hm hf hv
