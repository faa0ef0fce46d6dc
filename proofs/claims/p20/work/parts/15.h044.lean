theorem UR_hold {fr sd und free mund ap ba gr br la he td cl : Int32} {cells u now : Nat → Int32} (h : UR fr sd und free mund cells u) (hf : fr.toInt ≤ 16) (hm : MR fr sd ap ba gr br la he td now) : UR fr sd (F_X4_hold und free).1 (F_X4_hold und free).2 (aNN mund now u).1 (F_X4_note ap ba gr br la he td cl free cells) (aNN mund now u).2 := by
  obtain ⟨h1, h2, h3, h4⟩ := h
  obtain ⟨k1, k2⟩ := hold_v h2 h3
  obtain ⟨n1, n2⟩ := nt_v (ap := ap) (ba := ba) (gr := gr) (br := br) (la := la) (he := he) (td := td) (cl := cl) (cells := cells) h3
  have ef : (Int32.toInt (F_X4_hold und free).2).toNat = (free.toInt.toNat + 1) % 13 := by omega
  rcases rem_v (m := mund) (now := now) (u := u) (by omega) with ⟨g0, g1, g2, g3⟩ | ⟨g0, g1, g2, g3⟩
  · have eu : (Int32.toInt (F_X4_hold und free).1).toNat = und.toInt.toNat + 1 := by omega
    have em : mund.toInt.toNat = und.toInt.toNat := by omega
    rw [em] at g2 g3
    refine ⟨by omega, by omega, by omega, ?_⟩
    rw [eu, ef]
    exact URn_s h4 (by omega) (by omega) hf n1 g3 (n2 fr sd now _ _ hf hm g2)
  · have eu : (Int32.toInt (F_X4_hold und free).1).toNat = 12 := by omega
    have em : und.toInt.toNat = 12 := by omega
    rw [em] at h4
    refine ⟨by omega, by omega, by omega, ?_⟩
    rw [eu, ef]
    exact URn_t h4 (by omega) hf n1 g3 (n2 fr sd now _ _ hf hm g2)

