theorem UR_note {fr sd und free mund ap ba gr br la he td cl : Int32} {cells u : Nat → Int32} (h : UR fr sd und free mund cells u) (hf : fr.toInt ≤ 16) : UR fr sd und free mund (F_X4_note ap ba gr br la he td cl free cells) u := by
  obtain ⟨h1, h2, h3, h4⟩ := h
  exact ⟨h1, h2, h3, URn_n h4 (by omega) (by omega) hf (nt_v h3).1⟩
