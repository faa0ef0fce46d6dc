theorem wr_v {p ap ba gr br la he td cl : Int32} {cells : Nat → Int32} (h : 0 ≤ p.toInt ∧ p.toInt ≤ 96) : (F_X2_write p ap ba gr br la he td cl cells p.toInt.toNat = ap ∧ F_X2_write p ap ba gr br la he td cl cells (p.toInt.toNat + 1) = ba ∧ F_X2_write p ap ba gr br la he td cl cells (p.toInt.toNat + 2) = gr ∧ F_X2_write p ap ba gr br la he td cl cells (p.toInt.toNat + 3) = br ∧ F_X2_write p ap ba gr br la he td cl cells (p.toInt.toNat + 4) = la ∧ F_X2_write p ap ba gr br la he td cl cells (p.toInt.toNat + 5) = he ∧ F_X2_write p ap ba gr br la he td cl cells (p.toInt.toNat + 6) = td) ∧ (∀ i : Nat, (i < p.toInt.toNat ∨ p.toInt.toNat + 8 ≤ i) → F_X2_write p ap ba gr br la he td cl cells i = cells i) := by
  have l0 : Int32.toInt (0 : Int32) = 0 := by decide
  have l96 : Int32.toInt (104 - 8 : Int32) = 96 := by decide
  have a0 := cl_n p
  have ad : ∀ (c : Int32) (n : Nat), c.toInt = (n : Int) → n ≤ 7 → (p + c).toNatClampNeg = p.toInt.toNat + n := by
    intro c n hc hn
    rw [cl_n, aAD _ _ (by omega)]; omega
  have a1 := ad 1 1 (by decide) (by decide)
  have a2 := ad 2 2 (by decide) (by decide)
  have a3 := ad 3 3 (by decide) (by decide)
  have a4 := ad 4 4 (by decide) (by decide)
  have a5 := ad 5 5 (by decide) (by decide)
  have a6 := ad 6 6 (by decide) (by decide)
  have a7 := ad 7 7 (by decide) (by decide)
  rw [F_X2_write, if_neg (fun c => by have := (aAd _ _).mp c; omega), if_pos ((aAO _ _).mpr (by omega)), a0, a1, a2, a3, a4, a5, a6, a7]
  refine ⟨⟨?_, ?_, ?_, ?_, ?_, ?_, ?_⟩, fun i hi => ?_⟩
  · rw [aGi _ _ (by omega), aGi _ _ (by omega), aGi _ _ (by omega), aGi _ _ (by omega), aGi _ _ (by omega), aGi _ _ (by omega), aGi _ _ (by omega), upd_i]
  · rw [aGi _ _ (by omega), aGi _ _ (by omega), aGi _ _ (by omega), aGi _ _ (by omega), aGi _ _ (by omega), aGi _ _ (by omega), upd_i]
  · rw [aGi _ _ (by omega), aGi _ _ (by omega), aGi _ _ (by omega), aGi _ _ (by omega), aGi _ _ (by omega), upd_i]
  · rw [aGi _ _ (by omega), aGi _ _ (by omega), aGi _ _ (by omega), aGi _ _ (by omega), upd_i]
  · rw [aGi _ _ (by omega), aGi _ _ (by omega), aGi _ _ (by omega), upd_i]
  · rw [aGi _ _ (by omega), aGi _ _ (by omega), upd_i]
  · rw [aGi _ _ (by omega), upd_i]
  · rw [aGi _ _ (by omega), aGi _ _ (by omega), aGi _ _ (by omega), aGi _ _ (by omega), aGi _ _ (by omega), aGi _ _ (by omega), aGi _ _ (by omega), aGi _ _ (by omega)]
