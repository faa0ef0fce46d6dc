section
variable {l t a p0 : Int32} {sg tx ru ma : Nat → Int32}
theorem ra_122 (hs : ∀ k : Nat, sg k = tx k &&& 255) (hl : l.toInt ≤ 80) (ha : 0 ≤ a.toInt ∧ a.toInt ≤ 100) (hp : 0 ≤ p0.toInt ∧ p0.toInt ≤ 100) (h1 : aE7 a (stp l t) sg = 122) : RA l t a p0 sg tx ru ma := by
  have l1 : Int32.toInt (1 : Int32) = 1 := by decide
  have hst := stp_r l t
  have b0 := hr_c h1 (by decide)
  have b1 := p1_r (p := a) (st := (stp l t)) ha.1 (by omega) b0
  have e0 := cl_n p0
  have e1 : (p0 + 1).toNatClampNeg = p0.toInt.toNat + 1 := by rw [cl_n, aAD _ _ (by omega)]; omega
  unfold RA
  rw [aVT, h1, if_neg (by decide : ¬ (122 : Int32) = 97), if_neg (by decide : ¬ (122 : Int32) = 100), if_neg (by decide : ¬ (122 : Int32) = 104), if_neg (by decide : ¬ (122 : Int32) = 107), if_neg (by decide : ¬ (122 : Int32) = 109), if_neg (by decide : ¬ (122 : Int32) = 111), if_neg (by decide : ¬ (122 : Int32) = 112), if_pos (rfl : (122 : Int32) = 122), bBX, aUF, if_pos (rfl : (0 : Int32) = 0), sk_in b0, aMq, hr_eq hs, h1, if_neg (by decide : ¬ (122 : Int32) = 109), if_neg (by decide : ¬ (122 : Int32) = 112), if_neg (by decide : ¬ (122 : Int32) = 104), if_neg (by decide : ¬ (122 : Int32) = 100), if_neg (by decide : ¬ (122 : Int32) = 107), if_neg (by decide : ¬ (122 : Int32) = 97), if_neg (by decide : ¬ (122 : Int32) = 111), if_pos (rfl : (122 : Int32) = 122), aKM]
  rw [if_neg (by decide : ¬ (122 : Int32) = 109), aJS, if_neg (by decide : ¬ (122 : Int32) = 112), if_neg (by decide : ¬ (122 : Int32) = 104)]
  refine Or.inl ⟨122, 0, 122 * 100, a + 1, rfl, by decide, Or.inr (Or.inr ⟨by decide, rfl⟩), rfl, rfl, ?_, fun j hj => ?_, by omega, by omega⟩
  · show upd ma p0.toNatClampNeg 122 p0.toInt.toNat = 122
    rw [e0, upd_i]
  · show upd ma p0.toNatClampNeg 122 j = ma j
    rw [e0, aGi _ _ (by omega)]
end
