section
variable {l t a p0 : Int32} {sg tx ru ma : Nat → Int32}
theorem ra_104 (hs : ∀ k : Nat, sg k = tx k &&& 255) (hl : l.toInt ≤ 80) (ha : 0 ≤ a.toInt ∧ a.toInt ≤ 100) (hp : 0 ≤ p0.toInt ∧ p0.toInt ≤ 100) (h1 : aE7 a (stp l t) sg = 104) : RA l t a p0 sg tx ru ma := by
  have l1 : Int32.toInt (1 : Int32) = 1 := by decide
  have hst := stp_r l t
  have b0 := hr_c h1 (by decide)
  have b1 := p1_r (p := a) (st := (stp l t)) ha.1 (by omega) b0
  have e0 := cl_n p0
  have e1 : (p0 + 1).toNatClampNeg = p0.toInt.toNat + 1 := by rw [cl_n, aAD _ _ (by omega)]; omega
  unfold RA
  rw [aVT, h1, if_neg (by decide : ¬ (104 : Int32) = 97), if_neg (by decide : ¬ (104 : Int32) = 100), if_pos (rfl : (104 : Int32) = 104), j_X9_readAct_133, aUF, if_neg (by decide : ¬ (2 : Int32) = 0), sk_in b0, aMq, hr_eq hs, h1, if_neg (by decide : ¬ (104 : Int32) = 109), if_neg (by decide : ¬ (104 : Int32) = 112), if_pos (rfl : (104 : Int32) = 104), aKM]
  rw [if_neg (by decide : ¬ (104 : Int32) = 109), aJS, if_neg (by decide : ¬ (104 : Int32) = 112), if_pos (rfl : (104 : Int32) = 104), aFc]
  by_cases c1 : aC7 (a + 1) (stp l t) sg = -1
  · rw [c_no c1, if_pos (rfl : ((-1 : Int32), a + 1).1 = -1), m_no (d := 2) hs (show 0 ≤ (a + 1).toInt ∧ (a + 1).toInt ≤ 100 by omega) (by decide) c1]
    exact Or.inr ⟨a + 1, rfl, rfl, by omega, Or.inr b0⟩
  · have v1 := nv2_r c1
    have b2 := dg_in c1
    have b3 := p1_r (p := a + 1) (st := (stp l t)) (by omega) (by omega) b2
    have b4 := np2_r (p := a + 1) (by omega) (by omega) c1
    have s2 : Int32.toInt ((104 : Int32) * 100) = 10400 := by decide
    have s1 := aAD ((104 : Int32) * 100) (nv2 (stp l t) sg (a + 1)) (by omega)
    have s3 : Int32.toInt (104 : Int32) = 104 := by decide
    rw [c2_ok c1, if_neg (ne_m1 v1.1 : ¬ (nv2 (stp l t) sg (a + 1), np2 (stp l t) sg (a + 1)).1 = -1), m2_ok hs (show 0 ≤ (a + 1).toInt ∧ (a + 1).toInt ≤ 100 by omega) c1]
    refine Or.inl ⟨104, nv2 (stp l t) sg (a + 1), 104 * 100 + nv2 (stp l t) sg (a + 1), np2 (stp l t) sg (a + 1), rfl, by omega, Or.inr (Or.inl ⟨Or.inr rfl, by omega, ?_⟩), rfl, rfl, ?_, fun j hj => ?_, by omega, by omega⟩
    · show upd (upd ma p0.toNatClampNeg 104) (p0 + 1).toNatClampNeg (nv2 (stp l t) sg (a + 1)) (p0.toInt.toNat + 1) = nv2 (stp l t) sg (a + 1)
      rw [e1, upd_i]
    · show upd (upd ma p0.toNatClampNeg 104) (p0 + 1).toNatClampNeg (nv2 (stp l t) sg (a + 1)) p0.toInt.toNat = 104
      rw [e1, aGi _ _ (by omega), e0, upd_i]
    · show upd (upd ma p0.toNatClampNeg 104) (p0 + 1).toNatClampNeg (nv2 (stp l t) sg (a + 1)) j = ma j
      rw [e1, aGi _ _ (by omega), e0, aGi _ _ (by omega)]
end
