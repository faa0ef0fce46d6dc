theorem AC_s {fr nf cf v1 v2 v3 v4 : Int32} {x h w r nF : Nat → Int32} (ha : AC fr nf x h w r nF) (h0 : 0 ≤ fr.toInt) (h1 : 0 ≤ nf.toInt ∧ nf.toInt < 16) (hc : cf.toInt = fr.toInt + nf.toInt) : AC fr (nf + 1) (upd x cf.toNatClampNeg v1) (upd h cf.toNatClampNeg v2) (upd w cf.toNatClampNeg v3) (upd r cf.toNatClampNeg v4) (upd (upd (upd (upd nF (4 * nf).toNatClampNeg v1) (4 * nf + 1).toNatClampNeg v2) (4 * nf + 2).toNatClampNeg v3) (4 * nf + 3).toNatClampNeg v4) := by
  intro j hj
  have l1 : Int32.toInt (1 : Int32) = 1 := by decide
  have e := aAD nf 1 (by omega)
  obtain ⟨e0, e1, e2, e3⟩ := q4 (x := nf) (by omega)
  have ec := cl_n cf
  rw [e0, e1, e2, e3]
  by_cases hn : j = nf.toInt.toNat
  · have i : fr.toInt.toNat + j = cf.toNatClampNeg := by omega
    rw [i, upd_i, upd_i, upd_i, upd_i, hn]
    refine ⟨?_, ?_, ?_, ?_⟩
    · rw [aGi _ _ (by omega), aGi _ _ (by omega), aGi _ _ (by omega), upd_i]
    · rw [aGi _ _ (by omega), aGi _ _ (by omega), upd_i]
    · rw [aGi _ _ (by omega), upd_i]
    · rw [upd_i]
  · have q := ha j (by omega)
    have i : fr.toInt.toNat + j ≠ cf.toNatClampNeg := by omega
    rw [aGi _ _ i, aGi _ _ i, aGi _ _ i, aGi _ _ i]
    refine ⟨?_, ?_, ?_, ?_⟩ <;> rw [aGi _ _ (by omega), aGi _ _ (by omega), aGi _ _ (by omega), aGi _ _ (by omega)]
    · exact q.1
    · exact q.2.1
    · exact q.2.2.1
    · exact q.2.2.2
