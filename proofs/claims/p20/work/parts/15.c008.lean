theorem SC_s {sd ns cs v1 v2 : Int32} {f k nS : Nat → Int32} (ha : SC sd ns f k nS) (h0 : 0 ≤ sd.toInt) (h1 : 0 ≤ ns.toInt ∧ ns.toInt < 8) (hc : cs.toInt = sd.toInt + ns.toInt) : SC sd (ns + 1) (upd f cs.toNatClampNeg v1) (upd k cs.toNatClampNeg v2) (upd (upd nS (2 * ns).toNatClampNeg v1) (2 * ns + 1).toNatClampNeg v2) := by
  intro j hj
  have l1 : Int32.toInt (1 : Int32) = 1 := by decide
  have e := aAD ns 1 (by omega)
  obtain ⟨e0, e1⟩ := q2 (x := ns) (by omega)
  have ec := cl_n cs
  rw [e0, e1]
  by_cases hn : j = ns.toInt.toNat
  · have i : sd.toInt.toNat + j = cs.toNatClampNeg := by omega
    rw [i, upd_i, upd_i, hn]
    refine ⟨?_, ?_⟩
    · rw [aGi _ _ (by omega), upd_i]
    · rw [upd_i]
  · have q := ha j (by omega)
    have i : sd.toInt.toNat + j ≠ cs.toNatClampNeg := by omega
    rw [aGi _ _ i, aGi _ _ i]
    refine ⟨?_, ?_⟩ <;> rw [aGi _ _ (by omega), aGi _ _ (by omega)]
    · exact q.1
    · exact q.2
