theorem q2 {x : Int32} (h : 0 ≤ x.toInt ∧ x.toInt ≤ 16) : (2 * x).toNatClampNeg = 2 * x.toInt.toNat ∧ (2 * x + 1).toNatClampNeg = 2 * x.toInt.toNat + 1 := by
  have l1 : Int32.toInt (1 : Int32) = 1 := by decide
  have l2 : Int32.toInt (2 : Int32) = 2 := by decide
  have m := ta_cmul 2 x l2 (by omega)
  have a1 := aAD (2 * x) 1 (by omega)
  rw [cl_n, cl_n]
  omega
