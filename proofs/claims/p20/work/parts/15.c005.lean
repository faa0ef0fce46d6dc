theorem q4 {x : Int32} (h : 0 ≤ x.toInt ∧ x.toInt ≤ 16) : (4 * x).toNatClampNeg = 4 * x.toInt.toNat ∧ (4 * x + 1).toNatClampNeg = 4 * x.toInt.toNat + 1 ∧ (4 * x + 2).toNatClampNeg = 4 * x.toInt.toNat + 2 ∧ (4 * x + 3).toNatClampNeg = 4 * x.toInt.toNat + 3 := by
  have l4 : Int32.toInt (4 : Int32) = 4 := by decide
  have l1 : Int32.toInt (1 : Int32) = 1 := by decide
  have l2 : Int32.toInt (2 : Int32) = 2 := by decide
  have l3 : Int32.toInt (3 : Int32) = 3 := by decide
  have m := ta_cmul 4 x l4 (by omega)
  have a1 := aAD (4 * x) 1 (by omega)
  have a2 := aAD (4 * x) 2 (by omega)
  have a3 := aAD (4 * x) 3 (by omega)
  rw [cl_n, cl_n, cl_n, cl_n]
  omega
