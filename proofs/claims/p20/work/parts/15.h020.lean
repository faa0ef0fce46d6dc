theorem pc_n {p c : Int32} (hp : 0 ≤ p.toInt ∧ p.toInt ≤ 1000) (hc : 0 ≤ c.toInt ∧ c.toInt ≤ 1000) : (p + c).toNatClampNeg = p.toInt.toNat + c.toInt.toNat := by
  rw [cl_n, aAD p c (by omega)]; omega
