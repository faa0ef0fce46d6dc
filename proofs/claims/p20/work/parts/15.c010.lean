theorem BS_u {n i v1 v2 : Int32} {f k mf mk : Nat → Int32} (hb : BS n f k mf mk) (h0 : n.toInt ≤ i.toInt) (h1 : 0 ≤ n.toInt) : BS n (upd f i.toNatClampNeg v1) (upd k i.toNatClampNeg v2) mf mk := by
  intro j hj
  have ec := cl_n i
  have i2 : j ≠ i.toNatClampNeg := by omega
  rw [aGi _ _ i2, aGi _ _ i2]
  exact hb j hj
