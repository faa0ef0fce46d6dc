theorem BE_u {n i v1 v2 v3 v4 : Int32} {x h w r mx mh mw mr : Nat → Int32} (hb : BE n x h w r mx mh mw mr) (h0 : n.toInt ≤ i.toInt) (h1 : 0 ≤ n.toInt) : BE n (upd x i.toNatClampNeg v1) (upd h i.toNatClampNeg v2) (upd w i.toNatClampNeg v3) (upd r i.toNatClampNeg v4) mx mh mw mr := by
  intro j hj
  have ec := cl_n i
  have i2 : j ≠ i.toNatClampNeg := by omega
  rw [aGi _ _ i2, aGi _ _ i2, aGi _ _ i2, aGi _ _ i2]
  exact hb j hj
