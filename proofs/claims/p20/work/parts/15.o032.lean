theorem ar0 {xa ma : Nat → Int32} : AR (Int32.toInt (0 : Int32)).toNat xa ma := by
  intro k hk
  have e : (Int32.toInt (0 : Int32)).toNat = 0 := by decide
  rw [e] at hk
  omega
