theorem z21 : (Int32.toInt 21 - ((0 : Nat) : Int)).toNat = 21 := by decide
