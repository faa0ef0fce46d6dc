theorem z16 {fr : Int32} (h : 0 ≤ fr.toInt ∧ fr.toInt ≤ 16) : (Int32.toInt fr - ((0 : Nat) : Int)).toNat = fr.toInt.toNat ∧ fr.toInt.toNat ≤ 16 ∧ ((fr.toInt.toNat : Nat) : Int) = fr.toInt := by omega
