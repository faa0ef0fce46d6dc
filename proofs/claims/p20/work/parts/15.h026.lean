theorem m21 {m : Int32} (h : 0 ≤ m.toInt ∧ m.toInt ≤ 40) : (21 * m).toInt = 21 * m.toInt := by
  have l : Int32.toInt (21 : Int32) = 21 := by decide
  have := ta_cmul 21 m l (by omega)
  omega
