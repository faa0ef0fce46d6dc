theorem f8 {free : Int32} (h : 0 ≤ free.toInt ∧ free.toInt ≤ 12) : (free * 8).toInt = 8 * free.toInt := by
  have l : Int32.toInt (8 : Int32) = 8 := by decide
  have := ta_mulc free 8 l (by omega)
  omega
