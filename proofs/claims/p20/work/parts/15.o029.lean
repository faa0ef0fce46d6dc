theorem dec_a {w c v : Int32} (h : w.toInt = 100 * c.toInt + v.toInt) (hc : 97 ≤ c.toInt ∧ c.toInt ≤ 122) (hv : 0 ≤ v.toInt ∧ v.toInt ≤ 99) : w / 100 = c ∧ w - c * 100 = v := by
  have l : Int32.toInt (100 : Int32) = 100 := by decide
  have d := ti_div w 100 l (by omega) (by omega)
  have m := ta_mulc c 100 l (by omega)
  have s := aCA w (c * 100) (by omega)
  exact ⟨i32 (by omega), i32 (by omega)⟩
