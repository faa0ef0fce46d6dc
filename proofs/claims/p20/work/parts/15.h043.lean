theorem hold_v {und free : Int32} (h2 : 0 ≤ und.toInt ∧ und.toInt ≤ 12) (h3 : 0 ≤ free.toInt ∧ free.toInt ≤ 12) : ((und.toInt < 12 ∧ Int32.toInt (F_X4_hold und free).1 = und.toInt + 1) ∨ (und.toInt = 12 ∧ Int32.toInt (F_X4_hold und free).1 = 12)) ∧ Int32.toInt (F_X4_hold und free).2 = (free.toInt + 1) % 13 := by
  have l1 : Int32.toInt (1 : Int32) = 1 := by decide
  have l12 : Int32.toInt (12 : Int32) = 12 := by decide
  have l13 : Int32.toInt (13 : Int32) = 13 := by decide
  have af := aAD free 1 (by omega)
  have rf := ti_rem (free + 1) 13 l13 (by omega) (by omega)
  have au := aAD und 1 (by omega)
  rw [F_X4_hold]
  refine ⟨?_, ?_⟩
  · show (_ ∧ Int32.toInt (if und + 1 < 12 then und + 1 else 12) = _) ∨ (_ ∧ Int32.toInt (if und + 1 < 12 then und + 1 else 12) = _)
    by_cases c : und + 1 < 12
    · have d := (aAd _ _).mp c
      rw [if_pos c]; omega
    · have d := mt (aAd _ _).mpr c
      rw [if_neg c]; omega
  · show Int32.toInt ((free + 1) - (free + 1) / 13 * 13) = _
    omega
