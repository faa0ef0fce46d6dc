theorem asd_eq {f s : Int32} {x ft mx mf : Nat → Int32} (e1 : x f.toNatClampNeg = mx f.toNatClampNeg) (e2 : ft s.toNatClampNeg = mf s.toNatClampNeg) (b1 : 0 ≤ Int32.toInt (x f.toNatClampNeg) ∧ Int32.toInt (x f.toNatClampNeg) ≤ 99) (b2 : 0 ≤ Int32.toInt (ft s.toNatClampNeg) ∧ Int32.toInt (ft s.toNatClampNeg) ≤ 99) : F_X3_aside f s x ft = F_X10_far f s mx mf := by
  rw [F_X3_aside, F_X10_far, ← e1, ← e2]
  generalize x f.toNatClampNeg = a at b1 ⊢
  generalize ft s.toNatClampNeg = b at b2 ⊢
  have s1 := aCA a b (by omega)
  have s2 := aCA b a (by omega)
  have ab := ti_abs (a - b) (by omega)
  apply i32
  by_cases c : a ≤ b
  · have d := (aAO _ _).mp c
    rw [if_pos c]; omega
  · have d := mt (aAO _ _).mpr c
    rw [if_neg c]; omega
