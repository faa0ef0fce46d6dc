def LQ (sd la he td : Int32) : Prop := (-1 ≤ la.toInt ∧ la.toInt < sd.toInt) ∧ (0 ≤ td.toInt ∧ td.toInt ≤ 9) ∧ (he = 0 ∨ he = 1)
