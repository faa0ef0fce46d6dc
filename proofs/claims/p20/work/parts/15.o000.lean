/-! day: reading the acts (printed by day.py) -/
def DAC (c v mv : Int32) : Prop := (c = 109 ∧ (0 ≤ v.toInt ∧ v.toInt ≤ 9) ∧ mv = v) ∨ ((c = 112 ∨ c = 104) ∧ (0 ≤ v.toInt ∧ v.toInt ≤ 99) ∧ mv = v) ∨ ((c = 97 ∨ c = 100 ∨ c = 107 ∨ c = 111 ∨ c = 122) ∧ v = 0)
