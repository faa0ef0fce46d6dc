/-- the class's static tables, and the rest: they lie outside A -/
def gZ (A : Nat → Prop) (U : State) (H : Heap) : Prop := ∃ tL tM : Nat, va_Z "WhereTheLadder" "LEAST_SETTING" "[I" (.ref tL) A U H ∧ va_T .int tL 5 (fun j => .int (stL j)) A U H ∧ va_Z "WhereTheLadder" "MOST_SETTING" "[I" (.ref tM) A U H ∧ va_T .int tM 5 (fun j => .int (stM j)) A U H ∧ gZX A U H
