/-- the words of nest mates, at a state -/
def gN (U : State) : Prop := ∀ w ∈ WN, va_Nw w U
