/-! the moment: bits of the class against the reference's row now[] -/
def W3 (a b g : Bool) (v : Int32) : Prop := (v = 0 ∧ a = false ∧ b = false ∧ g = false) ∨ (v = 1 ∧ a = true ∧ b = false ∧ g = false) ∨ (v = 2 ∧ a = false ∧ b = true ∧ g = false) ∨ (v = 3 ∧ a = false ∧ b = false ∧ g = true)
