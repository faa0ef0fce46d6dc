/-! orchard(): class against reference (printed by orch.py) -/
def BE (n : Int32) (x h w r mx mh mw mr : Nat → Int32) : Prop := ∀ j : Nat, (j : Int) < n.toInt → x j = mx j ∧ h j = mh j ∧ w j = mw j ∧ r j = mr j
