def SC (sd ns : Int32) (f k nS : Nat → Int32) : Prop := ∀ j : Nat, (j : Int) < ns.toInt → f (sd.toInt.toNat + j) = nS (2 * j) ∧ k (sd.toInt.toNat + j) = nS (2 * j + 1)
