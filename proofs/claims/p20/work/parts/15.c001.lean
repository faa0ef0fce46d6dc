def BS (n : Int32) (f k mf mk : Nat → Int32) : Prop := ∀ j : Nat, (j : Int) < n.toInt → f j = mf j ∧ k j = mk j
