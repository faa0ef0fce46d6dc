def lets : Nat → Int32 := fun j => ([100, 117, 121, 119, 115, 107, 111] : List Int32).getD j 0
