def stM : Nat → Int32 := fun j => if j = 3 then 9 else if j = 4 then 16 else 30
