def stL : Nat → Int32 := fun j => if j = 4 then 1 else 0
