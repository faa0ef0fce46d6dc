theorem rem2_eq (m : Int32) (u a : Nat → Int32) : F_X10_remember_b2 m u a = aNN m a u := rfl
