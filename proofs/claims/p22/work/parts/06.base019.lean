def g_dis (isR isC : List Nat) : Bool := isR.all fun i => !isC.contains i
