theorem cl_n (x : Int32) : x.toNatClampNeg = x.toInt.toNat := rfl
