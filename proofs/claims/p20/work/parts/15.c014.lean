theorem i32 {a b : Int32} (h : a.toInt = b.toInt) : a = b := (zJ _ _).mpr h
