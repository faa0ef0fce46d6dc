theorem or0 (x : Int32) : x ||| 0 = x := by
  apply bt_ext
  intro k _
  rw [bt_or, bt_zero, Bool.or_false]
