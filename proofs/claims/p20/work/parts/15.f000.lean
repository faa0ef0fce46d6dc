theorem neg1 {x : Int32} (h : x = 1) : ¬ x = 0 := by rw [h]; decide
