/-! What every walk here stands on: one list of words for all methods (W0), what a method has at hand (gc), the form of a contract (gPre, gB), a call (yW, aBn), an entry (aBJ). -/
theorem g_in {i : Int32} {n : Nat} (h : decide (¬ (i < 0 ∨ n ≤ i.toNatClampNeg)) = true) : vp_in i n := (of_decide_eq_true h : ¬ (i < 0 ∨ n ≤ i.toNatClampNeg))
