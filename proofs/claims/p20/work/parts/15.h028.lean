/-! what can be undone -/
def MRC (fr sd : Int32) (cells : Nat → Int32) (c : Nat) (u : Nat → Int32) (b : Nat) : Prop := MR fr sd (cells c) (cells (c + 1)) (cells (c + 2)) (cells (c + 3)) (cells (c + 4)) (cells (c + 5)) (cells (c + 6)) (fun j => u (b + j))
