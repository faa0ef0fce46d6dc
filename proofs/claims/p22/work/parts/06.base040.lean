/-! a call's part of the world by a mask: one pass instead of lists of places -/
def yS : List Bool → List Nat
  | [] => []
  | true :: ms => 0 :: (yS ms).map (fun i => i + 1)
  | false :: ms => (yS ms).map (fun i => i + 1)
