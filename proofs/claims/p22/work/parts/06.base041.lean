def aAi : List Bool → List Nat
  | [] => []
  | true :: ms => (aAi ms).map (fun i => i + 1)
  | false :: ms => 0 :: (aAi ms).map (fun i => i + 1)
