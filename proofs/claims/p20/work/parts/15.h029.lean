def URn (fr sd : Int32) (n f : Nat) (cells u : Nat → Int32) : Prop := ∀ i : Nat, i < n → MRC fr sd cells (8 * ((f + 12 - i) % 13)) u (21 * (n - 1 - i))
