def AR (n : Nat) (xa ma : Nat → Int32) : Prop := ∀ k : Nat, k < n → ∃ c v : Int32, DAC c v (ma (2 * k + 1)) ∧ Int32.toInt (xa k) = 100 * c.toInt + v.toInt ∧ ma (2 * k) = c
