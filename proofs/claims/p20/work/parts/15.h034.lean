theorem MRC_c {fr sd : Int32} {c1 c2 u1 u2 : Nat → Int32} {a1 a2 b1 b2 : Nat} (h : MRC fr sd c1 a1 u1 b1) (hf : fr.toInt ≤ 16) (e : ∀ j : Nat, j < 7 → c2 (a2 + j) = c1 (a1 + j)) (e2 : ∀ j : Nat, j < 21 → u2 (b2 + j) = u1 (b1 + j)) : MRC fr sd c2 a2 u2 b2 := by
  have q := MR_c h hf e2
  unfold MRC
  have e0 := e 0 (by omega)
  rw [Nat.add_zero, Nat.add_zero] at e0
  rw [e0, e 1 (by omega), e 2 (by omega), e 3 (by omega), e 4 (by omega), e 5 (by omega), e 6 (by omega)]
  exact q
