theorem cp215 {qO qQ : Nat → Int32} {bT jC bY : Int32} {jD : Nat} {m_length oF rP dQ aJ aB bU oX : Int32} {qG m_x gR pW qR qT qA : Nat → Int32} {sd : Int32} {f k0 : Nat → Int32} (h0 : 0 ≤ sd.toInt) : ∀ k : Nat, sd.toInt + (k : Int) ≤ 8 →
    Int32.toInt (itr (aIz qO qQ bT jC bY jD m_length oF rP dQ aJ aB bU oX qG m_x gR pW qR qT qA) (sd, f, k0) 0 k).1 = sd.toInt + (k : Int)
    ∧ (∀ j : Nat, (j : Int) < sd.toInt → (itr (aIz qO qQ bT jC bY jD m_length oF rP dQ aJ aB bU oX qG m_x gR pW qR qT qA) (sd, f, k0) 0 k).2.1 j = f j ∧ (itr (aIz qO qQ bT jC bY jD m_length oF rP dQ aJ aB bU oX qG m_x gR pW qR qT qA) (sd, f, k0) 0 k).2.2 j = k0 j)
    ∧ (∀ j : Nat, j < k → (itr (aIz qO qQ bT jC bY jD m_length oF rP dQ aJ aB bU oX qG m_x gR pW qR qT qA) (sd, f, k0) 0 k).2.1 (sd.toInt.toNat + j) = qA (2 * j) ∧ (itr (aIz qO qQ bT jC bY jD m_length oF rP dQ aJ aB bU oX qG m_x gR pW qR qT qA) (sd, f, k0) 0 k).2.2 (sd.toInt.toNat + j) = qA (2 * j + 1)) := by
  intro k
  induction k with
  | zero =>
    intro _
    refine ⟨?_, fun j _ => ⟨rfl, rfl⟩, fun j hj => absurd hj (by omega)⟩
    show sd.toInt = sd.toInt + ((0 : Nat) : Int)
    omega
  | succ k ih =>
    intro hk
    obtain ⟨i1, i2, i3⟩ := ih (by omega)
    rw [itr_s, aIz]
    generalize itr (aIz qO qQ bT jC bY jD m_length oF rP dQ aJ aB bU oX qG m_x gR pW qR qT qA) (sd, f, k0) 0 k = s at i1 i2 i3 ⊢
    have l1 : Int32.toInt (1 : Int32) = 1 := by decide
    have es := aAD s.1 1 (by omega)
    have ec := cl_n s.1
    have en : Int32.toInt (nI (0 + k)) = ((0 + k : Nat) : Int) := nI_toInt (by omega)
    obtain ⟨e0, e1⟩ := q2 (x := nI (0 + k)) (by omega)
    have en2 : (Int32.toInt (nI (0 + k))).toNat = k := by omega
    rw [en2] at e0 e1
    rw [e0, e1]
    refine ⟨?_, fun j hj => ?_, fun j hj => ?_⟩
    · show Int32.toInt (s.1 + 1) = _
      omega
    · show upd s.2.1 _ _ j = _ ∧ upd s.2.2 _ _ j = _
      have i : j ≠ s.1.toNatClampNeg := by omega
      rw [aGi _ _ i, aGi _ _ i]
      exact i2 j (by omega)
    · show upd s.2.1 _ _ _ = _ ∧ upd s.2.2 _ _ _ = _
      by_cases hn : j = k
      · have i : sd.toInt.toNat + j = s.1.toNatClampNeg := by omega
        rw [i, upd_i, upd_i, hn]
        exact ⟨rfl, rfl⟩
      · have i : sd.toInt.toNat + j ≠ s.1.toNatClampNeg := by omega
        rw [aGi _ _ i, aGi _ _ i]
        exact i3 j (by omega)
