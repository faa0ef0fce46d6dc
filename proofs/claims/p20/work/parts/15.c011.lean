theorem cp105 {qO qQ : Nat → Int32} {aG jC bY : Int32} {jD : Nat} {m_length oF rP dQ aJ aB bU oX : Int32} {nG oO qT qA : Nat → Int32} {fr : Int32} {now x h w r : Nat → Int32} (h0 : 0 ≤ fr.toInt) : ∀ k : Nat, fr.toInt + (k : Int) ≤ 16 →
    Int32.toInt (itr (aEe qO qQ aG jC bY jD m_length oF rP dQ aJ aB bU oX nG oO qT qA) (fr, now, x, h, w, r) 0 k).1 = fr.toInt + (k : Int)
    ∧ (∀ j : Nat, ((j : Int) < fr.toInt ∨ fr.toInt + (k : Int) ≤ (j : Int)) → (itr (aEe qO qQ aG jC bY jD m_length oF rP dQ aJ aB bU oX nG oO qT qA) (fr, now, x, h, w, r) 0 k).2.1 j = now j ∧ (itr (aEe qO qQ aG jC bY jD m_length oF rP dQ aJ aB bU oX nG oO qT qA) (fr, now, x, h, w, r) 0 k).2.2.1 j = x j ∧ (itr (aEe qO qQ aG jC bY jD m_length oF rP dQ aJ aB bU oX nG oO qT qA) (fr, now, x, h, w, r) 0 k).2.2.2.1 j = h j ∧ (itr (aEe qO qQ aG jC bY jD m_length oF rP dQ aJ aB bU oX nG oO qT qA) (fr, now, x, h, w, r) 0 k).2.2.2.2.1 j = w j ∧ (itr (aEe qO qQ aG jC bY jD m_length oF rP dQ aJ aB bU oX nG oO qT qA) (fr, now, x, h, w, r) 0 k).2.2.2.2.2 j = r j)
    ∧ (∀ j : Nat, j < k → (itr (aEe qO qQ aG jC bY jD m_length oF rP dQ aJ aB bU oX nG oO qT qA) (fr, now, x, h, w, r) 0 k).2.1 (fr.toInt.toNat + j) = 0 ∧ (itr (aEe qO qQ aG jC bY jD m_length oF rP dQ aJ aB bU oX nG oO qT qA) (fr, now, x, h, w, r) 0 k).2.2.1 (fr.toInt.toNat + j) = qT (4 * j) ∧ (itr (aEe qO qQ aG jC bY jD m_length oF rP dQ aJ aB bU oX nG oO qT qA) (fr, now, x, h, w, r) 0 k).2.2.2.1 (fr.toInt.toNat + j) = qT (4 * j + 1) ∧ (itr (aEe qO qQ aG jC bY jD m_length oF rP dQ aJ aB bU oX nG oO qT qA) (fr, now, x, h, w, r) 0 k).2.2.2.2.1 (fr.toInt.toNat + j) = qT (4 * j + 2) ∧ (itr (aEe qO qQ aG jC bY jD m_length oF rP dQ aJ aB bU oX nG oO qT qA) (fr, now, x, h, w, r) 0 k).2.2.2.2.2 (fr.toInt.toNat + j) = qT (4 * j + 3)) := by
  intro k
  induction k with
  | zero =>
    intro _
    refine ⟨?_, fun j _ => ⟨rfl, rfl, rfl, rfl, rfl⟩, fun j hj => absurd hj (by omega)⟩
    show fr.toInt = fr.toInt + ((0 : Nat) : Int)
    omega
  | succ k ih =>
    intro hk
    obtain ⟨i1, i2, i3⟩ := ih (by omega)
    rw [itr_s, aEe]
    generalize itr (aEe qO qQ aG jC bY jD m_length oF rP dQ aJ aB bU oX nG oO qT qA) (fr, now, x, h, w, r) 0 k = s at i1 i2 i3 ⊢
    have l1 : Int32.toInt (1 : Int32) = 1 := by decide
    have es := aAD s.1 1 (by omega)
    have ec := cl_n s.1
    have en : Int32.toInt (nI (0 + k)) = ((0 + k : Nat) : Int) := nI_toInt (by omega)
    obtain ⟨e0, e1, e2, e3⟩ := q4 (x := nI (0 + k)) (by omega)
    have en2 : (Int32.toInt (nI (0 + k))).toNat = k := by omega
    rw [en2] at e0 e1 e2 e3
    rw [e0, e1, e2, e3]
    refine ⟨?_, fun j hj => ?_, fun j hj => ?_⟩
    · show Int32.toInt (s.1 + 1) = _
      omega
    · show upd s.2.1 _ _ j = _ ∧ upd s.2.2.1 _ _ j = _ ∧ upd s.2.2.2.1 _ _ j = _ ∧ upd s.2.2.2.2.1 _ _ j = _ ∧ upd s.2.2.2.2.2 _ _ j = _
      have i : j ≠ s.1.toNatClampNeg := by omega
      rw [aGi _ _ i, aGi _ _ i, aGi _ _ i, aGi _ _ i, aGi _ _ i]
      exact i2 j (by omega)
    · show upd s.2.1 _ _ _ = _ ∧ upd s.2.2.1 _ _ _ = _ ∧ upd s.2.2.2.1 _ _ _ = _ ∧ upd s.2.2.2.2.1 _ _ _ = _ ∧ upd s.2.2.2.2.2 _ _ _ = _
      by_cases hn : j = k
      · have i : fr.toInt.toNat + j = s.1.toNatClampNeg := by omega
        rw [i, upd_i, upd_i, upd_i, upd_i, upd_i, hn]
        exact ⟨rfl, rfl, rfl, rfl, rfl⟩
      · have i : fr.toInt.toNat + j ≠ s.1.toNatClampNeg := by omega
        rw [aGi _ _ i, aGi _ _ i, aGi _ _ i, aGi _ _ i, aGi _ _ i]
        exact i3 j (by omega)
