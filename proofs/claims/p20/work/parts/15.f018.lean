theorem sheet_0c {fr : Int32} {w : Nat → Int32} (hf : 0 ≤ fr.toInt ∧ fr.toInt ≤ 16) : ∀ k : Nat, (k : Int) ≤ fr.toInt → ∀ j : Nat, j < k → (itr (aJo fr 2 0 0) (0, 0, w) 0 k).2.2 j = 0 := by
  have l0 : Int32.toInt (0 : Int32) = 0 := by decide
  intro k
  induction k with
  | zero => intro _ j hj; omega
  | succ k ih =>
    intro hk j hj
    have i := nI_0c (k := k) (by omega)
    rw [itr_s, aJo, if_neg (by decide), if_neg (by decide), aRy, if_pos ((aAO _ _).mpr (by omega)), aRz, i.1]
    dsimp only
    by_cases hk2 : j = k
    · rw [hk2, upd_i]
    · rw [aGi _ _ hk2]; exact ih (by omega) j (by omega)
