theorem sheet_0m {fr n st v0 : Int32} {w : Nat → Int32} (hf : 0 ≤ fr.toInt ∧ fr.toInt ≤ 16) : ∀ k : Nat, (k : Int) ≤ fr.toInt → ∀ j : Nat, j < k → (itr (aNZ fr 3 n st 0) (0, v0, w) 0 k).2.2 j = 0 := by
  intro k
  induction k with
  | zero => intro _ j hj; omega
  | succ k ih =>
    intro hk j hj
    have i := nI_0c (k := k) (by omega)
    rw [itr_s, aNZ, if_neg (by decide), if_neg (by decide), bBi, if_pos rfl, j_X10_sheet_94, aRj, i.1]
    dsimp only
    by_cases hk2 : j = k
    · rw [hk2, upd_i]
    · rw [aGi _ _ hk2]; exact ih (by omega) j (by omega)
