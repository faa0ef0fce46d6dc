theorem af_bt {fr : Int32} (h : 0 ≤ fr.toInt ∧ fr.toInt ≤ 16) (j : Nat) : bt (F_X3_allFruits fr) j = decide (j < fr.toInt.toNat) := by
  rw [F_X3_allFruits]
  have e := tp_nI h.1
  by_cases hj : j < 32
  · have q := af_t fr.toInt.toNat (by omega) j hj
    rw [← e] at q
    exact q
  · rw [bt_ge _ _ (by omega)]; exact (decide_eq_false (by omega)).symm
