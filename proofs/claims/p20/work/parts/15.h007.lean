theorem wh_bt {v fr : Int32} {now : Nat → Int32} (h : 0 ≤ fr.toInt ∧ fr.toInt ≤ 16) (j : Nat) : bt (aUf v fr now) j = (decide (j < fr.toInt.toNat) && decide (now j = v)) := by
  obtain ⟨z, z2, _⟩ := z16 h
  rw [aUf, ex_X10_which_5, z]
  refine itr_bt (c := fun j => decide (now j = v)) _ (by omega) (fun k s hk => ?_) j
  have i := (nI_0c (k := k) (by omega)).1
  rw [bd_X10_which_5, i]
  by_cases c : now k = v
  · rw [if_pos c, if_pos (decide_eq_true c), j_X10_which_31]
  · rw [if_neg c, if_neg (by rw [decide_eq_false c]; decide), j_X10_which_31, or0]
