section
variable {fr ap ba gr br la he td : Int32} {now : Nat → Int32}
theorem hg_bt (h : 0 ≤ fr.toInt ∧ fr.toInt ≤ 16) (j : Nat) : bt (aVS fr ap ba gr) j = (decide (j < fr.toInt.toNat) && !(bt ap j || bt ba j || bt gr j)) := by
  rw [aVS]
  by_cases hj : j < 32
  · rw [bt_and, af_bt h, bt_not _ _ hj, bt_or, bt_or]
  · rw [bt_ge _ _ (by omega), decide_eq_false (by omega)]; rfl
end
