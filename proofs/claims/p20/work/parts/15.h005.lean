/-- bits that a loop gathers: one for each k for which c holds -/
theorem itr_bt {f : Int32 → Int32 → Int32} {c : Nat → Bool} (n : Nat) (hn : n ≤ 32) (hf : ∀ (k : Nat) (s : Int32), k < n → f (nI (0 + k)) s = if c k = true then s ||| (1 <<< (nI (0 + k) &&& 31)) else s) : ∀ j : Nat, bt (itr f 0 0 n) j = (decide (j < n) && c j) := by
  have key : ∀ k : Nat, k ≤ n → ∀ j : Nat, bt (itr f 0 0 k) j = (decide (j < k) && c j) := by
    intro k
    induction k with
    | zero => intro _ j; show bt 0 j = _; rw [bt_zero]; simp
    | succ k ih =>
      intro hk j
      rw [itr_s, hf k _ (by omega), Nat.zero_add]
      by_cases hc : c k = true
      · rw [if_pos hc, bt_or, ih (by omega), bt_shlN k (by omega)]
        by_cases hj : j = k
        · rw [hj, hc]; simp
        · rw [decide_eq_false hj, Bool.or_false]
          rw [show decide (j < k + 1) = decide (j < k) from decide_eq_decide.mpr (by omega)]
      · rw [if_neg hc, ih (by omega)]
        by_cases hj : j = k
        · rw [hj]; cases h9 : c k
          · simp
          · exact absurd h9 hc
        · rw [show decide (j < k + 1) = decide (j < k) from decide_eq_decide.mpr (by omega)]
  exact key n (Nat.le_refl n)
