set_option maxHeartbeats 8000000 in
set_option maxRecDepth 200000 in
theorem pure_law (L : Nat) (xs : Nat → Int32) (hL : L ≤ 5) : ∃ n : Nat, n ≤ 600 ∧ wb_law L xs n 0 (fun _ => 0) 0 0 0 (fun _ => 0) 0 0 0 0 (fun _ => 0) (fun _ => 0) (fun _ => 0) (fun _ => 0) (fun _ => 0) 0 0 0 0 (fun _ => 0) (fun _ => 0) (fun _ => 0) (fun _ => 0) (fun _ => 0) (fun _ => 0) (upd (upd (upd (upd (upd (fun _ => 0) (0 : Int32).toNatClampNeg 8) (1 : Int32).toNatClampNeg 3) (2 : Int32).toNatClampNeg 5) (3 : Int32).toNatClampNeg 1) (4 : Int32).toNatClampNeg 6) 0 0 0 0 (-1) 0 0 0 0 0 0 0 0 0 (fun _ => 0) (fun _ => 0) (fun _ => 0) (fun _ => 0) (fun _ => 0) 0 0 (fun _ => 0) (fun _ => 0) (fun _ => 0) 0 (fun _ => 0) 0 (fun _ => 0) (fun _ => 0) 0 0 0 0 0 0 0 0 0 0 0 0 0 0 0 0 0 0 0 0 0 0 0 0 0 0 (upd (fun _ => 0) (17 : Int32).toNatClampNeg (-1)) (fun _ => 0) (fun _ => 0) (fun _ => 0) (fun _ => 0) (fun _ => 0) (fun _ => 0) (upd (upd (upd (upd (upd (fun _ => 0) (0 : Int32).toNatClampNeg 8) (1 : Int32).toNatClampNeg 3) (2 : Int32).toNatClampNeg 5) (3 : Int32).toNatClampNeg 1) (4 : Int32).toNatClampNeg 6) (fun _ => 0) (fun _ => 0) (fun _ => 0) (fun _ => 0) (fun _ => 0) (fun _ => 0) (fun _ => 0) (fun _ => 0) (fun _ => 0) (fun _ => 0) (fun _ => 0) (fun _ => 0) (fun _ => 0) (fun _ => 0) (fun _ => 0) (fun _ => 0) (fun _ => 0) (fun _ => 0) := by
  refine ⟨2, by decide, ?_⟩
  by_cases h5 : L = 5
  · subst h5
    intro v1 e1
    obtain rfl : v1 = 5 := e1.trans (by decide)
    refine br_f (by decide) ?_
    refine And.intro (g_in (by decide +kernel)) ?_
    intro v2 e2 v3 e3
    refine And.intro (fun _ => pc_0 xs) ?_
    refine And.intro (fun _ => pc_1 xs) ?_
    refine And.intro (fun _ => pc_2 xs) ?_
    refine And.intro (fun _ => pc_3 xs) ?_
    refine And.intro (fun _ => pc_4 xs) ?_
    refine And.intro (fun _ => pc_5 xs) ?_
    refine And.intro (fun _ => pc_6 xs) ?_
    refine And.intro (fun _ => pc_7 xs) ?_
    refine And.intro (fun _ => pc_8 xs) ?_
    refine And.intro (fun _ => pc_9 xs) ?_
    refine And.intro (fun _ => pc_10 xs) ?_
    refine And.intro (fun _ => pc_11 xs) ?_
    refine And.intro (fun _ => pc_12 xs) ?_
    refine And.intro (fun _ => pc_13 xs) ?_
    refine And.intro (fun _ => pc_14 xs) ?_
    refine And.intro (fun _ => pc_15 xs) ?_
    refine And.intro (fun _ => pc_16 xs) ?_
    refine And.intro (fun _ => pc_17 xs) ?_
    refine And.intro (fun _ => pc_18 xs) ?_
    refine And.intro (fun _ => pc_19 xs) ?_
    refine And.intro (fun _ => pc_20 xs) ?_
    refine And.intro (fun _ => pc_21 xs) ?_
    refine And.intro (fun _ => pc_22 xs) ?_
    refine And.intro (fun _ => pc_23 xs) ?_
    refine And.intro (fun _ => pc_24 xs) ?_
    refine And.intro (fun _ => pc_25 xs) ?_
    refine And.intro (fun _ => pc_26 xs) ?_
    refine And.intro (fun _ => pc_27 xs) ?_
    refine And.intro (fun _ => pc_28 xs) ?_
    refine And.intro (fun _ => pc_29 xs) ?_
    refine And.intro (fun _ => pc_30 xs) ?_
    refine And.intro (fun _ => pc_31 xs) ?_
    refine And.intro (fun _ => pc_32 xs) ?_
    refine And.intro (fun _ => pc_33 xs) ?_
    refine And.intro (fun _ => pc_34 xs) ?_
    refine And.intro (fun _ => pc_35 xs) ?_
    refine And.intro (fun _ => pc_36 xs) ?_
    refine And.intro (fun _ => pc_37 xs) ?_
    refine And.intro (fun _ => pc_38 xs) ?_
    refine And.intro (fun _ => pc_39 xs) ?_
    refine And.intro (fun _ => pc_40 xs) ?_
    refine And.intro (fun _ => pc_41 xs) ?_
    refine And.intro (fun _ => pc_42 xs) ?_
    refine And.intro (fun _ => pc_43 xs) ?_
    refine And.intro (fun _ => pc_44 xs) ?_
    refine And.intro (fun _ => pc_45 xs) ?_
    refine And.intro (fun _ => pc_46 xs) ?_
    refine And.intro (fun _ => pc_47 xs) ?_
    refine And.intro (fun _ => pc_48 xs) ?_
    refine And.intro (fun _ => pc_49 xs) ?_
    refine And.intro (fun _ => pc_50 xs) ?_
    intro _ _ _ _ _ _ _ _ _ _ _ _ _ _ _ _ _ _ _ _ _ _ _ _ _ _ _ _ _ _ _ _ _ _ _ _ _ _ _ _ _ _ _ _ _ _ _ _ _ _ _
    exact pl_end xs
  · intro v1 e1
    refine br_t ?_ trivial
    rw [e1]
    have h6 : L = 0 ∨ L = 1 ∨ L = 2 ∨ L = 3 ∨ L = 4 := by omega
    rcases h6 with rfl | rfl | rfl | rfl | rfl <;> decide
