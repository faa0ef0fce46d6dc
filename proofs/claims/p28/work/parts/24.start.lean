set_option maxHeartbeats 8000000 in
set_option maxRecDepth 200000 in
theorem st_gZ {s : State} {b : Nat} (hgv : (Jvm.Cond.and given_1 narrow_1).before #[Value.ref b] s = true) (hts0 : ∀ w ∈ lw_tbl, w.before #[Value.ref b] s = true) : gZ (fun q : Nat => s.heap.size <= q) s s.heap := by
  have hs := flat_of_before _ hgv
  have hA : ∀ a : Nat, a < s.heap.size -> ¬ (fun q : Nat => s.heap.size <= q) a := fun a h => Nat.not_le.mpr h
  obtain ⟨tL, etL, hTL⟩ := va_Tof (args := #[Value.ref b]) (s := s) (tm := (Term.static "WhereTheLadder" "LEAST_SETTING" "[I")) (ty := .int) (N := 5) (f := fun j => .int (stL j)) (A := (fun q : Nat => s.heap.size <= q)) (by decide) (hs (Cond.arrayOf (Term.static "WhereTheLadder" "LEAST_SETTING" "[I") .int) (by decide +kernel)) (va_eqt (z := 5) (hs (Cond.eq (.length (Term.static "WhereTheLadder" "LEAST_SETTING" "[I")) (.int 5)) (by decide +kernel))) (fun j hj => match j, hj with
    | 0, _ => va_eqt (z := 0) (hs (Cond.eq (.elem (Term.static "WhereTheLadder" "LEAST_SETTING" "[I") (.int 0)) (.int 0)) (by decide +kernel))
    | 1, _ => va_eqt (z := 0) (hs (Cond.eq (.elem (Term.static "WhereTheLadder" "LEAST_SETTING" "[I") (.int 1)) (.int 0)) (by decide +kernel))
    | 2, _ => va_eqt (z := 0) (hs (Cond.eq (.elem (Term.static "WhereTheLadder" "LEAST_SETTING" "[I") (.int 2)) (.int 0)) (by decide +kernel))
    | 3, _ => va_eqt (z := 0) (hs (Cond.eq (.elem (Term.static "WhereTheLadder" "LEAST_SETTING" "[I") (.int 3)) (.int 0)) (by decide +kernel))
    | 4, _ => va_eqt (z := 1) (hs (Cond.eq (.elem (Term.static "WhereTheLadder" "LEAST_SETTING" "[I") (.int 4)) (.int 1)) (by decide +kernel))
    | k + 5, h => absurd h (by omega)) hA
  have hZL : va_Z "WhereTheLadder" "LEAST_SETTING" "[I" (.ref tL) (fun q : Nat => s.heap.size <= q) s s.heap := va_Zref (hts0 _ (aGA (List.mem_of_getElem? (i := 94) rfl))) (hts0 _ (aFj (List.mem_of_getElem? (i := 1) rfl))) etL hA
  obtain ⟨tM, etM, hTM⟩ := va_Tof (args := #[Value.ref b]) (s := s) (tm := (Term.static "WhereTheLadder" "MOST_SETTING" "[I")) (ty := .int) (N := 5) (f := fun j => .int (stM j)) (A := (fun q : Nat => s.heap.size <= q)) (by decide) (hs (Cond.arrayOf (Term.static "WhereTheLadder" "MOST_SETTING" "[I") .int) (by decide +kernel)) (va_eqt (z := 5) (hs (Cond.eq (.length (Term.static "WhereTheLadder" "MOST_SETTING" "[I")) (.int 5)) (by decide +kernel))) (fun j hj => match j, hj with
    | 0, _ => va_eqt (z := 30) (hs (Cond.eq (.elem (Term.static "WhereTheLadder" "MOST_SETTING" "[I") (.int 0)) (.int 30)) (by decide +kernel))
    | 1, _ => va_eqt (z := 30) (hs (Cond.eq (.elem (Term.static "WhereTheLadder" "MOST_SETTING" "[I") (.int 1)) (.int 30)) (by decide +kernel))
    | 2, _ => va_eqt (z := 30) (hs (Cond.eq (.elem (Term.static "WhereTheLadder" "MOST_SETTING" "[I") (.int 2)) (.int 30)) (by decide +kernel))
    | 3, _ => va_eqt (z := 9) (hs (Cond.eq (.elem (Term.static "WhereTheLadder" "MOST_SETTING" "[I") (.int 3)) (.int 9)) (by decide +kernel))
    | 4, _ => va_eqt (z := 16) (hs (Cond.eq (.elem (Term.static "WhereTheLadder" "MOST_SETTING" "[I") (.int 4)) (.int 16)) (by decide +kernel))
    | k + 5, h => absurd h (by omega)) hA
  have hZM : va_Z "WhereTheLadder" "MOST_SETTING" "[I" (.ref tM) (fun q : Nat => s.heap.size <= q) s s.heap := va_Zref (hts0 _ (aGA (List.mem_of_getElem? (i := 96) rfl))) (hts0 _ (aFj (List.mem_of_getElem? (i := 1) rfl))) etM hA
  obtain ⟨adK, adV, hSt, hAd⟩ := vk_Sof (args := #[Value.ref b]) (s := s) (N := 1) (tm := fun _ => (Term.string "WhereTheLadder$Rule" 11)) (len := [7]) (byt := [[100, 117, 121, 119, 115, 107, 111]]) (A := (fun q : Nat => s.heap.size <= q)) (fun i hi => match i, hi with | 0, _ => by decide | k + 1, h => absurd h (by omega)) (fun _ _ => hs (Cond.exactly (Term.string "WhereTheLadder$Rule" 11) "java/lang/String") (by decide +kernel)) (fun _ _ => hs (Cond.eq (.field (Term.string "WhereTheLadder$Rule" 11) "java/lang/String" "coder" "B") (.int 0)) (by decide +kernel)) (fun _ _ => hs (Cond.arrayOf (.field (Term.string "WhereTheLadder$Rule" 11) "java/lang/String" "value" "[B") .byte) (by decide +kernel)) (fun i hi => match i, hi with | 0, _ => hs (Cond.eq (.length (.field (Term.string "WhereTheLadder$Rule" 11) "java/lang/String" "value" "[B")) (.int 7)) (by decide +kernel) | k + 1, h => absurd h (by omega)) (fun i hi => match i, hi with | 0, _ => (fun j hj => match j, hj with | 0, _ => hs (Cond.eq (.elem (.field (Term.string "WhereTheLadder$Rule" 11) "java/lang/String" "value" "[B") (.int 0)) (.int 100)) (by decide +kernel) | 1, _ => hs (Cond.eq (.elem (.field (Term.string "WhereTheLadder$Rule" 11) "java/lang/String" "value" "[B") (.int 1)) (.int 117)) (by decide +kernel) | 2, _ => hs (Cond.eq (.elem (.field (Term.string "WhereTheLadder$Rule" 11) "java/lang/String" "value" "[B") (.int 2)) (.int 121)) (by decide +kernel) | 3, _ => hs (Cond.eq (.elem (.field (Term.string "WhereTheLadder$Rule" 11) "java/lang/String" "value" "[B") (.int 3)) (.int 119)) (by decide +kernel) | 4, _ => hs (Cond.eq (.elem (.field (Term.string "WhereTheLadder$Rule" 11) "java/lang/String" "value" "[B") (.int 4)) (.int 115)) (by decide +kernel) | 5, _ => hs (Cond.eq (.elem (.field (Term.string "WhereTheLadder$Rule" 11) "java/lang/String" "value" "[B") (.int 5)) (.int 107)) (by decide +kernel) | 6, _ => hs (Cond.eq (.elem (.field (Term.string "WhereTheLadder$Rule" 11) "java/lang/String" "value" "[B") (.int 6)) (.int 111)) (by decide +kernel) | k + 7, h => absurd h (Nat.not_lt.mpr (Nat.le_add_left 7 k))) | k + 1, h => absurd h (by omega)) (fun i j hi hj hne => absurd hne (by omega)) hA
  obtain ⟨o1, o2, o3, o4⟩ := hSt.1 0 (by decide)
  refine ⟨tL, tM, hZL, hTL, hZM, hTM, vx_Zqof (hts0 _ (aGK (List.mem_of_getElem? (i := 210) rfl))) (hts0 _ (aFj (List.mem_of_getElem? (i := 18) rfl))) (hs (Cond.isRef (.static "java/lang/Throwable" "UNASSIGNED_STACK" "[Ljava/lang/StackTraceElement;")) (by decide +kernel)) hA, vx_Zqof (hts0 _ (aGK (List.mem_of_getElem? (i := 212) rfl))) (hts0 _ (aFj (List.mem_of_getElem? (i := 18) rfl))) (hs (Cond.isRef (.static "java/lang/Throwable" "SUPPRESSED_SENTINEL" "Ljava/util/List;")) (by decide +kernel)) hA, va_Zof (hts0 _ (aFj (List.mem_of_getElem? (i := 186) rfl))) (hts0 _ (aFj (List.mem_of_getElem? (i := 8) rfl))) (va_eqt (z := 1) (hs (Cond.eq (.static "java/lang/String" "COMPACT_STRINGS" "Z") (.int 1)) (by decide +kernel))) hA, adK 0, adV 0, vk_R.of (hts0 _ (aFj (List.mem_of_getElem? (i := 176) rfl))) (hAd 0 (by decide)), o1, o2, o3, o4⟩
theorem WN_tbl : WN.all (fun w => decide (w ∈ tables_1_8) || (decide (w ∈ tables_1_5) || decide (w ∈ lw_tbl))) = true := by decide +kernel
theorem st_gN {s : State} {b : Nat} (hts0 : ∀ w ∈ lw_tbl, w.before #[Value.ref b] s = true) : gN s := by
  intro w hw
  have h := List.all_eq_true.mp WN_tbl w hw
  simp only [Bool.or_eq_true, decide_eq_true_eq] at h
  exact va_Nw.of (List.all_eq_true.mp WN_tab w hw) (hts0 w (h.elim aGt fun h => h.elim aGK id))
theorem st_arr {s : State} {b : Nat} {ty : FieldType} (h : (Cond.arrayClass ty).before #[Value.ref b] s = true) : ∃ cA : ClassId, ArrOfT s cA ty /\ s.vm.findClass ("[" ++ ty.toString) = some cA := by
  obtain ⟨cA, kA, comp, h1, h2, h3⟩ := Cond.arrayClass_spec h
  exact ⟨cA, fun n z => ⟨fun k h => (by cases h), kA, h2, comp, h3⟩, h1⟩
set_option maxHeartbeats 8000000 in
set_option maxRecDepth 200000 in
theorem st_K {s : State} {b : Nat} (hts0 : ∀ w ∈ lw_tbl, w.before #[Value.ref b] s = true) : ∃ (dC : Nat -> ClassId) (dI : Nat -> Nat -> Nat) (cI cC cZ cB cJ : ClassId), va_K (dC, dI) classes (tyl cI cC cZ cB cJ) s := by
  have hts : ∀ w ∈ W0, w.before #[Value.ref b] s = true := fun w hw => hts0 w (List.mem_filter.mp hw).1
  obtain ⟨k0, i0, h0⟩ := u_known (C := RX0) (T := TX0) (N := 3) (n := 3) hts i_X0 (hts0 _ (aFj (List.mem_of_getElem? (i := 59) rfl)))
  obtain ⟨k1, i1, h1⟩ := u_known (C := RX1) (T := TX1) (N := 3) (n := 3) hts i_X1 (hts0 _ (aFb (List.mem_of_getElem? (i := 78) rfl)))
  obtain ⟨k2, i2, h2⟩ := u_known (C := RX2) (T := TX2) (N := 8) (n := 8) hts i_X2 (hts0 _ (aFj (List.mem_of_getElem? (i := 121) rfl)))
  obtain ⟨k3, i3, h3⟩ := u_known (C := RX3) (T := TX3) (N := 11) (n := 11) hts i_X3 (hts0 _ (aFj (List.mem_of_getElem? (i := 65) rfl)))
  obtain ⟨k4, i4, h4⟩ := u_known (C := RX4) (T := TX4) (N := 5) (n := 5) hts i_X4 (hts0 _ (aFb (List.mem_of_getElem? (i := 39) rfl)))
  obtain ⟨k5, i5, h5⟩ := u_known (C := RX5) (T := TX5) (N := 11) (n := 11) hts i_X5 (hts0 _ (aFj (List.mem_of_getElem? (i := 53) rfl)))
  obtain ⟨k6, i6, h6⟩ := u_known (C := RX6) (T := TX6) (N := 2) (n := 2) hts i_X6 (hts0 _ (aFb (List.mem_of_getElem? (i := 63) rfl)))
  obtain ⟨k7, i7, h7⟩ := u_known (C := RX7) (T := TX7) (N := 11) (n := 11) hts i_X7 (hts0 _ (aFj (List.mem_of_getElem? (i := 171) rfl)))
  obtain ⟨k8, i8, h8⟩ := u_known (C := RX8) (T := TX8) (N := 4) (n := 4) hts i_X8 (hts0 _ (aFj (List.mem_of_getElem? (i := 32) rfl)))
  obtain ⟨k9, i9, h9⟩ := u_known (C := RX9) (T := TX9) (N := 9) (n := 9) hts aC3 (hts0 _ (aFj (List.mem_of_getElem? (i := 24) rfl)))
  obtain ⟨k10, i10, h10⟩ := u_known (C := zX) (T := aBe) (N := 51) (n := 51) hts aAt (hts0 _ (aGl (List.mem_of_getElem? (i := 24) rfl)))
  obtain ⟨cI, acI, fcI⟩ := st_arr (ty := .int) (hts0 _ (aFj (List.mem_of_getElem? (i := 119) rfl)))
  obtain ⟨cC, acC, fcC⟩ := st_arr (ty := .char) (hts0 _ (aFj (List.mem_of_getElem? (i := 51) rfl)))
  obtain ⟨cZ, acZ, fcZ⟩ := st_arr (ty := .boolean) (hts0 _ (aFb (List.mem_of_getElem? (i := 61) rfl)))
  obtain ⟨cB, acB, fcB⟩ := st_arr (ty := .byte) (hts0 _ (aFj (List.mem_of_getElem? (i := 223) rfl)))
  obtain ⟨cJ, acJ, fcJ⟩ := st_arr (ty := .long) (hts0 _ (aGt (List.mem_of_getElem? (i := 185) rfl)))
  refine ⟨fun k => match k with | 0 => k0 | 1 => k1 | 2 => k2 | 3 => k3 | 4 => k4 | 5 => k5 | 6 => k6 | 7 => k7 | 8 => k8 | 9 => k9 | _ => k10, fun k => match k with | 0 => i0 | 1 => i1 | 2 => i2 | 3 => i3 | 4 => i4 | 5 => i5 | 6 => i6 | 7 => i7 | 8 => i8 | 9 => i9 | _ => i10, cI, cC, cZ, cB, cJ, fun k q hq => ?_, fun k q hq => ?_⟩
  · match k, hq with
    | 0, hq => cases hq; exact h0
    | 1, hq => cases hq; exact h1
    | 2, hq => cases hq; exact h2
    | 3, hq => cases hq; exact h3
    | 4, hq => cases hq; exact h4
    | 5, hq => cases hq; exact h5
    | 6, hq => cases hq; exact h6
    | 7, hq => cases hq; exact h7
    | 8, hq => cases hq; exact h8
    | 9, hq => cases hq; exact h9
    | 10, hq => cases hq; exact h10
    | k + 11, hq => simp [classes] at hq
  · match k, hq with
    | 0, hq => cases hq; exact ⟨acI, fcI⟩
    | 1, hq => cases hq; exact ⟨acC, fcC⟩
    | 2, hq => cases hq; exact ⟨acZ, fcZ⟩
    | 3, hq => cases hq; exact ⟨acB, fcB⟩
    | 4, hq => cases hq; exact ⟨acJ, fcJ⟩
    | k + 5, hq => simp at hq
theorem g_sameJ {D : va_G} {cI cC cZ cB cJ cA : ClassId} {s : State} (h : va_K D classes (tyl cI cC cZ cB cJ ++ [(cA, .long)]) s) : cA = cJ := Option.some.inj ((h.2 5 (cA, .long) rfl).2.symm.trans (h.2 4 (cJ, .long) rfl).2)
