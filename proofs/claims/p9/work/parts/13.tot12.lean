set_option maxHeartbeats 8000000 in
set_option maxRecDepth 200000 in
theorem t_X10_down {post : Int32 → Int32 → Int32 → (Nat → Int32) → (Nat → Int32) → Prop} {SB : Int} {m_fruits : Int32} {m_thrown : Int32} {m_undoMany : Int32} {m_now : Nat → Int32} {m_fork : Nat → Int32} {m_undos : Nat → Int32} (h_m_fruits : 0 ≤ Int32.toInt m_fruits ∧ Int32.toInt m_fruits ≤ 16) (h_m_thrown : 0 ≤ Int32.toInt m_thrown ∧ Int32.toInt m_thrown ≤ 1) (h_m_undoMany : 0 ≤ Int32.toInt m_undoMany ∧ Int32.toInt m_undoMany ≤ 12) (e0_m_now : ∀ k : Nat, k = 17 → -1 ≤ Int32.toInt (m_now k) ∧ Int32.toInt (m_now k) ≤ SB) (e1_m_now : ∀ k : Nat, k = 19 → 0 ≤ Int32.toInt (m_now k) ∧ Int32.toInt (m_now k) ≤ 9) (h_m_fork : ∀ k : Nat, 0 ≤ Int32.toInt (m_fork k) ∧ Int32.toInt (m_fork k) ≤ 99) (e0_m_undos : ∀ k : Nat, k % 21 = 17 → -1 ≤ Int32.toInt (m_undos k) ∧ Int32.toInt (m_undos k) ≤ SB) (e1_m_undos : ∀ k : Nat, k % 21 = 19 → 0 ≤ Int32.toInt (m_undos k) ∧ Int32.toInt (m_undos k) ≤ 9) (hc0 : -1 ≤ SB ∧ SB ≤ 7) (hpost : ∀ (r : Int32) (m_thrown' : Int32) (m_undoMany' : Int32) (m_now' : Nat → Int32) (m_undos' : Nat → Int32), (0 ≤ Int32.toInt m_thrown' ∧ Int32.toInt m_thrown' ≤ 0) → (0 ≤ Int32.toInt m_undoMany' ∧ Int32.toInt m_undoMany' ≤ 12) → (∀ k : Nat, k = 17 → -1 ≤ Int32.toInt (m_now' k) ∧ Int32.toInt (m_now' k) ≤ SB) → (∀ k : Nat, k = 19 → 0 ≤ Int32.toInt (m_now' k) ∧ Int32.toInt (m_now' k) ≤ 9) → (∀ k : Nat, k % 21 = 17 → -1 ≤ Int32.toInt (m_undos' k) ∧ Int32.toInt (m_undos' k) ≤ SB) → (∀ k : Nat, k % 21 = 19 → 0 ≤ Int32.toInt (m_undos' k) ∧ Int32.toInt (m_undos' k) ≤ 9) → post r m_thrown' m_undoMany' m_now' m_undos') : wp_X10_down post m_fruits m_thrown m_undoMany m_now m_fork m_undos := by
  have l0 : Int32.toInt ((-1) : Int32) = -1 := (by decide)
  have l1 : Int32.toInt (0 : Int32) = 0 := (by decide)
  have l2 : Int32.toInt (1 : Int32) = 1 := (by decide)
  have l3 : Int32.toInt (17 : Int32) = 17 := (by decide)
  have l4 : Int32.toInt (20 : Int32) = 20 := (by decide)
  have l5 : Int32.toInt (9 : Int32) = 9 := (by decide)
  have l6 : Int32.toInt (9999 : Int32) = 9999 := (by decide)
  have q1 := e0_m_now (17 : Int32).toNatClampNeg (by have e9 : (17 : Int32).toNatClampNeg = (Int32.toInt (17 : Int32)).toNat := rfl; omega)
  intro v2 ev2
  have hv2 := congrArg Int32.toInt ev2
  refine And.intro (fun c4 => ?_) (fun c4 => ?_)
  · skip
    have c4 := (fa_eq _ _).mp c4
    refine And.intro (fun h9 => absurd h9 (by decide)) (fun _ => ?_)
    exact hpost _ _ _ _ _ (by omega) (by omega) e0_m_now e1_m_now e0_m_undos e1_m_undos
  · skip
    have c4 := mt (fa_eq _ _).mpr c4
    refine t_X10_which (by omega) (by omega) e0_m_now e1_m_now (by omega) (fun r5 h_r5 ox6 => ?_)
    refine And.intro (fun c7 => ?_) (fun c7 => ?_)
    · skip
      have c7 := (fa_eq _ _).mp c7
      refine And.intro (fun h9 => absurd h9 (by decide)) (fun _ => ?_)
      exact hpost _ _ _ _ _ (by omega) (by omega) e0_m_now e1_m_now e0_m_undos e1_m_undos
    · skip
      have c7 := mt (fa_eq _ _).mpr c7
      refine And.intro (fun _ => ?_) (fun h9 => absurd h9 (by decide))
      refine t_X10_remember (by omega) e0_m_now e1_m_now e0_m_undos e1_m_undos (by omega) (fun m_undoMany_8 m_undos_9 h_m_undoMany_8 e0_m_undos_9 e1_m_undos_9 => ?_)
      have q10 := e0_m_now (17 : Int32).toNatClampNeg (by have e9 : (17 : Int32).toNatClampNeg = (Int32.toInt (17 : Int32)).toNat := rfl; omega)
      intro v11 ev11
      have hv11 := congrArg Int32.toInt ev11
      refine And.intro (t_in (by omega)) ?_
      intro v12 ev12
      have f13 := h_m_fork v11.toNatClampNeg
      have hv12 := congrArg Int32.toInt ev12
      intro v14 ev14
      have f15 : Int32.toInt (v12 + 9) = Int32.toInt v12 + Int32.toInt (9 : Int32) := ta_add _ _ (by omega)
      rw [← ev14] at f15
      intro v16 ev16
      have hv16 := congrArg Int32.toInt ev16
      intro v18 ev18
      have hv18 := congrArg Int32.toInt ev18
      intro v20 ev20
      have f21 := tp_r (if v18 < 9999 then v18 else 9999)
      have f23 := tp_r v18
      have f22 := ti_min (9999 : Int32) v18
      have hv20 := congrArg Int32.toInt ev20
      have f25 := tp_r v20
      have e24 : ∀ k : Nat, k = 17 → -1 ≤ Int32.toInt ((upd m_now (20 : Int32).toNatClampNeg v20) k) ∧ Int32.toInt ((upd m_now (20 : Int32).toNatClampNeg v20) k) ≤ SB := t_updc (C := fun k => k = 17) e0_m_now (fun hk => by have e9 : (20 : Int32).toNatClampNeg = (Int32.toInt (20 : Int32)).toNat := rfl; have hk : (20 : Int32).toNatClampNeg = 17 := hk; omega)
      have e26 : ∀ k : Nat, k = 19 → 0 ≤ Int32.toInt ((upd m_now (20 : Int32).toNatClampNeg v20) k) ∧ Int32.toInt ((upd m_now (20 : Int32).toNatClampNeg v20) k) ≤ 9 := t_updc (C := fun k => k = 19) e1_m_now (fun hk => by have e9 : (20 : Int32).toNatClampNeg = (Int32.toInt (20 : Int32)).toNat := rfl; have hk : (20 : Int32).toNatClampNeg = 19 := hk; omega)
      refine t_X10_empty (by omega) e24 e26 (by omega) (fun r28 m_now_27 e0_m_now_27 e1_m_now_27 ox29 => ?_)
      exact hpost _ _ _ _ _ (by omega) (by omega) e0_m_now_27 e1_m_now_27 e0_m_undos_9 e1_m_undos_9
theorem t_X10_ripeOnes {post : Int32 → Prop} {p0 : Int32} {m_fruits : Int32} {m_ripe : Nat → Int32} (h_p0 : -1 ≤ Int32.toInt p0 ∧ Int32.toInt p0 ≤ 9) (h_m_fruits : 0 ≤ Int32.toInt m_fruits ∧ Int32.toInt m_fruits ≤ 16) (h_m_ripe : ∀ k : Nat, 0 ≤ Int32.toInt (m_ripe k) ∧ Int32.toInt (m_ripe k) ≤ 9) (hpost : ∀ (r : Int32) , (0 ≤ Int32.toInt r ∧ Int32.toInt r ≤ 65535) → (r = bsf (Int32.toInt m_fruits).toNat (fun k => decide (m_ripe k ≤ p0))) → post r) : wp_X10_ripeOnes post p0 m_fruits m_ripe := by
  refine f_ripeOnes h_m_fruits (hpost _ ?_ rfl)
  exact bsf_rng _ (by omega) _
set_option maxHeartbeats 8000000 in
set_option maxRecDepth 200000 in
theorem ts_X10_reachedFrom_41 {post : Int32 → Prop} {K6 : Int32 → Int32 → Int32 → Int32 → Int32 → Prop} {n6 : Int} (m_fruits : Int32) (m_x : Nat → Int32) (m_height : Nat → Int32) (m_foot : Nat → Int32) (m_fork : Nat → Int32) (m_told : Nat → Int32) (h_m_fruits : 0 ≤ Int32.toInt m_fruits ∧ Int32.toInt m_fruits ≤ 16) (h_m_x : ∀ k : Nat, 0 ≤ Int32.toInt (m_x k) ∧ Int32.toInt (m_x k) ≤ 99) (h_m_height : ∀ k : Nat, 0 ≤ Int32.toInt (m_height k) ∧ Int32.toInt (m_height k) ≤ 99) (h_m_foot : ∀ k : Nat, 0 ≤ Int32.toInt (m_foot k) ∧ Int32.toInt (m_foot k) ≤ 99) (h_m_fork : ∀ k : Nat, 0 ≤ Int32.toInt (m_fork k) ∧ Int32.toInt (m_fork k) ≤ 99) (e0_m_told : ∀ k : Nat, k = 4 → 1 ≤ Int32.toInt (m_told k) ∧ Int32.toInt (m_told k) ≤ 30) (e1_m_told : ∀ k : Nat, k = 3 → 0 ≤ Int32.toInt (m_told k) ∧ Int32.toInt (m_told k) ≤ 9) (hpost : ∀ (r : Int32) , (0 ≤ Int32.toInt r ∧ Int32.toInt r ≤ 65535) → post r) (hK6 : ∀ (x1 : Int32) (x2 : Int32) (x3 : Int32) (x4 : Int32) (x5 : Int32), (0 ≤ Int32.toInt x1 ∧ Int32.toInt x1 ≤ 7) → (0 ≤ Int32.toInt x3 ∧ Int32.toInt x3 ≤ 1) → (0 ≤ Int32.toInt x4 ∧ Int32.toInt x4 ≤ 65535) → (0 ≤ Int32.toInt x5 ∧ Int32.toInt x5 ≤ 16) → (16 - Int32.toInt x5 < n6) → K6 x1 x2 x3 x4 x5) (x1 : Int32) (x2 : Int32) (x3 : Int32) (x5 : Int32) (k0 : Int32) (k1 : Int32) (h_x1 : 0 ≤ Int32.toInt x1 ∧ Int32.toInt x1 ≤ 7) (h_x3 : 0 ≤ Int32.toInt x3 ∧ Int32.toInt x3 ≤ 1) (h_x5 : 0 ≤ Int32.toInt x5 ∧ Int32.toInt x5 ≤ 15) (h_k0 : 0 ≤ Int32.toInt k0 ∧ Int32.toInt k0 ≤ 65535) (h_k1 : 0 ≤ Int32.toInt k1 ∧ Int32.toInt k1 ≤ 32768) (hn6 : 16 - Int32.toInt x5 ≤ n6) : ws_X10_reachedFrom_41 post K6 m_fruits m_x m_height m_foot m_fork m_told x1 x2 x3 x5 k0 k1 := by
  have l0 : Int32.toInt (1 : Int32) = 1 := (by decide)
  intro v1 ev1
  have f2 := ti_or 16 65536 k0 k1 (by decide) (by omega) (by omega)
  have hv1 := congrArg Int32.toInt ev1
  intro v3 ev3
  have f4 : Int32.toInt (x5 + 1) = Int32.toInt x5 + Int32.toInt (1 : Int32) := ta_add _ _ (by omega)
  rw [← ev3] at f4
  have f5 := tp_r x2
  exact hK6 x1 x2 x3 v1 v3 (by omega) (by omega) (by omega) (by omega) (by omega)
set_option maxHeartbeats 8000000 in
set_option maxRecDepth 200000 in
theorem ts_X10_reachedFrom_6 {post : Int32 → Prop} {next : Int32 → Int32 → Int32 → Int32 → Int32 → Prop} {n6 : Int} (m_fruits : Int32) (m_x : Nat → Int32) (m_height : Nat → Int32) (m_foot : Nat → Int32) (m_fork : Nat → Int32) (m_told : Nat → Int32) (h_m_fruits : 0 ≤ Int32.toInt m_fruits ∧ Int32.toInt m_fruits ≤ 16) (h_m_x : ∀ k : Nat, 0 ≤ Int32.toInt (m_x k) ∧ Int32.toInt (m_x k) ≤ 99) (h_m_height : ∀ k : Nat, 0 ≤ Int32.toInt (m_height k) ∧ Int32.toInt (m_height k) ≤ 99) (h_m_foot : ∀ k : Nat, 0 ≤ Int32.toInt (m_foot k) ∧ Int32.toInt (m_foot k) ≤ 99) (h_m_fork : ∀ k : Nat, 0 ≤ Int32.toInt (m_fork k) ∧ Int32.toInt (m_fork k) ≤ 99) (e0_m_told : ∀ k : Nat, k = 4 → 1 ≤ Int32.toInt (m_told k) ∧ Int32.toInt (m_told k) ≤ 30) (e1_m_told : ∀ k : Nat, k = 3 → 0 ≤ Int32.toInt (m_told k) ∧ Int32.toInt (m_told k) ≤ 9) (hpost : ∀ (r : Int32) , (0 ≤ Int32.toInt r ∧ Int32.toInt r ≤ 65535) → post r) (hKn : ∀ (x1 : Int32) (x2 : Int32) (x3 : Int32) (x4 : Int32) (x5 : Int32), (0 ≤ Int32.toInt x1 ∧ Int32.toInt x1 ≤ 7) → (0 ≤ Int32.toInt x3 ∧ Int32.toInt x3 ≤ 1) → (0 ≤ Int32.toInt x4 ∧ Int32.toInt x4 ≤ 65535) → (0 ≤ Int32.toInt x5 ∧ Int32.toInt x5 ≤ 16) → (16 - Int32.toInt x5 < n6) → next x1 x2 x3 x4 x5) (x1 : Int32) (x2 : Int32) (x3 : Int32) (x4 : Int32) (x5 : Int32) (h_x1 : 0 ≤ Int32.toInt x1 ∧ Int32.toInt x1 ≤ 7) (h_x3 : 0 ≤ Int32.toInt x3 ∧ Int32.toInt x3 ≤ 1) (h_x4 : 0 ≤ Int32.toInt x4 ∧ Int32.toInt x4 ≤ 65535) (h_x5 : 0 ≤ Int32.toInt x5 ∧ Int32.toInt x5 ≤ 16) (hn6 : 16 - Int32.toInt x5 ≤ n6) : ws_X10_reachedFrom_6 post next m_fruits m_x m_height m_foot m_fork m_told x1 x2 x3 x4 x5 := by
  have l0 : Int32.toInt (0 : Int32) = 0 := (by decide)
  have l1 : Int32.toInt (1 : Int32) = 1 := (by decide)
  have l2 : Int32.toInt (2 : Int32) = 2 := (by decide)
  refine And.intro (fun c6 => ?_) (fun c6 => ?_)
  · skip
    have c6 := (fa_le _ _).mp c6
    exact hpost _ (by omega)
  · skip
    have c6 := mt (fa_le _ _).mpr c6
    intro v7 ev7
    have hv7 := congrArg Int32.toInt ev7
    intro v9 ev9
    have hv9 := congrArg Int32.toInt ev9
    refine And.intro (t_in (by omega)) ?_
    intro v11 ev11
    have f12 := h_m_x x5.toNatClampNeg
    have hv11 := congrArg Int32.toInt ev11
    refine And.intro (t_in (by omega)) ?_
    intro v13 ev13
    have f15 := h_m_foot x1.toNatClampNeg
    have f14 : Int32.toInt (v11 - (m_foot x1.toNatClampNeg)) = Int32.toInt v11 - Int32.toInt (m_foot x1.toNatClampNeg) := ta_sub _ _ (by omega)
    rw [← ev13] at f14
    intro v16 ev16
    have f17 := ti_abs v13 (by omega)
    have hv16 := congrArg Int32.toInt ev16
    refine And.intro (t_in (by omega)) ?_
    intro v18 ev18
    have hv18 := congrArg Int32.toInt ev18
    refine And.intro (t_in (by omega)) ?_
    intro v19 ev19
    have f20 : Int32.toInt (v18 - (m_foot x1.toNatClampNeg)) = Int32.toInt v18 - Int32.toInt (m_foot x1.toNatClampNeg) := ta_sub _ _ (by omega)
    rw [← ev19] at f20
    intro v21 ev21
    have f22 := ti_abs v19 (by omega)
    have hv21 := congrArg Int32.toInt ev21
    intro v23 ev23
    have hv23 := congrArg Int32.toInt ev23
    refine And.intro (t_in (by omega)) ?_
    intro v25 ev25
    have f26 := h_m_height x5.toNatClampNeg
    have hv25 := congrArg Int32.toInt ev25
    refine And.intro (t_in (by omega)) ?_
    intro v27 ev27
    have f29 := h_m_fork x1.toNatClampNeg
    have f28 : Int32.toInt (v25 - (m_fork x1.toNatClampNeg)) = Int32.toInt v25 - Int32.toInt (m_fork x1.toNatClampNeg) := ta_sub _ _ (by omega)
    rw [← ev27] at f28
    intro v30 ev30
    have f31 := ti_max (0 : Int32) v27
    have hv30 := congrArg Int32.toInt ev30
    refine And.intro (t_in (by omega)) ?_
    intro v32 ev32
    have hv32 := congrArg Int32.toInt ev32
    refine And.intro (t_in (by omega)) ?_
    intro v33 ev33
    have f34 : Int32.toInt (v32 - (m_fork x1.toNatClampNeg)) = Int32.toInt v32 - Int32.toInt (m_fork x1.toNatClampNeg) := ta_sub _ _ (by omega)
    rw [← ev33] at f34
    intro v35 ev35
    have f36 := ti_max (0 : Int32) v33
    have hv35 := congrArg Int32.toInt ev35
    intro v37 ev37
    have hv37 := congrArg Int32.toInt ev37
    have f40 := tp_r v37
    refine And.intro (fun c39 => ?_) (fun c39 => ?_)
    · skip
      have c39 := (fa_lt _ _).mp c39
      refine And.intro (fun _ => ?_) (fun h9 => absurd h9 (by decide))
      have f42 := tp_r x2
      exact ts_X10_reachedFrom_41 m_fruits m_x m_height m_foot m_fork m_told h_m_fruits h_m_x h_m_height h_m_foot h_m_fork e0_m_told e1_m_told hpost hKn x1 x2 x3 x5 x4 0 (by omega) (by omega) (by omega) (by omega) (by omega) (by omega)
    · skip
      have c39 := mt (fa_lt _ _).mpr c39
      refine And.intro (fun h9 => absurd h9 (by decide)) (fun _ => ?_)
      intro v43 ev43
      have f44 := ti_shl1 15 32768 x5 (by decide) (by omega)
      have hv43 := congrArg Int32.toInt ev43
      have f45 := tp_r x2
      exact ts_X10_reachedFrom_41 m_fruits m_x m_height m_foot m_fork m_told h_m_fruits h_m_x h_m_height h_m_foot h_m_fork e0_m_told e1_m_told hpost hKn x1 x2 x3 x5 x4 v43 (by omega) (by omega) (by omega) (by omega) (by omega) (by omega)
set_option maxHeartbeats 8000000 in
set_option maxRecDepth 200000 in
theorem tb_X10_reachedFrom_6 {post : Int32 → Prop} (m_fruits : Int32) (m_x : Nat → Int32) (m_height : Nat → Int32) (m_foot : Nat → Int32) (m_fork : Nat → Int32) (m_told : Nat → Int32) (h_m_fruits : 0 ≤ Int32.toInt m_fruits ∧ Int32.toInt m_fruits ≤ 16) (h_m_x : ∀ k : Nat, 0 ≤ Int32.toInt (m_x k) ∧ Int32.toInt (m_x k) ≤ 99) (h_m_height : ∀ k : Nat, 0 ≤ Int32.toInt (m_height k) ∧ Int32.toInt (m_height k) ≤ 99) (h_m_foot : ∀ k : Nat, 0 ≤ Int32.toInt (m_foot k) ∧ Int32.toInt (m_foot k) ≤ 99) (h_m_fork : ∀ k : Nat, 0 ≤ Int32.toInt (m_fork k) ∧ Int32.toInt (m_fork k) ≤ 99) (e0_m_told : ∀ k : Nat, k = 4 → 1 ≤ Int32.toInt (m_told k) ∧ Int32.toInt (m_told k) ≤ 30) (e1_m_told : ∀ k : Nat, k = 3 → 0 ≤ Int32.toInt (m_told k) ∧ Int32.toInt (m_told k) ≤ 9) (hpost : ∀ (r : Int32) , (0 ≤ Int32.toInt r ∧ Int32.toInt r ≤ 65535) → post r) : ∀ (n : Nat) (x1 : Int32) (x2 : Int32) (x3 : Int32) (x4 : Int32) (x5 : Int32), (0 ≤ Int32.toInt x1 ∧ Int32.toInt x1 ≤ 7) → (0 ≤ Int32.toInt x3 ∧ Int32.toInt x3 ≤ 1) → (0 ≤ Int32.toInt x4 ∧ Int32.toInt x4 ≤ 65535) → (0 ≤ Int32.toInt x5 ∧ Int32.toInt x5 ≤ 16) → (16 - Int32.toInt x5 < (n : Int)) → wb_X10_reachedFrom_6 post m_fruits m_x m_height m_foot m_fork m_told n x1 x2 x3 x4 x5 := by
  intro n
  induction n with
  | zero =>
    intro x1 x2 x3 x4 x5 h_x1 h_x3 h_x4 h_x5 hm
    exfalso; omega
  | succ n ih =>
    intro x1 x2 x3 x4 x5 h_x1 h_x3 h_x4 h_x5 hm
    exact ts_X10_reachedFrom_6 m_fruits m_x m_height m_foot m_fork m_told h_m_fruits h_m_x h_m_height h_m_foot h_m_fork e0_m_told e1_m_told hpost ih x1 x2 x3 x4 x5 h_x1 h_x3 h_x4 h_x5 (by omega)
set_option maxHeartbeats 8000000 in
set_option maxRecDepth 200000 in
theorem t_X10_reachedFrom {post : Int32 → Prop} {p0 : Int32} {p1 : Int32} {p2 : Int32} {m_fruits : Int32} {m_x : Nat → Int32} {m_height : Nat → Int32} {m_foot : Nat → Int32} {m_fork : Nat → Int32} {m_told : Nat → Int32} (h_p0 : 0 ≤ Int32.toInt p0 ∧ Int32.toInt p0 ≤ 7) (h_p2 : 0 ≤ Int32.toInt p2 ∧ Int32.toInt p2 ≤ 1) (h_m_fruits : 0 ≤ Int32.toInt m_fruits ∧ Int32.toInt m_fruits ≤ 16) (h_m_x : ∀ k : Nat, 0 ≤ Int32.toInt (m_x k) ∧ Int32.toInt (m_x k) ≤ 99) (h_m_height : ∀ k : Nat, 0 ≤ Int32.toInt (m_height k) ∧ Int32.toInt (m_height k) ≤ 99) (h_m_foot : ∀ k : Nat, 0 ≤ Int32.toInt (m_foot k) ∧ Int32.toInt (m_foot k) ≤ 99) (h_m_fork : ∀ k : Nat, 0 ≤ Int32.toInt (m_fork k) ∧ Int32.toInt (m_fork k) ≤ 99) (e0_m_told : ∀ k : Nat, k = 4 → 1 ≤ Int32.toInt (m_told k) ∧ Int32.toInt (m_told k) ≤ 30) (e1_m_told : ∀ k : Nat, k = 3 → 0 ≤ Int32.toInt (m_told k) ∧ Int32.toInt (m_told k) ≤ 9) (hpost : ∀ (r : Int32) , (0 ≤ Int32.toInt r ∧ Int32.toInt r ≤ 65535) → post r) : wp_X10_reachedFrom post p0 p1 p2 m_fruits m_x m_height m_foot m_fork m_told := by
  have l0 : Int32.toInt (0 : Int32) = 0 := (by decide)
  have f46 := tp_r p1
  exact ⟨18, tb_X10_reachedFrom_6 m_fruits m_x m_height m_foot m_fork m_told h_m_fruits h_m_x h_m_height h_m_foot h_m_fork e0_m_told e1_m_told hpost _ p0 p1 p2 0 0 (by omega) (by omega) (by omega) (by omega) (by omega)⟩
set_option maxHeartbeats 8000000 in
set_option maxRecDepth 200000 in
theorem ts_X10_goShake_96 {post : Int32 → (Nat → Int32) → Prop} {SB : Int} {K50 : Int32 → Int32 → Int32 → (Nat → Int32) → Prop} {n50 : Int} (m_fruits : Int32) (m_x : Nat → Int32) (m_height : Nat → Int32) (m_ripe : Nat → Int32) (m_foot : Nat → Int32) (m_fork : Nat → Int32) (m_told : Nat → Int32) (h_m_fruits : 0 ≤ Int32.toInt m_fruits ∧ Int32.toInt m_fruits ≤ 16) (h_m_x : ∀ k : Nat, 0 ≤ Int32.toInt (m_x k) ∧ Int32.toInt (m_x k) ≤ 99) (h_m_height : ∀ k : Nat, 0 ≤ Int32.toInt (m_height k) ∧ Int32.toInt (m_height k) ≤ 99) (h_m_ripe : ∀ k : Nat, 0 ≤ Int32.toInt (m_ripe k) ∧ Int32.toInt (m_ripe k) ≤ 9) (h_m_foot : ∀ k : Nat, 0 ≤ Int32.toInt (m_foot k) ∧ Int32.toInt (m_foot k) ≤ 99) (h_m_fork : ∀ k : Nat, 0 ≤ Int32.toInt (m_fork k) ∧ Int32.toInt (m_fork k) ≤ 99) (e0_m_told : ∀ k : Nat, k = 4 → 1 ≤ Int32.toInt (m_told k) ∧ Int32.toInt (m_told k) ≤ 30) (e1_m_told : ∀ k : Nat, k = 3 → 0 ≤ Int32.toInt (m_told k) ∧ Int32.toInt (m_told k) ≤ 9) (hc0 : -1 ≤ SB ∧ SB ≤ 7) (hpost : ∀ (r : Int32) (m_now' : Nat → Int32), (0 ≤ Int32.toInt r ∧ Int32.toInt r ≤ 63) → (∀ k : Nat, k = 17 → -1 ≤ Int32.toInt (m_now' k) ∧ Int32.toInt (m_now' k) ≤ SB) → (∀ k : Nat, k = 19 → 0 ≤ Int32.toInt (m_now' k) ∧ Int32.toInt (m_now' k) ≤ 9) → post r m_now') (hK50 : ∀ (x1 : Int32) (x2 : Int32) (x3 : Int32) (m_now : Nat → Int32), (0 ≤ Int32.toInt x1 ∧ Int32.toInt x1 ≤ 65535) → (0 ≤ Int32.toInt x2 ∧ Int32.toInt x2 ≤ 65535) → (0 ≤ Int32.toInt x3 ∧ Int32.toInt x3 ≤ 16) → (∀ k : Nat, k = 17 → -1 ≤ Int32.toInt (m_now k) ∧ Int32.toInt (m_now k) ≤ SB) → (∀ k : Nat, k = 19 → 0 ≤ Int32.toInt (m_now k) ∧ Int32.toInt (m_now k) ≤ 9) → (16 - Int32.toInt x3 < n50) → K50 x1 x2 x3 m_now) (x1 : Int32) (x2 : Int32) (x3 : Int32) (m_now : Nat → Int32) (h_x1 : 0 ≤ Int32.toInt x1 ∧ Int32.toInt x1 ≤ 65535) (h_x2 : 0 ≤ Int32.toInt x2 ∧ Int32.toInt x2 ≤ 65535) (h_x3 : 0 ≤ Int32.toInt x3 ∧ Int32.toInt x3 ≤ 15) (e0_m_now : ∀ k : Nat, k = 17 → -1 ≤ Int32.toInt (m_now k) ∧ Int32.toInt (m_now k) ≤ SB) (e1_m_now : ∀ k : Nat, k = 19 → 0 ≤ Int32.toInt (m_now k) ∧ Int32.toInt (m_now k) ≤ 9) (hn50 : 16 - Int32.toInt x3 ≤ n50) : ws_X10_goShake_96 post K50 m_fruits m_x m_height m_ripe m_foot m_fork m_told x1 x2 x3 m_now := by
  have l0 : Int32.toInt (1 : Int32) = 1 := (by decide)
  intro v1 ev1
  have f2 : Int32.toInt (x3 + 1) = Int32.toInt x3 + Int32.toInt (1 : Int32) := ta_add _ _ (by omega)
  rw [← ev1] at f2
  exact hK50 x1 x2 v1 m_now (by omega) (by omega) (by omega) e0_m_now e1_m_now (by omega)
set_option maxHeartbeats 8000000 in
set_option maxRecDepth 200000 in
theorem ts_X10_goShake_50 {post : Int32 → (Nat → Int32) → Prop} {SB : Int} {next : Int32 → Int32 → Int32 → (Nat → Int32) → Prop} {n50 : Int} (m_fruits : Int32) (m_x : Nat → Int32) (m_height : Nat → Int32) (m_ripe : Nat → Int32) (m_foot : Nat → Int32) (m_fork : Nat → Int32) (m_told : Nat → Int32) (h_m_fruits : 0 ≤ Int32.toInt m_fruits ∧ Int32.toInt m_fruits ≤ 16) (h_m_x : ∀ k : Nat, 0 ≤ Int32.toInt (m_x k) ∧ Int32.toInt (m_x k) ≤ 99) (h_m_height : ∀ k : Nat, 0 ≤ Int32.toInt (m_height k) ∧ Int32.toInt (m_height k) ≤ 99) (h_m_ripe : ∀ k : Nat, 0 ≤ Int32.toInt (m_ripe k) ∧ Int32.toInt (m_ripe k) ≤ 9) (h_m_foot : ∀ k : Nat, 0 ≤ Int32.toInt (m_foot k) ∧ Int32.toInt (m_foot k) ≤ 99) (h_m_fork : ∀ k : Nat, 0 ≤ Int32.toInt (m_fork k) ∧ Int32.toInt (m_fork k) ≤ 99) (e0_m_told : ∀ k : Nat, k = 4 → 1 ≤ Int32.toInt (m_told k) ∧ Int32.toInt (m_told k) ≤ 30) (e1_m_told : ∀ k : Nat, k = 3 → 0 ≤ Int32.toInt (m_told k) ∧ Int32.toInt (m_told k) ≤ 9) (hc0 : -1 ≤ SB ∧ SB ≤ 7) (hpost : ∀ (r : Int32) (m_now' : Nat → Int32), (0 ≤ Int32.toInt r ∧ Int32.toInt r ≤ 63) → (∀ k : Nat, k = 17 → -1 ≤ Int32.toInt (m_now' k) ∧ Int32.toInt (m_now' k) ≤ SB) → (∀ k : Nat, k = 19 → 0 ≤ Int32.toInt (m_now' k) ∧ Int32.toInt (m_now' k) ≤ 9) → post r m_now') (hKn : ∀ (x1 : Int32) (x2 : Int32) (x3 : Int32) (m_now : Nat → Int32), (0 ≤ Int32.toInt x1 ∧ Int32.toInt x1 ≤ 65535) → (0 ≤ Int32.toInt x2 ∧ Int32.toInt x2 ≤ 65535) → (0 ≤ Int32.toInt x3 ∧ Int32.toInt x3 ≤ 16) → (∀ k : Nat, k = 17 → -1 ≤ Int32.toInt (m_now k) ∧ Int32.toInt (m_now k) ≤ SB) → (∀ k : Nat, k = 19 → 0 ≤ Int32.toInt (m_now k) ∧ Int32.toInt (m_now k) ≤ 9) → (16 - Int32.toInt x3 < n50) → next x1 x2 x3 m_now) (x1 : Int32) (x2 : Int32) (x3 : Int32) (m_now : Nat → Int32) (h_x1 : 0 ≤ Int32.toInt x1 ∧ Int32.toInt x1 ≤ 65535) (h_x2 : 0 ≤ Int32.toInt x2 ∧ Int32.toInt x2 ≤ 65535) (h_x3 : 0 ≤ Int32.toInt x3 ∧ Int32.toInt x3 ≤ 16) (e0_m_now : ∀ k : Nat, k = 17 → -1 ≤ Int32.toInt (m_now k) ∧ Int32.toInt (m_now k) ≤ SB) (e1_m_now : ∀ k : Nat, k = 19 → 0 ≤ Int32.toInt (m_now k) ∧ Int32.toInt (m_now k) ≤ 9) (hn50 : 16 - Int32.toInt x3 ≤ n50) : ws_X10_goShake_50 post next m_fruits m_x m_height m_ripe m_foot m_fork m_told x1 x2 x3 m_now := by
  have l0 : Int32.toInt (1 : Int32) = 1 := (by decide)
  have l1 : Int32.toInt (1431655765 : Int32) = 1431655765 := (by decide)
  have l2 : Int32.toInt (16 : Int32) = 16 := (by decide)
  have l3 : Int32.toInt (20 : Int32) = 20 := (by decide)
  have l4 : Int32.toInt (252645135 : Int32) = 252645135 := (by decide)
  have l5 : Int32.toInt (3 : Int32) = 3 := (by decide)
  have l6 : Int32.toInt (63 : Int32) = 63 := (by decide)
  have l7 : Int32.toInt (858993459 : Int32) = 858993459 := (by decide)
  have l8 : Int32.toInt (9999 : Int32) = 9999 := (by decide)
  refine And.intro (fun c3 => ?_) (fun c3 => ?_)
  · skip
    have c3 := (fa_le _ _).mp c3
    intro v4 ev4
    have hv4 := congrArg Int32.toInt ev4
    intro v6 ev6
    have hv6 := congrArg Int32.toInt ev6
    intro v8 ev8
    have f9 := tp_r (if v6 < 9999 then v6 else 9999)
    have f11 := tp_r v6
    have f10 := ti_min (9999 : Int32) v6
    have hv8 := congrArg Int32.toInt ev8
    have f13 := tp_r v8
    have e12 : ∀ k : Nat, k = 17 → -1 ≤ Int32.toInt ((upd m_now (20 : Int32).toNatClampNeg v8) k) ∧ Int32.toInt ((upd m_now (20 : Int32).toNatClampNeg v8) k) ≤ SB := t_updc (C := fun k => k = 17) e0_m_now (fun hk => by have e9 : (20 : Int32).toNatClampNeg = (Int32.toInt (20 : Int32)).toNat := rfl; have hk : (20 : Int32).toNatClampNeg = 17 := hk; omega)
    have e14 : ∀ k : Nat, k = 19 → 0 ≤ Int32.toInt ((upd m_now (20 : Int32).toNatClampNeg v8) k) ∧ Int32.toInt ((upd m_now (20 : Int32).toNatClampNeg v8) k) ≤ 9 := t_updc (C := fun k => k = 19) e1_m_now (fun hk => by have e9 : (20 : Int32).toNatClampNeg = (Int32.toInt (20 : Int32)).toNat := rfl; have hk : (20 : Int32).toNatClampNeg = 19 := hk; omega)
    intro v15 ev15
    intro v16 ev16
    have f18 := ti_andr v15 1431655765 (by omega)
    have f17 : Int32.toInt (x1 - (v15 &&& 1431655765)) = Int32.toInt x1 - Int32.toInt (v15 &&& 1431655765) := ta_sub _ _ (by omega)
    rw [← ev16] at f17
    intro v19 ev19
    have f20 := ti_andr v16 858993459 (by omega)
    have hv19 := congrArg Int32.toInt ev19
    intro v21 ev21
    intro v22 ev22
    have f24 := ti_andr v21 858993459 (by omega)
    have f23 : Int32.toInt (v19 + (v21 &&& 858993459)) = Int32.toInt v19 + Int32.toInt (v21 &&& 858993459) := ta_add _ _ (by omega)
    rw [← ev22] at f23
    intro v25 ev25
    have hv25 := congrArg Int32.toInt ev25
    intro v27 ev27
    have f28 := ti_andr v25 252645135 (by omega)
    have hv27 := congrArg Int32.toInt ev27
    intro v29 ev29
    have hv29 := congrArg Int32.toInt ev29
    intro v31 ev31
    have hv31 := congrArg Int32.toInt ev31
    have f33 := ti_andr v31 63 (by omega)
    exact hpost _ _ (by omega) e12 e14
  · skip
    have c3 := mt (fa_le _ _).mpr c3
    intro v34 ev34
    have f35 := ti_shr x1 x3 (by omega)
    have hv34 := congrArg Int32.toInt ev34
    intro v36 ev36
    have f37 := ti_andr v34 1 (by omega)
    have f38 := ti_andl v34 1 (by omega)
    have hv36 := congrArg Int32.toInt ev36
    refine And.intro (fun c39 => ?_) (fun c39 => ?_)
    · skip
      have c39 := mt (fa_eq _ _).mpr c39
      refine And.intro (fun h9 => absurd h9 (by decide)) (fun _ => ?_)
      exact ts_X10_goShake_96 m_fruits m_x m_height m_ripe m_foot m_fork m_told h_m_fruits h_m_x h_m_height h_m_ripe h_m_foot h_m_fork e0_m_told e1_m_told hc0 hpost hKn x1 x2 x3 m_now (by omega) (by omega) (by omega) e0_m_now e1_m_now (by omega)
    · skip
      have c39 := (fa_eq _ _).mp c39
      refine And.intro (fun _ => ?_) (fun h9 => absurd h9 (by decide))
      refine And.intro (t_in (by omega)) ?_
      have e40 : ∀ k : Nat, k = 17 → -1 ≤ Int32.toInt ((upd m_now x3.toNatClampNeg 3) k) ∧ Int32.toInt ((upd m_now x3.toNatClampNeg 3) k) ≤ SB := t_updc (C := fun k => k = 17) e0_m_now (fun hk => by have e9 : x3.toNatClampNeg = (Int32.toInt x3).toNat := rfl; have hk : x3.toNatClampNeg = 17 := hk; omega)
      have e41 : ∀ k : Nat, k = 19 → 0 ≤ Int32.toInt ((upd m_now x3.toNatClampNeg 3) k) ∧ Int32.toInt ((upd m_now x3.toNatClampNeg 3) k) ≤ 9 := t_updc (C := fun k => k = 19) e1_m_now (fun hk => by have e9 : x3.toNatClampNeg = (Int32.toInt x3).toNat := rfl; have hk : x3.toNatClampNeg = 19 := hk; omega)
      intro v42 ev42
      have hv42 := congrArg Int32.toInt ev42
      intro v44 ev44
      have f45 := ti_shl1 15 32768 x3 (by decide) (by omega)
      have hv44 := congrArg Int32.toInt ev44
      refine t_X10_below (by omega) (by omega) (by omega) (fun k => by have q9 := h_m_x k; omega) (fun k => by have q9 := h_m_height k; omega) (fun r46 h_r46 => ?_)
      intro v47 ev47
      have f49 := tp_r v47
      have e48 : ∀ k : Nat, k = 17 → -1 ≤ Int32.toInt ((upd (upd m_now x3.toNatClampNeg 3) (16 : Int32).toNatClampNeg v47) k) ∧ Int32.toInt ((upd (upd m_now x3.toNatClampNeg 3) (16 : Int32).toNatClampNeg v47) k) ≤ SB := t_updc (C := fun k => k = 17) e40 (fun hk => by have e9 : (16 : Int32).toNatClampNeg = (Int32.toInt (16 : Int32)).toNat := rfl; have hk : (16 : Int32).toNatClampNeg = 17 := hk; omega)
      have e50 : ∀ k : Nat, k = 19 → 0 ≤ Int32.toInt ((upd (upd m_now x3.toNatClampNeg 3) (16 : Int32).toNatClampNeg v47) k) ∧ Int32.toInt ((upd (upd m_now x3.toNatClampNeg 3) (16 : Int32).toNatClampNeg v47) k) ≤ 9 := t_updc (C := fun k => k = 19) e41 (fun hk => by have e9 : (16 : Int32).toNatClampNeg = (Int32.toInt (16 : Int32)).toNat := rfl; have hk : (16 : Int32).toNatClampNeg = 19 := hk; omega)
      exact ts_X10_goShake_96 m_fruits m_x m_height m_ripe m_foot m_fork m_told h_m_fruits h_m_x h_m_height h_m_ripe h_m_foot h_m_fork e0_m_told e1_m_told hc0 hpost hKn x1 x2 x3 (upd (upd m_now x3.toNatClampNeg 3) (16 : Int32).toNatClampNeg v47) (by omega) (by omega) (by omega) e48 e50 (by omega)
set_option maxHeartbeats 8000000 in
set_option maxRecDepth 200000 in
theorem tb_X10_goShake_50 {post : Int32 → (Nat → Int32) → Prop} {SB : Int} (m_fruits : Int32) (m_x : Nat → Int32) (m_height : Nat → Int32) (m_ripe : Nat → Int32) (m_foot : Nat → Int32) (m_fork : Nat → Int32) (m_told : Nat → Int32) (h_m_fruits : 0 ≤ Int32.toInt m_fruits ∧ Int32.toInt m_fruits ≤ 16) (h_m_x : ∀ k : Nat, 0 ≤ Int32.toInt (m_x k) ∧ Int32.toInt (m_x k) ≤ 99) (h_m_height : ∀ k : Nat, 0 ≤ Int32.toInt (m_height k) ∧ Int32.toInt (m_height k) ≤ 99) (h_m_ripe : ∀ k : Nat, 0 ≤ Int32.toInt (m_ripe k) ∧ Int32.toInt (m_ripe k) ≤ 9) (h_m_foot : ∀ k : Nat, 0 ≤ Int32.toInt (m_foot k) ∧ Int32.toInt (m_foot k) ≤ 99) (h_m_fork : ∀ k : Nat, 0 ≤ Int32.toInt (m_fork k) ∧ Int32.toInt (m_fork k) ≤ 99) (e0_m_told : ∀ k : Nat, k = 4 → 1 ≤ Int32.toInt (m_told k) ∧ Int32.toInt (m_told k) ≤ 30) (e1_m_told : ∀ k : Nat, k = 3 → 0 ≤ Int32.toInt (m_told k) ∧ Int32.toInt (m_told k) ≤ 9) (hc0 : -1 ≤ SB ∧ SB ≤ 7) (hpost : ∀ (r : Int32) (m_now' : Nat → Int32), (0 ≤ Int32.toInt r ∧ Int32.toInt r ≤ 63) → (∀ k : Nat, k = 17 → -1 ≤ Int32.toInt (m_now' k) ∧ Int32.toInt (m_now' k) ≤ SB) → (∀ k : Nat, k = 19 → 0 ≤ Int32.toInt (m_now' k) ∧ Int32.toInt (m_now' k) ≤ 9) → post r m_now') : ∀ (n : Nat) (x1 : Int32) (x2 : Int32) (x3 : Int32) (m_now : Nat → Int32), (0 ≤ Int32.toInt x1 ∧ Int32.toInt x1 ≤ 65535) → (0 ≤ Int32.toInt x2 ∧ Int32.toInt x2 ≤ 65535) → (0 ≤ Int32.toInt x3 ∧ Int32.toInt x3 ≤ 16) → (∀ k : Nat, k = 17 → -1 ≤ Int32.toInt (m_now k) ∧ Int32.toInt (m_now k) ≤ SB) → (∀ k : Nat, k = 19 → 0 ≤ Int32.toInt (m_now k) ∧ Int32.toInt (m_now k) ≤ 9) → (16 - Int32.toInt x3 < (n : Int)) → wb_X10_goShake_50 post m_fruits m_x m_height m_ripe m_foot m_fork m_told n x1 x2 x3 m_now := by
  intro n
  induction n with
  | zero =>
    intro x1 x2 x3 m_now h_x1 h_x2 h_x3 e0_m_now e1_m_now hm
    exfalso; omega
  | succ n ih =>
    intro x1 x2 x3 m_now h_x1 h_x2 h_x3 e0_m_now e1_m_now hm
    exact ts_X10_goShake_50 m_fruits m_x m_height m_ripe m_foot m_fork m_told h_m_fruits h_m_x h_m_height h_m_ripe h_m_foot h_m_fork e0_m_told e1_m_told hc0 hpost ih x1 x2 x3 m_now h_x1 h_x2 h_x3 e0_m_now e1_m_now (by omega)
set_option maxHeartbeats 8000000 in
set_option maxRecDepth 200000 in
theorem t_X10_goShake {post : Int32 → (Nat → Int32) → Prop} {SB : Int} {m_fruits : Int32} {m_now : Nat → Int32} {m_x : Nat → Int32} {m_height : Nat → Int32} {m_ripe : Nat → Int32} {m_foot : Nat → Int32} {m_fork : Nat → Int32} {m_told : Nat → Int32} (h_m_fruits : 0 ≤ Int32.toInt m_fruits ∧ Int32.toInt m_fruits ≤ 16) (e0_m_now : ∀ k : Nat, k = 17 → -1 ≤ Int32.toInt (m_now k) ∧ Int32.toInt (m_now k) ≤ SB) (e1_m_now : ∀ k : Nat, k = 19 → 0 ≤ Int32.toInt (m_now k) ∧ Int32.toInt (m_now k) ≤ 9) (h_m_x : ∀ k : Nat, 0 ≤ Int32.toInt (m_x k) ∧ Int32.toInt (m_x k) ≤ 99) (h_m_height : ∀ k : Nat, 0 ≤ Int32.toInt (m_height k) ∧ Int32.toInt (m_height k) ≤ 99) (h_m_ripe : ∀ k : Nat, 0 ≤ Int32.toInt (m_ripe k) ∧ Int32.toInt (m_ripe k) ≤ 9) (h_m_foot : ∀ k : Nat, 0 ≤ Int32.toInt (m_foot k) ∧ Int32.toInt (m_foot k) ≤ 99) (h_m_fork : ∀ k : Nat, 0 ≤ Int32.toInt (m_fork k) ∧ Int32.toInt (m_fork k) ≤ 99) (e0_m_told : ∀ k : Nat, k = 4 → 1 ≤ Int32.toInt (m_told k) ∧ Int32.toInt (m_told k) ≤ 30) (e1_m_told : ∀ k : Nat, k = 3 → 0 ≤ Int32.toInt (m_told k) ∧ Int32.toInt (m_told k) ≤ 9) (hc0 : -1 ≤ SB ∧ SB ≤ 7) (hx0 : 0 ≤ Int32.toInt (m_now (17 : Int32).toNatClampNeg)) (hpost : ∀ (r : Int32) (m_now' : Nat → Int32), (0 ≤ Int32.toInt r ∧ Int32.toInt r ≤ 63) → (∀ k : Nat, k = 17 → -1 ≤ Int32.toInt (m_now' k) ∧ Int32.toInt (m_now' k) ≤ SB) → (∀ k : Nat, k = 19 → 0 ≤ Int32.toInt (m_now' k) ∧ Int32.toInt (m_now' k) ≤ 9) → post r m_now') : wp_X10_goShake post m_fruits m_now m_x m_height m_ripe m_foot m_fork m_told := by
  have l0 : Int32.toInt (0 : Int32) = 0 := (by decide)
  have l1 : Int32.toInt (17 : Int32) = 17 := (by decide)
  have l2 : Int32.toInt (18 : Int32) = 18 := (by decide)
  have l3 : Int32.toInt (19 : Int32) = 19 := (by decide)
  refine t_X10_which (by omega) (by omega) e0_m_now e1_m_now (by omega) (fun r51 h_r51 ox52 => ?_)
  have q53 := e1_m_now (19 : Int32).toNatClampNeg (by have e9 : (19 : Int32).toNatClampNeg = (Int32.toInt (19 : Int32)).toNat := rfl; omega)
  intro v54 ev54
  have hv54 := congrArg Int32.toInt ev54
  refine t_X10_ripeOnes (by omega) (by omega) (fun k => by have q9 := h_m_ripe k; omega) (fun r56 h_r56 ox57 => ?_)
  intro v58 ev58
  have f59 := ti_andr r51 r56 (by omega)
  have f60 := ti_andl r51 r56 (by omega)
  have hv58 := congrArg Int32.toInt ev58
  have q61 := e0_m_now (17 : Int32).toNatClampNeg (by have e9 : (17 : Int32).toNatClampNeg = (Int32.toInt (17 : Int32)).toNat := rfl; omega)
  intro v62 ev62
  have hv62 := congrArg Int32.toInt ev62
  intro v64 ev64
  have hv64 := congrArg Int32.toInt ev64
  refine t_X10_reachedFrom (by omega) (by omega) (by omega) (fun k => by have q9 := h_m_x k; omega) (fun k => by have q9 := h_m_height k; omega) (fun k => by have q9 := h_m_foot k; omega) (fun k => by have q9 := h_m_fork k; omega) e0_m_told e1_m_told (fun r66 h_r66 => ?_)
  intro v67 ev67
  have f68 := ti_andr v58 r66 (by omega)
  have f69 := ti_andl v58 r66 (by omega)
  have hv67 := congrArg Int32.toInt ev67
  refine t_X10_which (by omega) (by omega) e0_m_now e1_m_now (by omega) (fun r70 h_r70 ox71 => ?_)
  intro v72 ev72
  have f74 := ti_andl r70 (v67 ^^^ (-1)) (by omega)
  have hv72 := congrArg Int32.toInt ev72
  exact ⟨18, tb_X10_goShake_50 m_fruits m_x m_height m_ripe m_foot m_fork m_told h_m_fruits h_m_x h_m_height h_m_ripe h_m_foot h_m_fork e0_m_told e1_m_told hc0 hpost _ v67 v72 0 m_now (by omega) (by omega) (by omega) e0_m_now e1_m_now (by omega)⟩
set_option maxHeartbeats 8000000 in
set_option maxRecDepth 200000 in
theorem t_X10_shake {post : Int32 → Int32 → Int32 → (Nat → Int32) → (Nat → Int32) → Prop} {SB : Int} {m_fruits : Int32} {m_thrown : Int32} {m_undoMany : Int32} {m_now : Nat → Int32} {m_x : Nat → Int32} {m_height : Nat → Int32} {m_ripe : Nat → Int32} {m_foot : Nat → Int32} {m_fork : Nat → Int32} {m_told : Nat → Int32} {m_undos : Nat → Int32} (h_m_fruits : 0 ≤ Int32.toInt m_fruits ∧ Int32.toInt m_fruits ≤ 16) (h_m_thrown : 0 ≤ Int32.toInt m_thrown ∧ Int32.toInt m_thrown ≤ 1) (h_m_undoMany : 0 ≤ Int32.toInt m_undoMany ∧ Int32.toInt m_undoMany ≤ 12) (e0_m_now : ∀ k : Nat, k = 17 → -1 ≤ Int32.toInt (m_now k) ∧ Int32.toInt (m_now k) ≤ SB) (e1_m_now : ∀ k : Nat, k = 19 → 0 ≤ Int32.toInt (m_now k) ∧ Int32.toInt (m_now k) ≤ 9) (h_m_x : ∀ k : Nat, 0 ≤ Int32.toInt (m_x k) ∧ Int32.toInt (m_x k) ≤ 99) (h_m_height : ∀ k : Nat, 0 ≤ Int32.toInt (m_height k) ∧ Int32.toInt (m_height k) ≤ 99) (h_m_ripe : ∀ k : Nat, 0 ≤ Int32.toInt (m_ripe k) ∧ Int32.toInt (m_ripe k) ≤ 9) (h_m_foot : ∀ k : Nat, 0 ≤ Int32.toInt (m_foot k) ∧ Int32.toInt (m_foot k) ≤ 99) (h_m_fork : ∀ k : Nat, 0 ≤ Int32.toInt (m_fork k) ∧ Int32.toInt (m_fork k) ≤ 99) (e0_m_told : ∀ k : Nat, k = 4 → 1 ≤ Int32.toInt (m_told k) ∧ Int32.toInt (m_told k) ≤ 30) (e1_m_told : ∀ k : Nat, k = 3 → 0 ≤ Int32.toInt (m_told k) ∧ Int32.toInt (m_told k) ≤ 9) (e0_m_undos : ∀ k : Nat, k % 21 = 17 → -1 ≤ Int32.toInt (m_undos k) ∧ Int32.toInt (m_undos k) ≤ SB) (e1_m_undos : ∀ k : Nat, k % 21 = 19 → 0 ≤ Int32.toInt (m_undos k) ∧ Int32.toInt (m_undos k) ≤ 9) (hc0 : -1 ≤ SB ∧ SB ≤ 7) (hpost : ∀ (r : Int32) (m_thrown' : Int32) (m_undoMany' : Int32) (m_now' : Nat → Int32) (m_undos' : Nat → Int32), (-2 ≤ Int32.toInt r ∧ Int32.toInt r ≤ 63) → (0 ≤ Int32.toInt m_thrown' ∧ Int32.toInt m_thrown' ≤ 0) → (0 ≤ Int32.toInt m_undoMany' ∧ Int32.toInt m_undoMany' ≤ 12) → (∀ k : Nat, k = 17 → -1 ≤ Int32.toInt (m_now' k) ∧ Int32.toInt (m_now' k) ≤ SB) → (∀ k : Nat, k = 19 → 0 ≤ Int32.toInt (m_now' k) ∧ Int32.toInt (m_now' k) ≤ 9) → (∀ k : Nat, k % 21 = 17 → -1 ≤ Int32.toInt (m_undos' k) ∧ Int32.toInt (m_undos' k) ≤ SB) → (∀ k : Nat, k % 21 = 19 → 0 ≤ Int32.toInt (m_undos' k) ∧ Int32.toInt (m_undos' k) ≤ 9) → post r m_thrown' m_undoMany' m_now' m_undos') : wp_X10_shake post m_fruits m_thrown m_undoMany m_now m_x m_height m_ripe m_foot m_fork m_told m_undos := by
  have l0 : Int32.toInt ((-1) : Int32) = -1 := (by decide)
  have l1 : Int32.toInt ((-2) : Int32) = -2 := (by decide)
  have l2 : Int32.toInt (0 : Int32) = 0 := (by decide)
  have l3 : Int32.toInt (17 : Int32) = 17 := (by decide)
  have q1 := e0_m_now (17 : Int32).toNatClampNeg (by have e9 : (17 : Int32).toNatClampNeg = (Int32.toInt (17 : Int32)).toNat := rfl; omega)
  intro v2 ev2
  have hv2 := congrArg Int32.toInt ev2
  refine And.intro (fun c4 => ?_) (fun c4 => ?_)
  · skip
    have c4 := mt (fa_eq _ _).mpr c4
    refine t_X10_remember (by omega) e0_m_now e1_m_now e0_m_undos e1_m_undos (by omega) (fun m_undoMany_5 m_undos_6 h_m_undoMany_5 e0_m_undos_6 e1_m_undos_6 => ?_)
    refine t_X10_goShake (by omega) e0_m_now e1_m_now (fun k => by have q9 := h_m_x k; omega) (fun k => by have q9 := h_m_height k; omega) (fun k => by have q9 := h_m_ripe k; omega) (fun k => by have q9 := h_m_foot k; omega) (fun k => by have q9 := h_m_fork k; omega) e0_m_told e1_m_told (by omega) (by omega) (fun r8 m_now_7 h_r8 e0_m_now_7 e1_m_now_7 => ?_)
    exact hpost _ _ _ _ _ (by omega) (by omega) (by omega) e0_m_now_7 e1_m_now_7 e0_m_undos_6 e1_m_undos_6
  · skip
    have c4 := (fa_eq _ _).mp c4
    exact hpost _ _ _ _ _ (by omega) (by omega) (by omega) e0_m_now e1_m_now e0_m_undos e1_m_undos
set_option maxHeartbeats 8000000 in
set_option maxRecDepth 200000 in
theorem t_X10_sleep {post : Int32 → Int32 → Int32 → (Nat → Int32) → (Nat → Int32) → Prop} {SB : Int} {m_fruits : Int32} {m_thrown : Int32} {m_undoMany : Int32} {m_now : Nat → Int32} {m_undos : Nat → Int32} (h_m_fruits : 0 ≤ Int32.toInt m_fruits ∧ Int32.toInt m_fruits ≤ 16) (h_m_thrown : 0 ≤ Int32.toInt m_thrown ∧ Int32.toInt m_thrown ≤ 1) (h_m_undoMany : 0 ≤ Int32.toInt m_undoMany ∧ Int32.toInt m_undoMany ≤ 12) (e0_m_now : ∀ k : Nat, k = 17 → -1 ≤ Int32.toInt (m_now k) ∧ Int32.toInt (m_now k) ≤ SB) (e1_m_now : ∀ k : Nat, k = 19 → 0 ≤ Int32.toInt (m_now k) ∧ Int32.toInt (m_now k) ≤ 9) (e0_m_undos : ∀ k : Nat, k % 21 = 17 → -1 ≤ Int32.toInt (m_undos k) ∧ Int32.toInt (m_undos k) ≤ SB) (e1_m_undos : ∀ k : Nat, k % 21 = 19 → 0 ≤ Int32.toInt (m_undos k) ∧ Int32.toInt (m_undos k) ≤ 9) (hc0 : -1 ≤ SB ∧ SB ≤ 7) (hpost : ∀ (r : Int32) (m_thrown' : Int32) (m_undoMany' : Int32) (m_now' : Nat → Int32) (m_undos' : Nat → Int32), (-1 ≤ Int32.toInt r ∧ Int32.toInt r ≤ 9) → (0 ≤ Int32.toInt m_thrown' ∧ Int32.toInt m_thrown' ≤ 0) → (0 ≤ Int32.toInt m_undoMany' ∧ Int32.toInt m_undoMany' ≤ 12) → (∀ k : Nat, k = 17 → -1 ≤ Int32.toInt (m_now' k) ∧ Int32.toInt (m_now' k) ≤ SB) → (∀ k : Nat, k = 19 → 0 ≤ Int32.toInt (m_now' k) ∧ Int32.toInt (m_now' k) ≤ 9) → (∀ k : Nat, k % 21 = 17 → -1 ≤ Int32.toInt (m_undos' k) ∧ Int32.toInt (m_undos' k) ≤ SB) → (∀ k : Nat, k % 21 = 19 → 0 ≤ Int32.toInt (m_undos' k) ∧ Int32.toInt (m_undos' k) ≤ 9) → post r m_thrown' m_undoMany' m_now' m_undos') : wp_X10_sleep post m_fruits m_thrown m_undoMany m_now m_undos := by
  have l0 : Int32.toInt ((-1) : Int32) = -1 := (by decide)
  have l1 : Int32.toInt (0 : Int32) = 0 := (by decide)
  have l2 : Int32.toInt (1 : Int32) = 1 := (by decide)
  have l3 : Int32.toInt (17 : Int32) = 17 := (by decide)
  have l4 : Int32.toInt (19 : Int32) = 19 := (by decide)
  have l5 : Int32.toInt (20 : Int32) = 20 := (by decide)
  have l6 : Int32.toInt (9 : Int32) = 9 := (by decide)
  have q1 := e1_m_now (19 : Int32).toNatClampNeg (by have e9 : (19 : Int32).toNatClampNeg = (Int32.toInt (19 : Int32)).toNat := rfl; omega)
  intro v2 ev2
  have hv2 := congrArg Int32.toInt ev2
  refine And.intro (fun c4 => ?_) (fun c4 => ?_)
  · skip
    have c4 := mt (fa_eq _ _).mpr c4
    refine t_X10_remember (by omega) e0_m_now e1_m_now e0_m_undos e1_m_undos (by omega) (fun m_undoMany_5 m_undos_6 h_m_undoMany_5 e0_m_undos_6 e1_m_undos_6 => ?_)
    refine t_X10_empty (by omega) e0_m_now e1_m_now (by omega) (fun r8 m_now_7 e0_m_now_7 e1_m_now_7 ox9 => ?_)
    have e10 : ∀ k : Nat, k = 17 → -1 ≤ Int32.toInt ((upd m_now_7 (17 : Int32).toNatClampNeg (-1)) k) ∧ Int32.toInt ((upd m_now_7 (17 : Int32).toNatClampNeg (-1)) k) ≤ SB := t_updc (C := fun k => k = 17) e0_m_now_7 (fun hk => by have e9 : (17 : Int32).toNatClampNeg = (Int32.toInt (17 : Int32)).toNat := rfl; have hk : (17 : Int32).toNatClampNeg = 17 := hk; omega)
    have e11 : ∀ k : Nat, k = 19 → 0 ≤ Int32.toInt ((upd m_now_7 (17 : Int32).toNatClampNeg (-1)) k) ∧ Int32.toInt ((upd m_now_7 (17 : Int32).toNatClampNeg (-1)) k) ≤ 9 := t_updc (C := fun k => k = 19) e1_m_now_7 (fun hk => by have e9 : (17 : Int32).toNatClampNeg = (Int32.toInt (17 : Int32)).toNat := rfl; have hk : (17 : Int32).toNatClampNeg = 19 := hk; omega)
    have e12 : ∀ k : Nat, k = 17 → -1 ≤ Int32.toInt ((upd (upd m_now_7 (17 : Int32).toNatClampNeg (-1)) (20 : Int32).toNatClampNeg 0) k) ∧ Int32.toInt ((upd (upd m_now_7 (17 : Int32).toNatClampNeg (-1)) (20 : Int32).toNatClampNeg 0) k) ≤ SB := t_updc (C := fun k => k = 17) e10 (fun hk => by have e9 : (20 : Int32).toNatClampNeg = (Int32.toInt (20 : Int32)).toNat := rfl; have hk : (20 : Int32).toNatClampNeg = 17 := hk; omega)
    have e13 : ∀ k : Nat, k = 19 → 0 ≤ Int32.toInt ((upd (upd m_now_7 (17 : Int32).toNatClampNeg (-1)) (20 : Int32).toNatClampNeg 0) k) ∧ Int32.toInt ((upd (upd m_now_7 (17 : Int32).toNatClampNeg (-1)) (20 : Int32).toNatClampNeg 0) k) ≤ 9 := t_updc (C := fun k => k = 19) e11 (fun hk => by have e9 : (20 : Int32).toNatClampNeg = (Int32.toInt (20 : Int32)).toNat := rfl; have hk : (20 : Int32).toNatClampNeg = 19 := hk; omega)
    have q14 := e13 (19 : Int32).toNatClampNeg (by have e9 : (19 : Int32).toNatClampNeg = (Int32.toInt (19 : Int32)).toNat := rfl; omega)
    intro v15 ev15
    have hv15 := congrArg Int32.toInt ev15
    have j17 : Int32.toInt v15 = Int32.toInt (m_now (19 : Int32).toNatClampNeg) := by rw [ev15]; exact congrArg Int32.toInt (gs_19 (by assumption))
    intro v18 ev18
    have f19 : Int32.toInt (v15 + 1) = Int32.toInt v15 + Int32.toInt (1 : Int32) := ta_add _ _ (by omega)
    rw [← ev18] at f19
    have e20 : ∀ k : Nat, k = 17 → -1 ≤ Int32.toInt ((upd (upd (upd m_now_7 (17 : Int32).toNatClampNeg (-1)) (20 : Int32).toNatClampNeg 0) (19 : Int32).toNatClampNeg v18) k) ∧ Int32.toInt ((upd (upd (upd m_now_7 (17 : Int32).toNatClampNeg (-1)) (20 : Int32).toNatClampNeg 0) (19 : Int32).toNatClampNeg v18) k) ≤ SB := t_updc (C := fun k => k = 17) e12 (fun hk => by have e9 : (19 : Int32).toNatClampNeg = (Int32.toInt (19 : Int32)).toNat := rfl; have hk : (19 : Int32).toNatClampNeg = 17 := hk; omega)
    have e21 : ∀ k : Nat, k = 19 → 0 ≤ Int32.toInt ((upd (upd (upd m_now_7 (17 : Int32).toNatClampNeg (-1)) (20 : Int32).toNatClampNeg 0) (19 : Int32).toNatClampNeg v18) k) ∧ Int32.toInt ((upd (upd (upd m_now_7 (17 : Int32).toNatClampNeg (-1)) (20 : Int32).toNatClampNeg 0) (19 : Int32).toNatClampNeg v18) k) ≤ 9 := t_updc (C := fun k => k = 19) e13 (fun hk => by have e9 : (19 : Int32).toNatClampNeg = (Int32.toInt (19 : Int32)).toNat := rfl; have hk : (19 : Int32).toNatClampNeg = 19 := hk; omega)
    have q22 := e21 (19 : Int32).toNatClampNeg (by have e9 : (19 : Int32).toNatClampNeg = (Int32.toInt (19 : Int32)).toNat := rfl; omega)
    intro v23 ev23
    have hv23 := congrArg Int32.toInt ev23
    exact hpost _ _ _ _ _ (by omega) (by omega) (by omega) e20 e21 e0_m_undos_6 e1_m_undos_6
  · skip
    have c4 := (fa_eq _ _).mp c4
    exact hpost _ _ _ _ _ (by omega) (by omega) (by omega) e0_m_now e1_m_now e0_m_undos e1_m_undos
set_option maxHeartbeats 8000000 in
set_option maxRecDepth 200000 in
theorem ts_X10_readAct_109 {post : Int32 → Int32 → (Nat → Int32) → Prop} {m_at0 : Int32} (m_read : Nat) (m_length : Int32) (m_top : Int32) (m_text : Nat → Int32) (m_rule : Nat → Int32) (h_m_read : m_read = 1) (h_m_length : 0 ≤ Int32.toInt m_length ∧ Int32.toInt m_length ≤ 80) (h_m_top : 60 ≤ Int32.toInt m_top ∧ Int32.toInt m_top ≤ 60) (h_m_text : ∀ k : Nat, -128 ≤ Int32.toInt (m_text k) ∧ Int32.toInt (m_text k) ≤ 127) (h_m_rule : ∀ k : Nat, -128 ≤ Int32.toInt (m_rule k) ∧ Int32.toInt (m_rule k) ≤ 127) (hpost : ∀ (m_at' : Int32) (m_wrong' : Int32) (m_acts' : Nat → Int32), (0 ≤ Int32.toInt m_at' ∧ Int32.toInt m_at' ≤ 80) → (-1 ≤ Int32.toInt m_wrong' ∧ Int32.toInt m_wrong' ≤ 80) → (∀ k : Nat, -1 ≤ Int32.toInt (m_acts' k) ∧ Int32.toInt (m_acts' k) ≤ 255) → (Int32.toInt m_at0 + 1 ≤ Int32.toInt m_at') → (Int32.toInt m_at' ≤ 61) → post m_at' m_wrong' m_acts') (x1 : Int32) (m_at : Int32) (m_wrong : Int32) (m_acts : Nat → Int32) (h_x1 : 0 ≤ Int32.toInt x1 ∧ Int32.toInt x1 ≤ 125) (h_m_at : 0 ≤ Int32.toInt m_at ∧ Int32.toInt m_at ≤ 80) (h_m_wrong : -1 ≤ Int32.toInt m_wrong ∧ Int32.toInt m_wrong ≤ 80) (h_m_acts : ∀ k : Nat, -1 ≤ Int32.toInt (m_acts k) ∧ Int32.toInt (m_acts k) ≤ 255) (hx0 : Int32.toInt m_at ≤ 61) (hx1 : Int32.toInt m_at0 + 1 ≤ Int32.toInt m_at) : ws_X10_readAct_109 post m_read m_length m_top m_text m_rule x1 m_at m_wrong m_acts := by
  have l0 : Int32.toInt (1 : Int32) = 1 := (by decide)
  have l1 : Int32.toInt (2 : Int32) = 2 := (by decide)
  intro v1 ev1
  have f2 : Int32.toInt (x1 + 1) = Int32.toInt x1 + Int32.toInt (1 : Int32) := ta_add _ _ (by omega)
  rw [← ev1] at f2
  refine t_X10_number (by omega) (by first | exact h_m_read | exact Or.inl rfl | exact Or.inr rfl | omega) (by omega) (by omega) (by omega) (by omega) (fun k => by have q9 := h_m_text k; omega) (fun k => by have q9 := h_m_rule k; omega) (by omega) (fun r5 m_at_3 m_wrong_4 h_r5 h_m_at_3 h_m_wrong_4 ox6 ox7 ox8 ox9 => ?_)
  refine And.intro (t_in (by omega)) ?_
  have a10 : ∀ k : Nat, -1 ≤ Int32.toInt ((upd m_acts v1.toNatClampNeg r5) k) ∧ Int32.toInt ((upd m_acts v1.toNatClampNeg r5) k) ≤ 255 := t_upd (fun k => by have q9 := h_m_acts k; omega) (by omega)
  exact hpost _ _ _ (by omega) (by omega) (fun k => by have q9 := a10 k; omega) (by omega) (by omega)
set_option maxHeartbeats 8000000 in
set_option maxRecDepth 200000 in
theorem ts_X10_readAct_97 {post : Int32 → Int32 → (Nat → Int32) → Prop} {m_at0 : Int32} (m_read : Nat) (m_length : Int32) (m_top : Int32) (m_text : Nat → Int32) (m_rule : Nat → Int32) (h_m_read : m_read = 1) (h_m_length : 0 ≤ Int32.toInt m_length ∧ Int32.toInt m_length ≤ 80) (h_m_top : 60 ≤ Int32.toInt m_top ∧ Int32.toInt m_top ≤ 60) (h_m_text : ∀ k : Nat, -128 ≤ Int32.toInt (m_text k) ∧ Int32.toInt (m_text k) ≤ 127) (h_m_rule : ∀ k : Nat, -128 ≤ Int32.toInt (m_rule k) ∧ Int32.toInt (m_rule k) ≤ 127) (hpost : ∀ (m_at' : Int32) (m_wrong' : Int32) (m_acts' : Nat → Int32), (0 ≤ Int32.toInt m_at' ∧ Int32.toInt m_at' ≤ 80) → (-1 ≤ Int32.toInt m_wrong' ∧ Int32.toInt m_wrong' ≤ 80) → (∀ k : Nat, -1 ≤ Int32.toInt (m_acts' k) ∧ Int32.toInt (m_acts' k) ≤ 255) → (Int32.toInt m_at0 + 1 ≤ Int32.toInt m_at') → (Int32.toInt m_at' ≤ 61) → post m_at' m_wrong' m_acts') (x1 : Int32) (x2 : Int32) (m_at : Int32) (m_wrong : Int32) (m_acts : Nat → Int32) (h_x1 : 0 ≤ Int32.toInt x1 ∧ Int32.toInt x1 ≤ 125) (h_x2 : -1 ≤ Int32.toInt x2 ∧ Int32.toInt x2 ≤ 255) (h_m_at : 0 ≤ Int32.toInt m_at ∧ Int32.toInt m_at ≤ 80) (h_m_wrong : -1 ≤ Int32.toInt m_wrong ∧ Int32.toInt m_wrong ≤ 80) (h_m_acts : ∀ k : Nat, -1 ≤ Int32.toInt (m_acts k) ∧ Int32.toInt (m_acts k) ≤ 255) (hx0 : Int32.toInt m_at ≤ 61) (hx1 : Int32.toInt m_at0 + 1 ≤ Int32.toInt m_at) : ws_X10_readAct_97 post m_read m_length m_top m_text m_rule x1 x2 m_at m_wrong m_acts := by
  have l0 : Int32.toInt (104 : Int32) = 104 := (by decide)
  have l1 : Int32.toInt (112 : Int32) = 112 := (by decide)
  refine And.intro (fun c11 => ?_) (fun c11 => ?_)
  · skip
    have c11 := (fa_eq _ _).mp c11
    exact ts_X10_readAct_109 m_read m_length m_top m_text m_rule h_m_read h_m_length h_m_top h_m_text h_m_rule hpost x1 m_at m_wrong m_acts (by omega) (by omega) (by omega) (fun k => by have q9 := h_m_acts k; omega) (by omega) (by omega)
  · skip
    have c11 := mt (fa_eq _ _).mpr c11
    refine And.intro (fun c12 => ?_) (fun c12 => ?_)
    · skip
      have c12 := mt (fa_eq _ _).mpr c12
      exact hpost _ _ _ (by omega) (by omega) (fun k => by have q9 := h_m_acts k; omega) (by omega) (by omega)
    · skip
      have c12 := (fa_eq _ _).mp c12
      exact ts_X10_readAct_109 m_read m_length m_top m_text m_rule h_m_read h_m_length h_m_top h_m_text h_m_rule hpost x1 m_at m_wrong m_acts (by omega) (by omega) (by omega) (fun k => by have q9 := h_m_acts k; omega) (by omega) (by omega)
set_option maxHeartbeats 8000000 in
set_option maxRecDepth 200000 in
theorem ts_X10_readAct_61 {post : Int32 → Int32 → (Nat → Int32) → Prop} {m_at0 : Int32} (m_read : Nat) (m_length : Int32) (m_top : Int32) (m_text : Nat → Int32) (m_rule : Nat → Int32) (h_m_read : m_read = 1) (h_m_length : 0 ≤ Int32.toInt m_length ∧ Int32.toInt m_length ≤ 80) (h_m_top : 60 ≤ Int32.toInt m_top ∧ Int32.toInt m_top ≤ 60) (h_m_text : ∀ k : Nat, -128 ≤ Int32.toInt (m_text k) ∧ Int32.toInt (m_text k) ≤ 127) (h_m_rule : ∀ k : Nat, -128 ≤ Int32.toInt (m_rule k) ∧ Int32.toInt (m_rule k) ≤ 127) (hpost : ∀ (m_at' : Int32) (m_wrong' : Int32) (m_acts' : Nat → Int32), (0 ≤ Int32.toInt m_at' ∧ Int32.toInt m_at' ≤ 80) → (-1 ≤ Int32.toInt m_wrong' ∧ Int32.toInt m_wrong' ≤ 80) → (∀ k : Nat, -1 ≤ Int32.toInt (m_acts' k) ∧ Int32.toInt (m_acts' k) ≤ 255) → (Int32.toInt m_at0 + 1 ≤ Int32.toInt m_at') → (Int32.toInt m_at' ≤ 61) → post m_at' m_wrong' m_acts') (x1 : Int32) (x2 : Int32) (m_at : Int32) (m_wrong : Int32) (m_acts : Nat → Int32) (h_x1 : 0 ≤ Int32.toInt x1 ∧ Int32.toInt x1 ≤ 125) (h_x2 : -1 ≤ Int32.toInt x2 ∧ Int32.toInt x2 ≤ 255) (h_m_at : 0 ≤ Int32.toInt m_at ∧ Int32.toInt m_at ≤ 80) (h_m_wrong : -1 ≤ Int32.toInt m_wrong ∧ Int32.toInt m_wrong ≤ 80) (h_m_acts : ∀ k : Nat, -1 ≤ Int32.toInt (m_acts k) ∧ Int32.toInt (m_acts k) ≤ 255) (hx0 : Int32.toInt m_at ≤ 60) (hx1 : Int32.toInt m_at0 ≤ Int32.toInt m_at) : ws_X10_readAct_61 post m_read m_length m_top m_text m_rule x1 x2 m_at m_wrong m_acts := by
  have l0 : Int32.toInt (1 : Int32) = 1 := (by decide)
  have l1 : Int32.toInt (109 : Int32) = 109 := (by decide)
  intro v13 ev13
  have f14 : Int32.toInt (m_at + 1) = Int32.toInt m_at + Int32.toInt (1 : Int32) := ta_add _ _ (by omega)
  rw [← ev13] at f14
  refine And.intro (t_in (by omega)) ?_
  have a15 : ∀ k : Nat, -1 ≤ Int32.toInt ((upd m_acts x1.toNatClampNeg x2) k) ∧ Int32.toInt ((upd m_acts x1.toNatClampNeg x2) k) ≤ 255 := t_upd (fun k => by have q9 := h_m_acts k; omega) (by omega)
  refine And.intro (fun c16 => ?_) (fun c16 => ?_)
  · skip
    have c16 := mt (fa_eq _ _).mpr c16
    exact ts_X10_readAct_97 m_read m_length m_top m_text m_rule h_m_read h_m_length h_m_top h_m_text h_m_rule hpost x1 x2 v13 m_wrong (upd m_acts x1.toNatClampNeg x2) (by omega) (by omega) (by omega) (by omega) (fun k => by have q9 := a15 k; omega) (by omega) (by omega)
  · skip
    have c16 := (fa_eq _ _).mp c16
    intro v17 ev17
    have f18 : Int32.toInt (x1 + 1) = Int32.toInt x1 + Int32.toInt (1 : Int32) := ta_add _ _ (by omega)
    rw [← ev17] at f18
    refine t_X10_number (by omega) (by first | exact h_m_read | exact Or.inl rfl | exact Or.inr rfl | omega) (by omega) (by omega) (by omega) (by omega) (fun k => by have q9 := h_m_text k; omega) (fun k => by have q9 := h_m_rule k; omega) (by omega) (fun r21 m_at_19 m_wrong_20 h_r21 h_m_at_19 h_m_wrong_20 ox22 ox23 ox24 ox25 => ?_)
    refine And.intro (t_in (by omega)) ?_
    have a26 : ∀ k : Nat, -1 ≤ Int32.toInt ((upd (upd m_acts x1.toNatClampNeg x2) v17.toNatClampNeg r21) k) ∧ Int32.toInt ((upd (upd m_acts x1.toNatClampNeg x2) v17.toNatClampNeg r21) k) ≤ 255 := t_upd (fun k => by have q9 := a15 k; omega) (by omega)
    exact ts_X10_readAct_97 m_read m_length m_top m_text m_rule h_m_read h_m_length h_m_top h_m_text h_m_rule hpost x1 x2 m_at_19 m_wrong_20 (upd (upd m_acts x1.toNatClampNeg x2) v17.toNatClampNeg r21) (by omega) (by omega) (by omega) (by omega) (fun k => by have q9 := a26 k; omega) (by omega) (by omega)
set_option maxHeartbeats 8000000 in
set_option maxRecDepth 200000 in
theorem t_X10_readAct {post : Int32 → Int32 → (Nat → Int32) → Prop} {p0 : Int32} {m_read : Nat} {m_length : Int32} {m_top : Int32} {m_at : Int32} {m_wrong : Int32} {m_text : Nat → Int32} {m_rule : Nat → Int32} {m_acts : Nat → Int32} (h_p0 : 0 ≤ Int32.toInt p0 ∧ Int32.toInt p0 ≤ 125) (h_m_read : m_read = 1) (h_m_length : 0 ≤ Int32.toInt m_length ∧ Int32.toInt m_length ≤ 80) (h_m_top : 60 ≤ Int32.toInt m_top ∧ Int32.toInt m_top ≤ 60) (h_m_at : 0 ≤ Int32.toInt m_at ∧ Int32.toInt m_at ≤ 80) (h_m_wrong : -1 ≤ Int32.toInt m_wrong ∧ Int32.toInt m_wrong ≤ -1) (h_m_text : ∀ k : Nat, -128 ≤ Int32.toInt (m_text k) ∧ Int32.toInt (m_text k) ≤ 127) (h_m_rule : ∀ k : Nat, -128 ≤ Int32.toInt (m_rule k) ∧ Int32.toInt (m_rule k) ≤ 127) (h_m_acts : ∀ k : Nat, -1 ≤ Int32.toInt (m_acts k) ∧ Int32.toInt (m_acts k) ≤ 255) (hx0 : Int32.toInt m_at ≤ 60) (hpost : ∀ (m_at' : Int32) (m_wrong' : Int32) (m_acts' : Nat → Int32), (0 ≤ Int32.toInt m_at' ∧ Int32.toInt m_at' ≤ 80) → (-1 ≤ Int32.toInt m_wrong' ∧ Int32.toInt m_wrong' ≤ 80) → (∀ k : Nat, -1 ≤ Int32.toInt (m_acts' k) ∧ Int32.toInt (m_acts' k) ≤ 255) → (Int32.toInt m_at + 1 ≤ Int32.toInt m_at') → (Int32.toInt m_at' ≤ 61) → post m_at' m_wrong' m_acts') : wp_X10_readAct post p0 m_read m_length m_top m_at m_wrong m_text m_rule m_acts := by
  have l0 : Int32.toInt ((-1) : Int32) = -1 := (by decide)
  have l1 : Int32.toInt (100 : Int32) = 100 := (by decide)
  have l2 : Int32.toInt (104 : Int32) = 104 := (by decide)
  have l3 : Int32.toInt (107 : Int32) = 107 := (by decide)
  have l4 : Int32.toInt (109 : Int32) = 109 := (by decide)
  have l5 : Int32.toInt (111 : Int32) = 111 := (by decide)
  have l6 : Int32.toInt (112 : Int32) = 112 := (by decide)
  have l7 : Int32.toInt (122 : Int32) = 122 := (by decide)
  have l8 : Int32.toInt (97 : Int32) = 97 := (by decide)
  refine t_X10_here (by first | exact h_m_read | exact Or.inl rfl | exact Or.inr rfl | omega) (by omega) (by omega) (by omega) (fun k => by have q9 := h_m_text k; omega) (fun k => by have q9 := h_m_rule k; omega) (by omega) (fun r27 h_r27 ox28 ox29 => ?_)
  refine And.intro (fun c30 => ?_) (fun c30 => ?_)
  · skip
    have c30 := (fa_eq _ _).mp c30
    exact ts_X10_readAct_61 m_read m_length m_top m_text m_rule h_m_read h_m_length h_m_top h_m_text h_m_rule hpost p0 r27 m_at m_wrong m_acts (by omega) (by omega) (by omega) (by omega) (fun k => by have q9 := h_m_acts k; omega) (by omega) (by omega)
  · skip
    have c30 := mt (fa_eq _ _).mpr c30
    refine And.intro (fun c31 => ?_) (fun c31 => ?_)
    · skip
      have c31 := (fa_eq _ _).mp c31
      exact ts_X10_readAct_61 m_read m_length m_top m_text m_rule h_m_read h_m_length h_m_top h_m_text h_m_rule hpost p0 r27 m_at m_wrong m_acts (by omega) (by omega) (by omega) (by omega) (fun k => by have q9 := h_m_acts k; omega) (by omega) (by omega)
    · skip
      have c31 := mt (fa_eq _ _).mpr c31
      refine And.intro (fun c32 => ?_) (fun c32 => ?_)
      · skip
        have c32 := (fa_eq _ _).mp c32
        exact ts_X10_readAct_61 m_read m_length m_top m_text m_rule h_m_read h_m_length h_m_top h_m_text h_m_rule hpost p0 r27 m_at m_wrong m_acts (by omega) (by omega) (by omega) (by omega) (fun k => by have q9 := h_m_acts k; omega) (by omega) (by omega)
      · skip
        have c32 := mt (fa_eq _ _).mpr c32
        refine And.intro (fun c33 => ?_) (fun c33 => ?_)
        · skip
          have c33 := (fa_eq _ _).mp c33
          exact ts_X10_readAct_61 m_read m_length m_top m_text m_rule h_m_read h_m_length h_m_top h_m_text h_m_rule hpost p0 r27 m_at m_wrong m_acts (by omega) (by omega) (by omega) (by omega) (fun k => by have q9 := h_m_acts k; omega) (by omega) (by omega)
        · skip
          have c33 := mt (fa_eq _ _).mpr c33
          refine And.intro (fun c34 => ?_) (fun c34 => ?_)
          · skip
            have c34 := (fa_eq _ _).mp c34
            exact ts_X10_readAct_61 m_read m_length m_top m_text m_rule h_m_read h_m_length h_m_top h_m_text h_m_rule hpost p0 r27 m_at m_wrong m_acts (by omega) (by omega) (by omega) (by omega) (fun k => by have q9 := h_m_acts k; omega) (by omega) (by omega)
          · skip
            have c34 := mt (fa_eq _ _).mpr c34
            refine And.intro (fun c35 => ?_) (fun c35 => ?_)
            · skip
              have c35 := (fa_eq _ _).mp c35
              exact ts_X10_readAct_61 m_read m_length m_top m_text m_rule h_m_read h_m_length h_m_top h_m_text h_m_rule hpost p0 r27 m_at m_wrong m_acts (by omega) (by omega) (by omega) (by omega) (fun k => by have q9 := h_m_acts k; omega) (by omega) (by omega)
            · skip
              have c35 := mt (fa_eq _ _).mpr c35
              refine And.intro (fun c36 => ?_) (fun c36 => ?_)
              · skip
                have c36 := (fa_eq _ _).mp c36
                exact ts_X10_readAct_61 m_read m_length m_top m_text m_rule h_m_read h_m_length h_m_top h_m_text h_m_rule hpost p0 r27 m_at m_wrong m_acts (by omega) (by omega) (by omega) (by omega) (fun k => by have q9 := h_m_acts k; omega) (by omega) (by omega)
              · skip
                have c36 := mt (fa_eq _ _).mpr c36
                refine And.intro (fun c37 => ?_) (fun c37 => ?_)
                · skip
                  have c37 := (fa_eq _ _).mp c37
                  exact ts_X10_readAct_61 m_read m_length m_top m_text m_rule h_m_read h_m_length h_m_top h_m_text h_m_rule hpost p0 r27 m_at m_wrong m_acts (by omega) (by omega) (by omega) (by omega) (fun k => by have q9 := h_m_acts k; omega) (by omega) (by omega)
                · skip
                  have c37 := mt (fa_eq _ _).mpr c37
                  refine And.intro (fun c38 => ?_) (fun c38 => ?_)
                  · skip
                    have c38 := mt (fa_eq _ _).mpr c38
                    exfalso; omega
                  · skip
                    have c38 := (fa_eq _ _).mp c38
                    refine And.intro (fun h9 => absurd h9 (by decide)) (fun _ => ?_)
                    exact ts_X10_readAct_61 m_read m_length m_top m_text m_rule h_m_read h_m_length h_m_top h_m_text h_m_rule hpost p0 r27 m_at m_at m_acts (by omega) (by omega) (by omega) (by omega) (fun k => by have q9 := h_m_acts k; omega) (by omega) (by omega)
set_option maxHeartbeats 8000000 in
set_option maxRecDepth 200000 in
theorem ts_X10_lay_b2_2 {post : (Nat → Int32) → Prop} {SB : Int} {next : Int32 → Int32 → (Nat → Int32) → Prop} {n2 : Int} (m_now : Nat → Int32) (e0_m_now : ∀ k : Nat, k = 17 → -1 ≤ Int32.toInt (m_now k) ∧ Int32.toInt (m_now k) ≤ SB) (e1_m_now : ∀ k : Nat, k = 19 → 0 ≤ Int32.toInt (m_now k) ∧ Int32.toInt (m_now k) ≤ 9) (hc0 : -1 ≤ SB ∧ SB ≤ 7) (hpost : ∀ (m_aside' : Nat → Int32), (∀ k : Nat, k = 17 → -1 ≤ Int32.toInt (m_aside' k) ∧ Int32.toInt (m_aside' k) ≤ SB) → (∀ k : Nat, k = 19 → 0 ≤ Int32.toInt (m_aside' k) ∧ Int32.toInt (m_aside' k) ≤ 9) → post m_aside') (hKn : ∀ (x2 : Int32) (x3 : Int32) (m_aside : Nat → Int32), (0 ≤ Int32.toInt x2 ∧ Int32.toInt x2 ≤ 0) → (0 ≤ Int32.toInt x3 ∧ Int32.toInt x3 ≤ 21) → (∀ k : Nat, k = 17 → -1 ≤ Int32.toInt (m_aside k) ∧ Int32.toInt (m_aside k) ≤ SB) → (∀ k : Nat, k = 19 → 0 ≤ Int32.toInt (m_aside k) ∧ Int32.toInt (m_aside k) ≤ 9) → (Int32.toInt x2 % 21 = 0) → (21 - Int32.toInt x3 < n2) → next x2 x3 m_aside) (x2 : Int32) (x3 : Int32) (m_aside : Nat → Int32) (h_x2 : 0 ≤ Int32.toInt x2 ∧ Int32.toInt x2 ≤ 0) (h_x3 : 0 ≤ Int32.toInt x3 ∧ Int32.toInt x3 ≤ 21) (e0_m_aside : ∀ k : Nat, k = 17 → -1 ≤ Int32.toInt (m_aside k) ∧ Int32.toInt (m_aside k) ≤ SB) (e1_m_aside : ∀ k : Nat, k = 19 → 0 ≤ Int32.toInt (m_aside k) ∧ Int32.toInt (m_aside k) ≤ 9) (hx0 : Int32.toInt x2 % 21 = 0) (hn2 : 21 - Int32.toInt x3 ≤ n2) : ws_X10_lay_b2_2 post next m_now x2 x3 m_aside := by
  have l0 : Int32.toInt (1 : Int32) = 1 := (by decide)
  have l1 : Int32.toInt (21 : Int32) = 21 := (by decide)
  refine And.intro (fun c1 => ?_) (fun c1 => ?_)
  · skip
    have c1 := (fa_le _ _).mp c1
    exact hpost _ e0_m_aside e1_m_aside
  · skip
    have c1 := mt (fa_le _ _).mpr c1
    intro v2 ev2
    have f3 : Int32.toInt (x2 + x3) = Int32.toInt x2 + Int32.toInt x3 := ta_add _ _ (by omega)
    rw [← ev2] at f3
    refine And.intro (t_in (by omega)) ?_
    have q4 := e0_m_now x3.toNatClampNeg
    have q5 := e1_m_now x3.toNatClampNeg
    have q6 : x3.toNatClampNeg = (Int32.toInt x3).toNat := rfl
    intro v7 ev7
    have hv7 := congrArg Int32.toInt ev7
    refine And.intro (t_in (by omega)) ?_
    have f10 := tp_r v7
    have e9 : ∀ k : Nat, k = 17 → -1 ≤ Int32.toInt ((upd m_aside v2.toNatClampNeg v7) k) ∧ Int32.toInt ((upd m_aside v2.toNatClampNeg v7) k) ≤ SB := t_updc (C := fun k => k = 17) e0_m_aside (fun hk => by have e9 : v2.toNatClampNeg = (Int32.toInt v2).toNat := rfl; have hk : v2.toNatClampNeg = 17 := hk; omega)
    have e11 : ∀ k : Nat, k = 19 → 0 ≤ Int32.toInt ((upd m_aside v2.toNatClampNeg v7) k) ∧ Int32.toInt ((upd m_aside v2.toNatClampNeg v7) k) ≤ 9 := t_updc (C := fun k => k = 19) e1_m_aside (fun hk => by have e9 : v2.toNatClampNeg = (Int32.toInt v2).toNat := rfl; have hk : v2.toNatClampNeg = 19 := hk; omega)
    intro v12 ev12
    have f13 : Int32.toInt (x3 + 1) = Int32.toInt x3 + Int32.toInt (1 : Int32) := ta_add _ _ (by omega)
    rw [← ev12] at f13
    exact hKn x2 v12 (upd m_aside v2.toNatClampNeg v7) (by omega) (by omega) e9 e11 (by omega) (by omega)
set_option maxHeartbeats 8000000 in
set_option maxRecDepth 200000 in
theorem tb_X10_lay_b2_2 {post : (Nat → Int32) → Prop} {SB : Int} (m_now : Nat → Int32) (e0_m_now : ∀ k : Nat, k = 17 → -1 ≤ Int32.toInt (m_now k) ∧ Int32.toInt (m_now k) ≤ SB) (e1_m_now : ∀ k : Nat, k = 19 → 0 ≤ Int32.toInt (m_now k) ∧ Int32.toInt (m_now k) ≤ 9) (hc0 : -1 ≤ SB ∧ SB ≤ 7) (hpost : ∀ (m_aside' : Nat → Int32), (∀ k : Nat, k = 17 → -1 ≤ Int32.toInt (m_aside' k) ∧ Int32.toInt (m_aside' k) ≤ SB) → (∀ k : Nat, k = 19 → 0 ≤ Int32.toInt (m_aside' k) ∧ Int32.toInt (m_aside' k) ≤ 9) → post m_aside') : ∀ (n : Nat) (x2 : Int32) (x3 : Int32) (m_aside : Nat → Int32), (0 ≤ Int32.toInt x2 ∧ Int32.toInt x2 ≤ 0) → (0 ≤ Int32.toInt x3 ∧ Int32.toInt x3 ≤ 21) → (∀ k : Nat, k = 17 → -1 ≤ Int32.toInt (m_aside k) ∧ Int32.toInt (m_aside k) ≤ SB) → (∀ k : Nat, k = 19 → 0 ≤ Int32.toInt (m_aside k) ∧ Int32.toInt (m_aside k) ≤ 9) → (Int32.toInt x2 % 21 = 0) → (21 - Int32.toInt x3 < (n : Int)) → wb_X10_lay_b2_2 post m_now n x2 x3 m_aside := by
  intro n
  induction n with
  | zero =>
    intro x2 x3 m_aside h_x2 h_x3 e0_m_aside e1_m_aside hx0 hm
    exfalso; omega
  | succ n ih =>
    intro x2 x3 m_aside h_x2 h_x3 e0_m_aside e1_m_aside hx0 hm
    exact ts_X10_lay_b2_2 m_now e0_m_now e1_m_now hc0 hpost ih x2 x3 m_aside h_x2 h_x3 e0_m_aside e1_m_aside hx0 (by omega)
set_option maxHeartbeats 8000000 in
set_option maxRecDepth 200000 in
theorem t_X10_lay_b2 {post : (Nat → Int32) → Prop} {SB : Int} {p2 : Int32} {m_now : Nat → Int32} {m_aside : Nat → Int32} (h_p2 : 0 ≤ Int32.toInt p2 ∧ Int32.toInt p2 ≤ 0) (e0_m_now : ∀ k : Nat, k = 17 → -1 ≤ Int32.toInt (m_now k) ∧ Int32.toInt (m_now k) ≤ SB) (e1_m_now : ∀ k : Nat, k = 19 → 0 ≤ Int32.toInt (m_now k) ∧ Int32.toInt (m_now k) ≤ 9) (e0_m_aside : ∀ k : Nat, k = 17 → -1 ≤ Int32.toInt (m_aside k) ∧ Int32.toInt (m_aside k) ≤ SB) (e1_m_aside : ∀ k : Nat, k = 19 → 0 ≤ Int32.toInt (m_aside k) ∧ Int32.toInt (m_aside k) ≤ 9) (hc0 : -1 ≤ SB ∧ SB ≤ 7) (hx0 : Int32.toInt p2 % 21 = 0) (hpost : ∀ (m_aside' : Nat → Int32), (∀ k : Nat, k = 17 → -1 ≤ Int32.toInt (m_aside' k) ∧ Int32.toInt (m_aside' k) ≤ SB) → (∀ k : Nat, k = 19 → 0 ≤ Int32.toInt (m_aside' k) ∧ Int32.toInt (m_aside' k) ≤ 9) → post m_aside') : wp_X10_lay_b2 post p2 m_now m_aside := by
  have l0 : Int32.toInt (0 : Int32) = 0 := (by decide)
  exact ⟨23, tb_X10_lay_b2_2 m_now e0_m_now e1_m_now hc0 hpost _ p2 0 m_aside (by omega) (by omega) e0_m_aside e1_m_aside (by omega) (by omega)⟩
set_option maxHeartbeats 8000000 in
set_option maxRecDepth 200000 in
theorem ts_X10_act_109 {post : Int32 → Nat → Int32 → Int32 → Int32 → Int32 → Int32 → Int32 → Int32 → Int32 → Int32 → Int32 → (Nat → Int32) → Prop} {SB : Int} (m_fruits : Int32) (m_standings : Int32) (m_ruleSize : Int32) (m_x : Nat → Int32) (m_height : Nat → Int32) (m_worth : Nat → Int32) (m_ripe : Nat → Int32) (m_foot : Nat → Int32) (m_fork : Nat → Int32) (m_told : Nat → Int32) (m_text : Nat → Int32) (m_rule : Nat → Int32) (h_m_fruits : 0 ≤ Int32.toInt m_fruits ∧ Int32.toInt m_fruits ≤ 16) (h_m_standings : 0 ≤ Int32.toInt m_standings ∧ Int32.toInt m_standings ≤ 8) (h_m_ruleSize : 0 ≤ Int32.toInt m_ruleSize ∧ Int32.toInt m_ruleSize ≤ 40) (h_m_x : ∀ k : Nat, 0 ≤ Int32.toInt (m_x k) ∧ Int32.toInt (m_x k) ≤ 99) (h_m_height : ∀ k : Nat, 0 ≤ Int32.toInt (m_height k) ∧ Int32.toInt (m_height k) ≤ 99) (h_m_worth : ∀ k : Nat, 0 ≤ Int32.toInt (m_worth k) ∧ Int32.toInt (m_worth k) ≤ 9) (h_m_ripe : ∀ k : Nat, 0 ≤ Int32.toInt (m_ripe k) ∧ Int32.toInt (m_ripe k) ≤ 9) (h_m_foot : ∀ k : Nat, 0 ≤ Int32.toInt (m_foot k) ∧ Int32.toInt (m_foot k) ≤ 99) (h_m_fork : ∀ k : Nat, 0 ≤ Int32.toInt (m_fork k) ∧ Int32.toInt (m_fork k) ≤ 99) (e0_m_told : ∀ k : Nat, k = 4 → 1 ≤ Int32.toInt (m_told k) ∧ Int32.toInt (m_told k) ≤ 30) (e1_m_told : ∀ k : Nat, k = 3 → 0 ≤ Int32.toInt (m_told k) ∧ Int32.toInt (m_told k) ≤ 9) (h_m_text : ∀ k : Nat, -128 ≤ Int32.toInt (m_text k) ∧ Int32.toInt (m_text k) ≤ 127) (h_m_rule : ∀ k : Nat, -128 ≤ Int32.toInt (m_rule k) ∧ Int32.toInt (m_rule k) ≤ 127) (hc0 : -1 ≤ SB ∧ SB ≤ 7) (hc1 : (Int32.toInt m_standings ≤ 0 ∧ SB = 0) ∨ (1 ≤ Int32.toInt m_standings ∧ SB = Int32.toInt m_standings - 1)) (hpost : ∀ (r : Int32) (m_read' : Nat) (m_length' : Int32) (m_top' : Int32) (m_at' : Int32) (m_wrong' : Int32) (m_isAsked' : Int32) (m_askedFruit' : Int32) (m_askedStanding' : Int32) (m_askedHook' : Int32) (m_askedApron' : Int32) (m_picked' : Int32) (m_now' : Nat → Int32), (0 ≤ Int32.toInt r ∧ Int32.toInt r ≤ 1) → (m_read' = 0 ∨ m_read' = 1 ∨ m_read' = 2) → (0 ≤ Int32.toInt m_length' ∧ Int32.toInt m_length' ≤ 80) → (0 ≤ Int32.toInt m_top' ∧ Int32.toInt m_top' ≤ 80) → (0 ≤ Int32.toInt m_at' ∧ Int32.toInt m_at' ≤ 80) → (-1 ≤ Int32.toInt m_wrong' ∧ Int32.toInt m_wrong' ≤ 80) → (0 ≤ Int32.toInt m_isAsked' ∧ Int32.toInt m_isAsked' ≤ 0) → (0 ≤ Int32.toInt m_askedFruit' ∧ Int32.toInt m_askedFruit' ≤ 15) → (0 ≤ Int32.toInt m_askedStanding' ∧ Int32.toInt m_askedStanding' ≤ 7) → (0 ≤ Int32.toInt m_askedHook' ∧ Int32.toInt m_askedHook' ≤ 1) → (0 ≤ Int32.toInt m_askedApron' ∧ Int32.toInt m_askedApron' ≤ 63) → (∀ k : Nat, k = 17 → -1 ≤ Int32.toInt (m_now' k) ∧ Int32.toInt (m_now' k) ≤ SB) → (∀ k : Nat, k = 19 → 0 ≤ Int32.toInt (m_now' k) ∧ Int32.toInt (m_now' k) ≤ 9) → post r m_read' m_length' m_top' m_at' m_wrong' m_isAsked' m_askedFruit' m_askedStanding' m_askedHook' m_askedApron' m_picked' m_now') (x2 : Int32) (k0 : Int32) (m_read : Nat) (m_length : Int32) (m_top : Int32) (m_at : Int32) (m_wrong : Int32) (m_isAsked : Int32) (m_askedFruit : Int32) (m_askedStanding : Int32) (m_askedHook : Int32) (m_askedApron : Int32) (m_picked : Int32) (m_now : Nat → Int32) (h_x2 : -1 ≤ Int32.toInt x2 ∧ Int32.toInt x2 ≤ 255) (h_k0 : 0 ≤ Int32.toInt k0 ∧ Int32.toInt k0 ≤ 1) (h_m_read : m_read = 0 ∨ m_read = 1 ∨ m_read = 2) (h_m_length : 0 ≤ Int32.toInt m_length ∧ Int32.toInt m_length ≤ 80) (h_m_top : 0 ≤ Int32.toInt m_top ∧ Int32.toInt m_top ≤ 80) (h_m_at : 0 ≤ Int32.toInt m_at ∧ Int32.toInt m_at ≤ 80) (h_m_wrong : -1 ≤ Int32.toInt m_wrong ∧ Int32.toInt m_wrong ≤ 80) (h_m_isAsked : 0 ≤ Int32.toInt m_isAsked ∧ Int32.toInt m_isAsked ≤ 0) (h_m_askedFruit : 0 ≤ Int32.toInt m_askedFruit ∧ Int32.toInt m_askedFruit ≤ 15) (h_m_askedStanding : 0 ≤ Int32.toInt m_askedStanding ∧ Int32.toInt m_askedStanding ≤ 7) (h_m_askedHook : 0 ≤ Int32.toInt m_askedHook ∧ Int32.toInt m_askedHook ≤ 1) (h_m_askedApron : 0 ≤ Int32.toInt m_askedApron ∧ Int32.toInt m_askedApron ≤ 63) (e0_m_now : ∀ k : Nat, k = 17 → -1 ≤ Int32.toInt (m_now k) ∧ Int32.toInt (m_now k) ≤ SB) (e1_m_now : ∀ k : Nat, k = 19 → 0 ≤ Int32.toInt (m_now k) ∧ Int32.toInt (m_now k) ≤ 9) : ws_X10_act_109 post m_fruits m_standings m_ruleSize m_x m_height m_worth m_ripe m_foot m_fork m_told m_text m_rule x2 k0 m_read m_length m_top m_at m_wrong m_isAsked m_askedFruit m_askedStanding m_askedHook m_askedApron m_picked m_now := by
  have l0 : Int32.toInt ((-1) : Int32) = -1 := (by decide)
  have l1 : Int32.toInt (0 : Int32) = 0 := (by decide)
  have l2 : Int32.toInt (1 : Int32) = 1 := (by decide)
  have l3 : Int32.toInt (1431655765 : Int32) = 1431655765 := (by decide)
  have l4 : Int32.toInt (16 : Int32) = 16 := (by decide)
  have l5 : Int32.toInt (17 : Int32) = 17 := (by decide)
  have l6 : Int32.toInt (18 : Int32) = 18 := (by decide)
  have l7 : Int32.toInt (19 : Int32) = 19 := (by decide)
  have l8 : Int32.toInt (2 : Int32) = 2 := (by decide)
  have l9 : Int32.toInt (20 : Int32) = 20 := (by decide)
  have l10 : Int32.toInt (252645135 : Int32) = 252645135 := (by decide)
  have l11 : Int32.toInt (4 : Int32) = 4 := (by decide)
  have l12 : Int32.toInt (63 : Int32) = 63 := (by decide)
  have l13 : Int32.toInt (858993459 : Int32) = 858993459 := (by decide)
  have l14 : Int32.toInt (9999 : Int32) = 9999 := (by decide)
  intro v1 ev1
  have f2 : Int32.toInt (m_fruits - 1) = Int32.toInt m_fruits - Int32.toInt (1 : Int32) := ta_sub _ _ (by omega)
  rw [← ev1] at f2
  refine And.intro (fun c3 => ?_) (fun c3 => ?_)
  · skip
    have c3 := (fa_lt _ _).mp c3
    refine And.intro (t_bool (by omega)) ?_
    refine And.intro (fun _ => ?_) (fun h9 => absurd h9 (by decide))
    refine And.intro (fun h9 => absurd h9 (by decide)) (fun _ => ?_)
    exact hpost _ _ _ _ _ _ _ _ _ _ _ _ _ (by omega) (by first | exact h_m_read | exact Or.inl rfl | exact Or.inr rfl | omega) (by omega) (by omega) (by omega) (by omega) (by omega) (by omega) (by omega) (by omega) (by omega) e0_m_now e1_m_now
  · skip
    have c3 := mt (fa_lt _ _).mpr c3
    refine And.intro (fun c4 => ?_) (fun c4 => ?_)
    · skip
      have c4 := (fa_lt _ _).mp c4
      refine And.intro (t_bool (by omega)) ?_
      refine And.intro (fun _ => ?_) (fun h9 => absurd h9 (by decide))
      refine And.intro (fun h9 => absurd h9 (by decide)) (fun _ => ?_)
      exact hpost _ _ _ _ _ _ _ _ _ _ _ _ _ (by omega) (by first | exact h_m_read | exact Or.inl rfl | exact Or.inr rfl | omega) (by omega) (by omega) (by omega) (by omega) (by omega) (by omega) (by omega) (by omega) (by omega) e0_m_now e1_m_now
    · skip
      have c4 := mt (fa_lt _ _).mpr c4
      refine And.intro (t_bool (by omega)) ?_
      refine And.intro (fun h9 => absurd h9 (by decide)) (fun _ => ?_)
      refine And.intro (fun c5 => ?_) (fun c5 => ?_)
      · skip
        have c5 := (fa_lt _ _).mp c5
        exfalso; omega
      · skip
        have c5 := mt (fa_lt _ _).mpr c5
        refine And.intro (fun c6 => ?_) (fun c6 => ?_)
        · skip
          have c6 := (fa_lt _ _).mp c6
          exfalso; omega
        · skip
          have c6 := mt (fa_lt _ _).mpr c6
          refine And.intro (fun _ => ?_) (fun h9 => absurd h9 (by decide))
          refine And.intro (t_in (by omega)) ?_
          refine And.intro (fun c7 => ?_) (fun c7 => ?_)
          · skip
            have c7 := (fa_eq _ _).mp c7
            refine And.intro (t_in (by omega)) ?_
            intro v9 ev9
            have f10 := h_m_ripe x2.toNatClampNeg
            have hv9 := congrArg Int32.toInt ev9
            have q11 := e1_m_now (19 : Int32).toNatClampNeg (by have e9 : (19 : Int32).toNatClampNeg = (Int32.toInt (19 : Int32)).toNat := rfl; omega)
            refine And.intro (fun c12 => ?_) (fun c12 => ?_)
            · skip
              have c12 := (fa_le _ _).mp c12
              have q14 := e0_m_now (17 : Int32).toNatClampNeg (by have e9 : (17 : Int32).toNatClampNeg = (Int32.toInt (17 : Int32)).toNat := rfl; omega)
              intro v15 ev15
              have hv15 := congrArg Int32.toInt ev15
              refine And.intro (fun c17 => ?_) (fun c17 => ?_)
              · skip
                have c17 := (fa_eq _ _).mp c17
                refine And.intro (fun h9 => absurd h9 (by decide)) (fun _ => ?_)
                exact hpost _ _ _ _ _ _ _ _ _ _ _ _ _ (by omega) (by first | exact h_m_read | exact Or.inl rfl | exact Or.inr rfl | omega) (by omega) (by omega) (by omega) (by omega) (by omega) (by omega) (by omega) (by omega) (by omega) e0_m_now e1_m_now
              · skip
                have c17 := mt (fa_eq _ _).mpr c17
                have q18 := e0_m_now (17 : Int32).toNatClampNeg (by have e9 : (17 : Int32).toNatClampNeg = (Int32.toInt (17 : Int32)).toNat := rfl; omega)
                intro v19 ev19
                have hv19 := congrArg Int32.toInt ev19
                intro v20 ev20
                have hv20 := congrArg Int32.toInt ev20
                intro v22 ev22
                have hv22 := congrArg Int32.toInt ev22
                intro v24 ev24
                have hv24 := congrArg Int32.toInt ev24
                refine And.intro (t_in (by omega)) ?_
                intro v26 ev26
                have f27 := h_m_x x2.toNatClampNeg
                have hv26 := congrArg Int32.toInt ev26
                refine And.intro (t_in (by omega)) ?_
                intro v28 ev28
                have f30 := h_m_foot v19.toNatClampNeg
                have f29 : Int32.toInt (v26 - (m_foot v19.toNatClampNeg)) = Int32.toInt v26 - Int32.toInt (m_foot v19.toNatClampNeg) := ta_sub _ _ (by omega)
                rw [← ev28] at f29
                intro v31 ev31
                have f32 := ti_abs v28 (by omega)
                have hv31 := congrArg Int32.toInt ev31
                refine And.intro (t_in (by omega)) ?_
                intro v33 ev33
                have hv33 := congrArg Int32.toInt ev33
                refine And.intro (t_in (by omega)) ?_
                intro v34 ev34
                have f35 : Int32.toInt (v33 - (m_foot v19.toNatClampNeg)) = Int32.toInt v33 - Int32.toInt (m_foot v19.toNatClampNeg) := ta_sub _ _ (by omega)
                rw [← ev34] at f35
                intro v36 ev36
                have f37 := ti_abs v34 (by omega)
                have hv36 := congrArg Int32.toInt ev36
                intro v38 ev38
                have hv38 := congrArg Int32.toInt ev38
                refine And.intro (t_in (by omega)) ?_
                intro v40 ev40
                have f41 := h_m_height x2.toNatClampNeg
                have hv40 := congrArg Int32.toInt ev40
                refine And.intro (t_in (by omega)) ?_
                intro v42 ev42
                have f44 := h_m_fork v19.toNatClampNeg
                have f43 : Int32.toInt (v40 - (m_fork v19.toNatClampNeg)) = Int32.toInt v40 - Int32.toInt (m_fork v19.toNatClampNeg) := ta_sub _ _ (by omega)
                rw [← ev42] at f43
                intro v45 ev45
                have f46 := ti_max (0 : Int32) v42
                have hv45 := congrArg Int32.toInt ev45
                refine And.intro (t_in (by omega)) ?_
                intro v47 ev47
                have hv47 := congrArg Int32.toInt ev47
                refine And.intro (t_in (by omega)) ?_
                intro v48 ev48
                have f49 : Int32.toInt (v47 - (m_fork v19.toNatClampNeg)) = Int32.toInt v47 - Int32.toInt (m_fork v19.toNatClampNeg) := ta_sub _ _ (by omega)
                rw [← ev48] at f49
                intro v50 ev50
                have f51 := ti_max (0 : Int32) v48
                have hv50 := congrArg Int32.toInt ev50
                intro v52 ev52
                have hv52 := congrArg Int32.toInt ev52
                have f55 := tp_r v52
                refine And.intro (fun c54 => ?_) (fun c54 => ?_)
                · skip
                  have c54 := (fa_lt _ _).mp c54
                  refine And.intro (fun h9 => absurd h9 (by decide)) (fun _ => ?_)
                  refine And.intro (fun h9 => absurd h9 (by decide)) (fun _ => ?_)
                  exact hpost _ _ _ _ _ _ _ _ _ _ _ _ _ (by omega) (by first | exact h_m_read | exact Or.inl rfl | exact Or.inr rfl | omega) (by omega) (by omega) (by omega) (by omega) (by omega) (by omega) (by omega) (by omega) (by omega) e0_m_now e1_m_now
                · skip
                  have c54 := mt (fa_lt _ _).mpr c54
                  refine And.intro (fun _ => ?_) (fun h9 => absurd h9 (by decide))
                  refine t_X10_which (by omega) (by omega) e0_m_now e1_m_now (by omega) (fun r57 h_r57 ox58 => ?_)
                  intro v59 ev59
                  intro v60 ev60
                  have f62 := ti_andr v59 1431655765 (by omega)
                  have f61 : Int32.toInt (r57 - (v59 &&& 1431655765)) = Int32.toInt r57 - Int32.toInt (v59 &&& 1431655765) := ta_sub _ _ (by omega)
                  rw [← ev60] at f61
                  intro v63 ev63
                  have f64 := ti_andr v60 858993459 (by omega)
                  have hv63 := congrArg Int32.toInt ev63
                  intro v65 ev65
                  intro v66 ev66
                  have f68 := ti_andr v65 858993459 (by omega)
                  have f67 : Int32.toInt (v63 + (v65 &&& 858993459)) = Int32.toInt v63 + Int32.toInt (v65 &&& 858993459) := ta_add _ _ (by omega)
                  rw [← ev66] at f67
                  intro v69 ev69
                  have hv69 := congrArg Int32.toInt ev69
                  intro v71 ev71
                  have f72 := ti_andr v69 252645135 (by omega)
                  have hv71 := congrArg Int32.toInt ev71
                  intro v73 ev73
                  have hv73 := congrArg Int32.toInt ev73
                  intro v75 ev75
                  have hv75 := congrArg Int32.toInt ev75
                  have q77 := e0_m_told (4 : Int32).toNatClampNeg (by have e9 : (4 : Int32).toNatClampNeg = (Int32.toInt (4 : Int32)).toNat := rfl; omega)
                  have f79 := ti_andr v75 63 (by omega)
                  refine And.intro (fun c78 => ?_) (fun c78 => ?_)
                  · skip
                    have c78 := (fa_lt _ _).mp c78
                    refine And.intro (fun _ => ?_) (fun h9 => absurd h9 (by decide))
                    have q81 := e0_m_now (17 : Int32).toNatClampNeg (by have e9 : (17 : Int32).toNatClampNeg = (Int32.toInt (17 : Int32)).toNat := rfl; omega)
                    intro v82 ev82
                    have hv82 := congrArg Int32.toInt ev82
                    refine t_X10_which (by omega) (by omega) e0_m_now e1_m_now (by omega) (fun r83 h_r83 ox84 => ?_)
                    intro v85 ev85
                    intro v86 ev86
                    have f88 := ti_andr v85 1431655765 (by omega)
                    have f87 : Int32.toInt (r83 - (v85 &&& 1431655765)) = Int32.toInt r83 - Int32.toInt (v85 &&& 1431655765) := ta_sub _ _ (by omega)
                    rw [← ev86] at f87
                    intro v89 ev89
                    have f90 := ti_andr v86 858993459 (by omega)
                    have hv89 := congrArg Int32.toInt ev89
                    intro v91 ev91
                    intro v92 ev92
                    have f94 := ti_andr v91 858993459 (by omega)
                    have f93 : Int32.toInt (v89 + (v91 &&& 858993459)) = Int32.toInt v89 + Int32.toInt (v91 &&& 858993459) := ta_add _ _ (by omega)
                    rw [← ev92] at f93
                    intro v95 ev95
                    have hv95 := congrArg Int32.toInt ev95
                    intro v97 ev97
                    have f98 := ti_andr v95 252645135 (by omega)
                    have hv97 := congrArg Int32.toInt ev97
                    intro v99 ev99
                    have hv99 := congrArg Int32.toInt ev99
                    intro v101 ev101
                    have hv101 := congrArg Int32.toInt ev101
                    have f114 := ti_andr v101 63 (by omega)
                    refine t_X10_secondsOf (by omega) (by omega) (by omega) (by omega) (by first | exact h_m_read | exact Or.inl rfl | exact Or.inr rfl | omega) (by omega) (by omega) (by omega) (by omega) (by omega) (by omega) (by omega) (by omega) (by omega) (by omega) (fun k => by have q9 := h_m_x k; omega) (fun k => by have q9 := h_m_height k; omega) (fun k => by have q9 := h_m_worth k; omega) (fun k => by have q9 := h_m_foot k; omega) (fun k => by have q9 := h_m_fork k; omega) (fun k => by have q9 := h_m_text k; omega) (fun k => by have q9 := h_m_rule k; omega) (fun r113 m_read_103 m_length_104 m_top_105 m_at_106 m_wrong_107 m_isAsked_108 m_askedFruit_109 m_askedStanding_110 m_askedHook_111 m_askedApron_112 h_r113 h_m_read_103 h_m_length_104 h_m_top_105 h_m_at_106 h_m_wrong_107 h_m_isAsked_108 h_m_askedFruit_109 h_m_askedStanding_110 h_m_askedHook_111 h_m_askedApron_112 => ?_)
                    intro v115 ev115
                    have hv115 := congrArg Int32.toInt ev115
                    refine t_X10_which (by omega) (by omega) e0_m_now e1_m_now (by omega) (fun r117 h_r117 ox118 => ?_)
                    refine t_X10_below (by omega) (by omega) (by omega) (fun k => by have q9 := h_m_x k; omega) (fun k => by have q9 := h_m_height k; omega) (fun r119 h_r119 => ?_)
                    intro v120 ev120
                    have f122 := tp_r v120
                    have e121 : ∀ k : Nat, k = 17 → -1 ≤ Int32.toInt ((upd m_now (16 : Int32).toNatClampNeg v120) k) ∧ Int32.toInt ((upd m_now (16 : Int32).toNatClampNeg v120) k) ≤ SB := t_updc (C := fun k => k = 17) e0_m_now (fun hk => by have e9 : (16 : Int32).toNatClampNeg = (Int32.toInt (16 : Int32)).toNat := rfl; have hk : (16 : Int32).toNatClampNeg = 17 := hk; omega)
                    have e123 : ∀ k : Nat, k = 19 → 0 ≤ Int32.toInt ((upd m_now (16 : Int32).toNatClampNeg v120) k) ∧ Int32.toInt ((upd m_now (16 : Int32).toNatClampNeg v120) k) ≤ 9 := t_updc (C := fun k => k = 19) e1_m_now (fun hk => by have e9 : (16 : Int32).toNatClampNeg = (Int32.toInt (16 : Int32)).toNat := rfl; have hk : (16 : Int32).toNatClampNeg = 19 := hk; omega)
                    refine And.intro (t_in (by omega)) ?_
                    have e124 : ∀ k : Nat, k = 17 → -1 ≤ Int32.toInt ((upd (upd m_now (16 : Int32).toNatClampNeg v120) x2.toNatClampNeg 1) k) ∧ Int32.toInt ((upd (upd m_now (16 : Int32).toNatClampNeg v120) x2.toNatClampNeg 1) k) ≤ SB := t_updc (C := fun k => k = 17) e121 (fun hk => by have e9 : x2.toNatClampNeg = (Int32.toInt x2).toNat := rfl; have hk : x2.toNatClampNeg = 17 := hk; omega)
                    have e125 : ∀ k : Nat, k = 19 → 0 ≤ Int32.toInt ((upd (upd m_now (16 : Int32).toNatClampNeg v120) x2.toNatClampNeg 1) k) ∧ Int32.toInt ((upd (upd m_now (16 : Int32).toNatClampNeg v120) x2.toNatClampNeg 1) k) ≤ 9 := t_updc (C := fun k => k = 19) e123 (fun hk => by have e9 : x2.toNatClampNeg = (Int32.toInt x2).toNat := rfl; have hk : x2.toNatClampNeg = 19 := hk; omega)
                    intro v126 ev126
                    have hv126 := congrArg Int32.toInt ev126
                    intro v128 ev128
                    have hv128 := congrArg Int32.toInt ev128
                    intro v130 ev130
                    have f131 := tp_r (if v128 < 9999 then v128 else 9999)
                    have f133 := tp_r v128
                    have f132 := ti_min (9999 : Int32) v128
                    have hv130 := congrArg Int32.toInt ev130
                    have f135 := tp_r v130
                    have e134 : ∀ k : Nat, k = 17 → -1 ≤ Int32.toInt ((upd (upd (upd m_now (16 : Int32).toNatClampNeg v120) x2.toNatClampNeg 1) (20 : Int32).toNatClampNeg v130) k) ∧ Int32.toInt ((upd (upd (upd m_now (16 : Int32).toNatClampNeg v120) x2.toNatClampNeg 1) (20 : Int32).toNatClampNeg v130) k) ≤ SB := t_updc (C := fun k => k = 17) e124 (fun hk => by have e9 : (20 : Int32).toNatClampNeg = (Int32.toInt (20 : Int32)).toNat := rfl; have hk : (20 : Int32).toNatClampNeg = 17 := hk; omega)
                    have e136 : ∀ k : Nat, k = 19 → 0 ≤ Int32.toInt ((upd (upd (upd m_now (16 : Int32).toNatClampNeg v120) x2.toNatClampNeg 1) (20 : Int32).toNatClampNeg v130) k) ∧ Int32.toInt ((upd (upd (upd m_now (16 : Int32).toNatClampNeg v120) x2.toNatClampNeg 1) (20 : Int32).toNatClampNeg v130) k) ≤ 9 := t_updc (C := fun k => k = 19) e125 (fun hk => by have e9 : (20 : Int32).toNatClampNeg = (Int32.toInt (20 : Int32)).toNat := rfl; have hk : (20 : Int32).toNatClampNeg = 19 := hk; omega)
                    intro v137 ev137
                    have hv137 := congrArg Int32.toInt ev137
                    exact hpost _ _ _ _ _ _ _ _ _ _ _ _ _ (by omega) (by first | exact h_m_read | exact Or.inl rfl | exact Or.inr rfl | omega) (by omega) (by omega) (by omega) (by omega) (by omega) (by omega) (by omega) (by omega) (by omega) e134 e136
                  · skip
                    have c78 := mt (fa_lt _ _).mpr c78
                    refine And.intro (fun h9 => absurd h9 (by decide)) (fun _ => ?_)
                    exact hpost _ _ _ _ _ _ _ _ _ _ _ _ _ (by omega) (by first | exact h_m_read | exact Or.inl rfl | exact Or.inr rfl | omega) (by omega) (by omega) (by omega) (by omega) (by omega) (by omega) (by omega) (by omega) (by omega) e0_m_now e1_m_now
            · skip
              have c12 := mt (fa_le _ _).mpr c12
              refine And.intro (fun h9 => absurd h9 (by decide)) (fun _ => ?_)
              exact hpost _ _ _ _ _ _ _ _ _ _ _ _ _ (by omega) (by first | exact h_m_read | exact Or.inl rfl | exact Or.inr rfl | omega) (by omega) (by omega) (by omega) (by omega) (by omega) (by omega) (by omega) (by omega) (by omega) e0_m_now e1_m_now
          · skip
            have c7 := mt (fa_eq _ _).mpr c7
            refine And.intro (fun h9 => absurd h9 (by decide)) (fun _ => ?_)
            exact hpost _ _ _ _ _ _ _ _ _ _ _ _ _ (by omega) (by first | exact h_m_read | exact Or.inl rfl | exact Or.inr rfl | omega) (by omega) (by omega) (by omega) (by omega) (by omega) (by omega) (by omega) (by omega) (by omega) e0_m_now e1_m_now
set_option maxHeartbeats 8000000 in
set_option maxRecDepth 200000 in
theorem ts_X10_act_98 {post : Int32 → Nat → Int32 → Int32 → Int32 → Int32 → Int32 → Int32 → Int32 → Int32 → Int32 → Int32 → (Nat → Int32) → Prop} {SB : Int} (m_fruits : Int32) (m_standings : Int32) (m_ruleSize : Int32) (m_x : Nat → Int32) (m_height : Nat → Int32) (m_worth : Nat → Int32) (m_ripe : Nat → Int32) (m_foot : Nat → Int32) (m_fork : Nat → Int32) (m_told : Nat → Int32) (m_text : Nat → Int32) (m_rule : Nat → Int32) (h_m_fruits : 0 ≤ Int32.toInt m_fruits ∧ Int32.toInt m_fruits ≤ 16) (h_m_standings : 0 ≤ Int32.toInt m_standings ∧ Int32.toInt m_standings ≤ 8) (h_m_ruleSize : 0 ≤ Int32.toInt m_ruleSize ∧ Int32.toInt m_ruleSize ≤ 40) (h_m_x : ∀ k : Nat, 0 ≤ Int32.toInt (m_x k) ∧ Int32.toInt (m_x k) ≤ 99) (h_m_height : ∀ k : Nat, 0 ≤ Int32.toInt (m_height k) ∧ Int32.toInt (m_height k) ≤ 99) (h_m_worth : ∀ k : Nat, 0 ≤ Int32.toInt (m_worth k) ∧ Int32.toInt (m_worth k) ≤ 9) (h_m_ripe : ∀ k : Nat, 0 ≤ Int32.toInt (m_ripe k) ∧ Int32.toInt (m_ripe k) ≤ 9) (h_m_foot : ∀ k : Nat, 0 ≤ Int32.toInt (m_foot k) ∧ Int32.toInt (m_foot k) ≤ 99) (h_m_fork : ∀ k : Nat, 0 ≤ Int32.toInt (m_fork k) ∧ Int32.toInt (m_fork k) ≤ 99) (e0_m_told : ∀ k : Nat, k = 4 → 1 ≤ Int32.toInt (m_told k) ∧ Int32.toInt (m_told k) ≤ 30) (e1_m_told : ∀ k : Nat, k = 3 → 0 ≤ Int32.toInt (m_told k) ∧ Int32.toInt (m_told k) ≤ 9) (h_m_text : ∀ k : Nat, -128 ≤ Int32.toInt (m_text k) ∧ Int32.toInt (m_text k) ≤ 127) (h_m_rule : ∀ k : Nat, -128 ≤ Int32.toInt (m_rule k) ∧ Int32.toInt (m_rule k) ≤ 127) (hc0 : -1 ≤ SB ∧ SB ≤ 7) (hc1 : (Int32.toInt m_standings ≤ 0 ∧ SB = 0) ∨ (1 ≤ Int32.toInt m_standings ∧ SB = Int32.toInt m_standings - 1)) (hpost : ∀ (r : Int32) (m_read' : Nat) (m_length' : Int32) (m_top' : Int32) (m_at' : Int32) (m_wrong' : Int32) (m_isAsked' : Int32) (m_askedFruit' : Int32) (m_askedStanding' : Int32) (m_askedHook' : Int32) (m_askedApron' : Int32) (m_picked' : Int32) (m_now' : Nat → Int32), (0 ≤ Int32.toInt r ∧ Int32.toInt r ≤ 1) → (m_read' = 0 ∨ m_read' = 1 ∨ m_read' = 2) → (0 ≤ Int32.toInt m_length' ∧ Int32.toInt m_length' ≤ 80) → (0 ≤ Int32.toInt m_top' ∧ Int32.toInt m_top' ≤ 80) → (0 ≤ Int32.toInt m_at' ∧ Int32.toInt m_at' ≤ 80) → (-1 ≤ Int32.toInt m_wrong' ∧ Int32.toInt m_wrong' ≤ 80) → (0 ≤ Int32.toInt m_isAsked' ∧ Int32.toInt m_isAsked' ≤ 0) → (0 ≤ Int32.toInt m_askedFruit' ∧ Int32.toInt m_askedFruit' ≤ 15) → (0 ≤ Int32.toInt m_askedStanding' ∧ Int32.toInt m_askedStanding' ≤ 7) → (0 ≤ Int32.toInt m_askedHook' ∧ Int32.toInt m_askedHook' ≤ 1) → (0 ≤ Int32.toInt m_askedApron' ∧ Int32.toInt m_askedApron' ≤ 63) → (∀ k : Nat, k = 17 → -1 ≤ Int32.toInt (m_now' k) ∧ Int32.toInt (m_now' k) ≤ SB) → (∀ k : Nat, k = 19 → 0 ≤ Int32.toInt (m_now' k) ∧ Int32.toInt (m_now' k) ≤ 9) → post r m_read' m_length' m_top' m_at' m_wrong' m_isAsked' m_askedFruit' m_askedStanding' m_askedHook' m_askedApron' m_picked' m_now') (x1 : Int32) (x2 : Int32) (m_read : Nat) (m_length : Int32) (m_top : Int32) (m_at : Int32) (m_wrong : Int32) (m_isAsked : Int32) (m_askedFruit : Int32) (m_askedStanding : Int32) (m_askedHook : Int32) (m_askedApron : Int32) (m_picked : Int32) (m_now : Nat → Int32) (h_x1 : 104 ≤ Int32.toInt x1 ∧ Int32.toInt x1 ≤ 112) (h_x2 : -1 ≤ Int32.toInt x2 ∧ Int32.toInt x2 ≤ 255) (h_m_read : m_read = 0 ∨ m_read = 1 ∨ m_read = 2) (h_m_length : 0 ≤ Int32.toInt m_length ∧ Int32.toInt m_length ≤ 80) (h_m_top : 0 ≤ Int32.toInt m_top ∧ Int32.toInt m_top ≤ 80) (h_m_at : 0 ≤ Int32.toInt m_at ∧ Int32.toInt m_at ≤ 80) (h_m_wrong : -1 ≤ Int32.toInt m_wrong ∧ Int32.toInt m_wrong ≤ 80) (h_m_isAsked : 0 ≤ Int32.toInt m_isAsked ∧ Int32.toInt m_isAsked ≤ 0) (h_m_askedFruit : 0 ≤ Int32.toInt m_askedFruit ∧ Int32.toInt m_askedFruit ≤ 15) (h_m_askedStanding : 0 ≤ Int32.toInt m_askedStanding ∧ Int32.toInt m_askedStanding ≤ 7) (h_m_askedHook : 0 ≤ Int32.toInt m_askedHook ∧ Int32.toInt m_askedHook ≤ 1) (h_m_askedApron : 0 ≤ Int32.toInt m_askedApron ∧ Int32.toInt m_askedApron ≤ 63) (e0_m_now : ∀ k : Nat, k = 17 → -1 ≤ Int32.toInt (m_now k) ∧ Int32.toInt (m_now k) ≤ SB) (e1_m_now : ∀ k : Nat, k = 19 → 0 ≤ Int32.toInt (m_now k) ∧ Int32.toInt (m_now k) ≤ 9) : ws_X10_act_98 post m_fruits m_standings m_ruleSize m_x m_height m_worth m_ripe m_foot m_fork m_told m_text m_rule x1 x2 m_read m_length m_top m_at m_wrong m_isAsked m_askedFruit m_askedStanding m_askedHook m_askedApron m_picked m_now := by
  have l0 : Int32.toInt (0 : Int32) = 0 := (by decide)
  have l1 : Int32.toInt (1 : Int32) = 1 := (by decide)
  have l2 : Int32.toInt (104 : Int32) = 104 := (by decide)
  refine And.intro (fun c139 => ?_) (fun c139 => ?_)
  · skip
    have c139 := mt (fa_eq _ _).mpr c139
    have f140 := tp_r m_picked
    exact ts_X10_act_109 m_fruits m_standings m_ruleSize m_x m_height m_worth m_ripe m_foot m_fork m_told m_text m_rule h_m_fruits h_m_standings h_m_ruleSize h_m_x h_m_height h_m_worth h_m_ripe h_m_foot h_m_fork e0_m_told e1_m_told h_m_text h_m_rule hc0 hc1 hpost x2 0 m_read m_length m_top m_at m_wrong m_isAsked m_askedFruit m_askedStanding m_askedHook m_askedApron m_picked m_now (by omega) (by omega) (by first | exact h_m_read | exact Or.inl rfl | exact Or.inr rfl | omega) (by omega) (by omega) (by omega) (by omega) (by omega) (by omega) (by omega) (by omega) (by omega) e0_m_now e1_m_now
  · skip
    have c139 := (fa_eq _ _).mp c139
    have f141 := tp_r m_picked
    exact ts_X10_act_109 m_fruits m_standings m_ruleSize m_x m_height m_worth m_ripe m_foot m_fork m_told m_text m_rule h_m_fruits h_m_standings h_m_ruleSize h_m_x h_m_height h_m_worth h_m_ripe h_m_foot h_m_fork e0_m_told e1_m_told h_m_text h_m_rule hc0 hc1 hpost x2 1 m_read m_length m_top m_at m_wrong m_isAsked m_askedFruit m_askedStanding m_askedHook m_askedApron m_picked m_now (by omega) (by omega) (by first | exact h_m_read | exact Or.inl rfl | exact Or.inr rfl | omega) (by omega) (by omega) (by omega) (by omega) (by omega) (by omega) (by omega) (by omega) (by omega) e0_m_now e1_m_now
set_option maxHeartbeats 8000000 in
set_option maxRecDepth 200000 in
theorem ts_X10_act_193 {post : Int32 → Nat → Int32 → Int32 → Int32 → Int32 → Int32 → Int32 → Int32 → Int32 → Int32 → Int32 → (Nat → Int32) → Prop} {SB : Int} (m_fruits : Int32) (m_standings : Int32) (m_ruleSize : Int32) (m_x : Nat → Int32) (m_height : Nat → Int32) (m_worth : Nat → Int32) (m_ripe : Nat → Int32) (m_foot : Nat → Int32) (m_fork : Nat → Int32) (m_told : Nat → Int32) (m_text : Nat → Int32) (m_rule : Nat → Int32) (h_m_fruits : 0 ≤ Int32.toInt m_fruits ∧ Int32.toInt m_fruits ≤ 16) (h_m_standings : 0 ≤ Int32.toInt m_standings ∧ Int32.toInt m_standings ≤ 8) (h_m_ruleSize : 0 ≤ Int32.toInt m_ruleSize ∧ Int32.toInt m_ruleSize ≤ 40) (h_m_x : ∀ k : Nat, 0 ≤ Int32.toInt (m_x k) ∧ Int32.toInt (m_x k) ≤ 99) (h_m_height : ∀ k : Nat, 0 ≤ Int32.toInt (m_height k) ∧ Int32.toInt (m_height k) ≤ 99) (h_m_worth : ∀ k : Nat, 0 ≤ Int32.toInt (m_worth k) ∧ Int32.toInt (m_worth k) ≤ 9) (h_m_ripe : ∀ k : Nat, 0 ≤ Int32.toInt (m_ripe k) ∧ Int32.toInt (m_ripe k) ≤ 9) (h_m_foot : ∀ k : Nat, 0 ≤ Int32.toInt (m_foot k) ∧ Int32.toInt (m_foot k) ≤ 99) (h_m_fork : ∀ k : Nat, 0 ≤ Int32.toInt (m_fork k) ∧ Int32.toInt (m_fork k) ≤ 99) (e0_m_told : ∀ k : Nat, k = 4 → 1 ≤ Int32.toInt (m_told k) ∧ Int32.toInt (m_told k) ≤ 30) (e1_m_told : ∀ k : Nat, k = 3 → 0 ≤ Int32.toInt (m_told k) ∧ Int32.toInt (m_told k) ≤ 9) (h_m_text : ∀ k : Nat, -128 ≤ Int32.toInt (m_text k) ∧ Int32.toInt (m_text k) ≤ 127) (h_m_rule : ∀ k : Nat, -128 ≤ Int32.toInt (m_rule k) ∧ Int32.toInt (m_rule k) ≤ 127) (hc0 : -1 ≤ SB ∧ SB ≤ 7) (hc1 : (Int32.toInt m_standings ≤ 0 ∧ SB = 0) ∨ (1 ≤ Int32.toInt m_standings ∧ SB = Int32.toInt m_standings - 1)) (hpost : ∀ (r : Int32) (m_read' : Nat) (m_length' : Int32) (m_top' : Int32) (m_at' : Int32) (m_wrong' : Int32) (m_isAsked' : Int32) (m_askedFruit' : Int32) (m_askedStanding' : Int32) (m_askedHook' : Int32) (m_askedApron' : Int32) (m_picked' : Int32) (m_now' : Nat → Int32), (0 ≤ Int32.toInt r ∧ Int32.toInt r ≤ 1) → (m_read' = 0 ∨ m_read' = 1 ∨ m_read' = 2) → (0 ≤ Int32.toInt m_length' ∧ Int32.toInt m_length' ≤ 80) → (0 ≤ Int32.toInt m_top' ∧ Int32.toInt m_top' ≤ 80) → (0 ≤ Int32.toInt m_at' ∧ Int32.toInt m_at' ≤ 80) → (-1 ≤ Int32.toInt m_wrong' ∧ Int32.toInt m_wrong' ≤ 80) → (0 ≤ Int32.toInt m_isAsked' ∧ Int32.toInt m_isAsked' ≤ 0) → (0 ≤ Int32.toInt m_askedFruit' ∧ Int32.toInt m_askedFruit' ≤ 15) → (0 ≤ Int32.toInt m_askedStanding' ∧ Int32.toInt m_askedStanding' ≤ 7) → (0 ≤ Int32.toInt m_askedHook' ∧ Int32.toInt m_askedHook' ≤ 1) → (0 ≤ Int32.toInt m_askedApron' ∧ Int32.toInt m_askedApron' ≤ 63) → (∀ k : Nat, k = 17 → -1 ≤ Int32.toInt (m_now' k) ∧ Int32.toInt (m_now' k) ≤ SB) → (∀ k : Nat, k = 19 → 0 ≤ Int32.toInt (m_now' k) ∧ Int32.toInt (m_now' k) ≤ 9) → post r m_read' m_length' m_top' m_at' m_wrong' m_isAsked' m_askedFruit' m_askedStanding' m_askedHook' m_askedApron' m_picked' m_now') (k1 : Int32) (k2 : Int32) (m_read : Nat) (m_length : Int32) (m_top : Int32) (m_at : Int32) (m_wrong : Int32) (m_isAsked : Int32) (m_askedFruit : Int32) (m_askedStanding : Int32) (m_askedHook : Int32) (m_askedApron : Int32) (m_picked : Int32) (m_now : Nat → Int32) (h_k1 : 18 ≤ Int32.toInt k1 ∧ Int32.toInt k1 ≤ 18) (h_k2 : 0 ≤ Int32.toInt k2 ∧ Int32.toInt k2 ≤ 1) (h_m_read : m_read = 0 ∨ m_read = 1 ∨ m_read = 2) (h_m_length : 0 ≤ Int32.toInt m_length ∧ Int32.toInt m_length ≤ 80) (h_m_top : 0 ≤ Int32.toInt m_top ∧ Int32.toInt m_top ≤ 80) (h_m_at : 0 ≤ Int32.toInt m_at ∧ Int32.toInt m_at ≤ 80) (h_m_wrong : -1 ≤ Int32.toInt m_wrong ∧ Int32.toInt m_wrong ≤ 80) (h_m_isAsked : 0 ≤ Int32.toInt m_isAsked ∧ Int32.toInt m_isAsked ≤ 0) (h_m_askedFruit : 0 ≤ Int32.toInt m_askedFruit ∧ Int32.toInt m_askedFruit ≤ 15) (h_m_askedStanding : 0 ≤ Int32.toInt m_askedStanding ∧ Int32.toInt m_askedStanding ≤ 7) (h_m_askedHook : 0 ≤ Int32.toInt m_askedHook ∧ Int32.toInt m_askedHook ≤ 1) (h_m_askedApron : 0 ≤ Int32.toInt m_askedApron ∧ Int32.toInt m_askedApron ≤ 63) (e0_m_now : ∀ k : Nat, k = 17 → -1 ≤ Int32.toInt (m_now k) ∧ Int32.toInt (m_now k) ≤ SB) (e1_m_now : ∀ k : Nat, k = 19 → 0 ≤ Int32.toInt (m_now k) ∧ Int32.toInt (m_now k) ≤ 9) : ws_X10_act_193 post m_fruits m_standings m_ruleSize m_x m_height m_worth m_ripe m_foot m_fork m_told m_text m_rule k1 k2 m_read m_length m_top m_at m_wrong m_isAsked m_askedFruit m_askedStanding m_askedHook m_askedApron m_picked m_now := by
  have l0 : Int32.toInt (1 : Int32) = 1 := (by decide)
  refine And.intro (t_in (by omega)) ?_
  have e142 : ∀ k : Nat, k = 17 → -1 ≤ Int32.toInt ((upd m_now k1.toNatClampNeg k2) k) ∧ Int32.toInt ((upd m_now k1.toNatClampNeg k2) k) ≤ SB := t_updc (C := fun k => k = 17) e0_m_now (fun hk => by have e9 : k1.toNatClampNeg = (Int32.toInt k1).toNat := rfl; have hk : k1.toNatClampNeg = 17 := hk; omega)
  have e143 : ∀ k : Nat, k = 19 → 0 ≤ Int32.toInt ((upd m_now k1.toNatClampNeg k2) k) ∧ Int32.toInt ((upd m_now k1.toNatClampNeg k2) k) ≤ 9 := t_updc (C := fun k => k = 19) e1_m_now (fun hk => by have e9 : k1.toNatClampNeg = (Int32.toInt k1).toNat := rfl; have hk : k1.toNatClampNeg = 19 := hk; omega)
  exact hpost _ _ _ _ _ _ _ _ _ _ _ _ _ (by omega) (by first | exact h_m_read | exact Or.inl rfl | exact Or.inr rfl | omega) (by omega) (by omega) (by omega) (by omega) (by omega) (by omega) (by omega) (by omega) (by omega) e142 e143
set_option maxHeartbeats 8000000 in
set_option maxRecDepth 200000 in
theorem ts_X10_act_176 {post : Int32 → Nat → Int32 → Int32 → Int32 → Int32 → Int32 → Int32 → Int32 → Int32 → Int32 → Int32 → (Nat → Int32) → Prop} {SB : Int} (m_fruits : Int32) (m_standings : Int32) (m_ruleSize : Int32) (m_x : Nat → Int32) (m_height : Nat → Int32) (m_worth : Nat → Int32) (m_ripe : Nat → Int32) (m_foot : Nat → Int32) (m_fork : Nat → Int32) (m_told : Nat → Int32) (m_text : Nat → Int32) (m_rule : Nat → Int32) (h_m_fruits : 0 ≤ Int32.toInt m_fruits ∧ Int32.toInt m_fruits ≤ 16) (h_m_standings : 0 ≤ Int32.toInt m_standings ∧ Int32.toInt m_standings ≤ 8) (h_m_ruleSize : 0 ≤ Int32.toInt m_ruleSize ∧ Int32.toInt m_ruleSize ≤ 40) (h_m_x : ∀ k : Nat, 0 ≤ Int32.toInt (m_x k) ∧ Int32.toInt (m_x k) ≤ 99) (h_m_height : ∀ k : Nat, 0 ≤ Int32.toInt (m_height k) ∧ Int32.toInt (m_height k) ≤ 99) (h_m_worth : ∀ k : Nat, 0 ≤ Int32.toInt (m_worth k) ∧ Int32.toInt (m_worth k) ≤ 9) (h_m_ripe : ∀ k : Nat, 0 ≤ Int32.toInt (m_ripe k) ∧ Int32.toInt (m_ripe k) ≤ 9) (h_m_foot : ∀ k : Nat, 0 ≤ Int32.toInt (m_foot k) ∧ Int32.toInt (m_foot k) ≤ 99) (h_m_fork : ∀ k : Nat, 0 ≤ Int32.toInt (m_fork k) ∧ Int32.toInt (m_fork k) ≤ 99) (e0_m_told : ∀ k : Nat, k = 4 → 1 ≤ Int32.toInt (m_told k) ∧ Int32.toInt (m_told k) ≤ 30) (e1_m_told : ∀ k : Nat, k = 3 → 0 ≤ Int32.toInt (m_told k) ∧ Int32.toInt (m_told k) ≤ 9) (h_m_text : ∀ k : Nat, -128 ≤ Int32.toInt (m_text k) ∧ Int32.toInt (m_text k) ≤ 127) (h_m_rule : ∀ k : Nat, -128 ≤ Int32.toInt (m_rule k) ∧ Int32.toInt (m_rule k) ≤ 127) (hc0 : -1 ≤ SB ∧ SB ≤ 7) (hc1 : (Int32.toInt m_standings ≤ 0 ∧ SB = 0) ∨ (1 ≤ Int32.toInt m_standings ∧ SB = Int32.toInt m_standings - 1)) (hpost : ∀ (r : Int32) (m_read' : Nat) (m_length' : Int32) (m_top' : Int32) (m_at' : Int32) (m_wrong' : Int32) (m_isAsked' : Int32) (m_askedFruit' : Int32) (m_askedStanding' : Int32) (m_askedHook' : Int32) (m_askedApron' : Int32) (m_picked' : Int32) (m_now' : Nat → Int32), (0 ≤ Int32.toInt r ∧ Int32.toInt r ≤ 1) → (m_read' = 0 ∨ m_read' = 1 ∨ m_read' = 2) → (0 ≤ Int32.toInt m_length' ∧ Int32.toInt m_length' ≤ 80) → (0 ≤ Int32.toInt m_top' ∧ Int32.toInt m_top' ≤ 80) → (0 ≤ Int32.toInt m_at' ∧ Int32.toInt m_at' ≤ 80) → (-1 ≤ Int32.toInt m_wrong' ∧ Int32.toInt m_wrong' ≤ 80) → (0 ≤ Int32.toInt m_isAsked' ∧ Int32.toInt m_isAsked' ≤ 0) → (0 ≤ Int32.toInt m_askedFruit' ∧ Int32.toInt m_askedFruit' ≤ 15) → (0 ≤ Int32.toInt m_askedStanding' ∧ Int32.toInt m_askedStanding' ≤ 7) → (0 ≤ Int32.toInt m_askedHook' ∧ Int32.toInt m_askedHook' ≤ 1) → (0 ≤ Int32.toInt m_askedApron' ∧ Int32.toInt m_askedApron' ≤ 63) → (∀ k : Nat, k = 17 → -1 ≤ Int32.toInt (m_now' k) ∧ Int32.toInt (m_now' k) ≤ SB) → (∀ k : Nat, k = 19 → 0 ≤ Int32.toInt (m_now' k) ∧ Int32.toInt (m_now' k) ≤ 9) → post r m_read' m_length' m_top' m_at' m_wrong' m_isAsked' m_askedFruit' m_askedStanding' m_askedHook' m_askedApron' m_picked' m_now') (x1 : Int32) (m_read : Nat) (m_length : Int32) (m_top : Int32) (m_at : Int32) (m_wrong : Int32) (m_isAsked : Int32) (m_askedFruit : Int32) (m_askedStanding : Int32) (m_askedHook : Int32) (m_askedApron : Int32) (m_picked : Int32) (m_now : Nat → Int32) (h_x1 : 97 ≤ Int32.toInt x1 ∧ Int32.toInt x1 ≤ 111) (h_m_read : m_read = 0 ∨ m_read = 1 ∨ m_read = 2) (h_m_length : 0 ≤ Int32.toInt m_length ∧ Int32.toInt m_length ≤ 80) (h_m_top : 0 ≤ Int32.toInt m_top ∧ Int32.toInt m_top ≤ 80) (h_m_at : 0 ≤ Int32.toInt m_at ∧ Int32.toInt m_at ≤ 80) (h_m_wrong : -1 ≤ Int32.toInt m_wrong ∧ Int32.toInt m_wrong ≤ 80) (h_m_isAsked : 0 ≤ Int32.toInt m_isAsked ∧ Int32.toInt m_isAsked ≤ 0) (h_m_askedFruit : 0 ≤ Int32.toInt m_askedFruit ∧ Int32.toInt m_askedFruit ≤ 15) (h_m_askedStanding : 0 ≤ Int32.toInt m_askedStanding ∧ Int32.toInt m_askedStanding ≤ 7) (h_m_askedHook : 0 ≤ Int32.toInt m_askedHook ∧ Int32.toInt m_askedHook ≤ 1) (h_m_askedApron : 0 ≤ Int32.toInt m_askedApron ∧ Int32.toInt m_askedApron ≤ 63) (e0_m_now : ∀ k : Nat, k = 17 → -1 ≤ Int32.toInt (m_now k) ∧ Int32.toInt (m_now k) ≤ SB) (e1_m_now : ∀ k : Nat, k = 19 → 0 ≤ Int32.toInt (m_now k) ∧ Int32.toInt (m_now k) ≤ 9) : ws_X10_act_176 post m_fruits m_standings m_ruleSize m_x m_height m_worth m_ripe m_foot m_fork m_told m_text m_rule x1 m_read m_length m_top m_at m_wrong m_isAsked m_askedFruit m_askedStanding m_askedHook m_askedApron m_picked m_now := by
  have l0 : Int32.toInt (0 : Int32) = 0 := (by decide)
  have l1 : Int32.toInt (1 : Int32) = 1 := (by decide)
  have l2 : Int32.toInt (18 : Int32) = 18 := (by decide)
  have l3 : Int32.toInt (97 : Int32) = 97 := (by decide)
  refine And.intro (fun c144 => ?_) (fun c144 => ?_)
  · skip
    have c144 := mt (fa_eq _ _).mpr c144
    have f145 := tp_r m_picked
    exact ts_X10_act_193 m_fruits m_standings m_ruleSize m_x m_height m_worth m_ripe m_foot m_fork m_told m_text m_rule h_m_fruits h_m_standings h_m_ruleSize h_m_x h_m_height h_m_worth h_m_ripe h_m_foot h_m_fork e0_m_told e1_m_told h_m_text h_m_rule hc0 hc1 hpost 18 0 m_read m_length m_top m_at m_wrong m_isAsked m_askedFruit m_askedStanding m_askedHook m_askedApron m_picked m_now (by omega) (by omega) (by first | exact h_m_read | exact Or.inl rfl | exact Or.inr rfl | omega) (by omega) (by omega) (by omega) (by omega) (by omega) (by omega) (by omega) (by omega) (by omega) e0_m_now e1_m_now
  · skip
    have c144 := (fa_eq _ _).mp c144
    have f146 := tp_r m_picked
    exact ts_X10_act_193 m_fruits m_standings m_ruleSize m_x m_height m_worth m_ripe m_foot m_fork m_told m_text m_rule h_m_fruits h_m_standings h_m_ruleSize h_m_x h_m_height h_m_worth h_m_ripe h_m_foot h_m_fork e0_m_told e1_m_told h_m_text h_m_rule hc0 hc1 hpost 18 1 m_read m_length m_top m_at m_wrong m_isAsked m_askedFruit m_askedStanding m_askedHook m_askedApron m_picked m_now (by omega) (by omega) (by first | exact h_m_read | exact Or.inl rfl | exact Or.inr rfl | omega) (by omega) (by omega) (by omega) (by omega) (by omega) (by omega) (by omega) (by omega) (by omega) e0_m_now e1_m_now
set_option maxHeartbeats 8000000 in
set_option maxRecDepth 200000 in
theorem ts_X10_act_196 {post : Int32 → Nat → Int32 → Int32 → Int32 → Int32 → Int32 → Int32 → Int32 → Int32 → Int32 → Int32 → (Nat → Int32) → Prop} {SB : Int} (m_fruits : Int32) (m_standings : Int32) (m_ruleSize : Int32) (m_x : Nat → Int32) (m_height : Nat → Int32) (m_worth : Nat → Int32) (m_ripe : Nat → Int32) (m_foot : Nat → Int32) (m_fork : Nat → Int32) (m_told : Nat → Int32) (m_text : Nat → Int32) (m_rule : Nat → Int32) (h_m_fruits : 0 ≤ Int32.toInt m_fruits ∧ Int32.toInt m_fruits ≤ 16) (h_m_standings : 0 ≤ Int32.toInt m_standings ∧ Int32.toInt m_standings ≤ 8) (h_m_ruleSize : 0 ≤ Int32.toInt m_ruleSize ∧ Int32.toInt m_ruleSize ≤ 40) (h_m_x : ∀ k : Nat, 0 ≤ Int32.toInt (m_x k) ∧ Int32.toInt (m_x k) ≤ 99) (h_m_height : ∀ k : Nat, 0 ≤ Int32.toInt (m_height k) ∧ Int32.toInt (m_height k) ≤ 99) (h_m_worth : ∀ k : Nat, 0 ≤ Int32.toInt (m_worth k) ∧ Int32.toInt (m_worth k) ≤ 9) (h_m_ripe : ∀ k : Nat, 0 ≤ Int32.toInt (m_ripe k) ∧ Int32.toInt (m_ripe k) ≤ 9) (h_m_foot : ∀ k : Nat, 0 ≤ Int32.toInt (m_foot k) ∧ Int32.toInt (m_foot k) ≤ 99) (h_m_fork : ∀ k : Nat, 0 ≤ Int32.toInt (m_fork k) ∧ Int32.toInt (m_fork k) ≤ 99) (e0_m_told : ∀ k : Nat, k = 4 → 1 ≤ Int32.toInt (m_told k) ∧ Int32.toInt (m_told k) ≤ 30) (e1_m_told : ∀ k : Nat, k = 3 → 0 ≤ Int32.toInt (m_told k) ∧ Int32.toInt (m_told k) ≤ 9) (h_m_text : ∀ k : Nat, -128 ≤ Int32.toInt (m_text k) ∧ Int32.toInt (m_text k) ≤ 127) (h_m_rule : ∀ k : Nat, -128 ≤ Int32.toInt (m_rule k) ∧ Int32.toInt (m_rule k) ≤ 127) (hc0 : -1 ≤ SB ∧ SB ≤ 7) (hc1 : (Int32.toInt m_standings ≤ 0 ∧ SB = 0) ∨ (1 ≤ Int32.toInt m_standings ∧ SB = Int32.toInt m_standings - 1)) (hpost : ∀ (r : Int32) (m_read' : Nat) (m_length' : Int32) (m_top' : Int32) (m_at' : Int32) (m_wrong' : Int32) (m_isAsked' : Int32) (m_askedFruit' : Int32) (m_askedStanding' : Int32) (m_askedHook' : Int32) (m_askedApron' : Int32) (m_picked' : Int32) (m_now' : Nat → Int32), (0 ≤ Int32.toInt r ∧ Int32.toInt r ≤ 1) → (m_read' = 0 ∨ m_read' = 1 ∨ m_read' = 2) → (0 ≤ Int32.toInt m_length' ∧ Int32.toInt m_length' ≤ 80) → (0 ≤ Int32.toInt m_top' ∧ Int32.toInt m_top' ≤ 80) → (0 ≤ Int32.toInt m_at' ∧ Int32.toInt m_at' ≤ 80) → (-1 ≤ Int32.toInt m_wrong' ∧ Int32.toInt m_wrong' ≤ 80) → (0 ≤ Int32.toInt m_isAsked' ∧ Int32.toInt m_isAsked' ≤ 0) → (0 ≤ Int32.toInt m_askedFruit' ∧ Int32.toInt m_askedFruit' ≤ 15) → (0 ≤ Int32.toInt m_askedStanding' ∧ Int32.toInt m_askedStanding' ≤ 7) → (0 ≤ Int32.toInt m_askedHook' ∧ Int32.toInt m_askedHook' ≤ 1) → (0 ≤ Int32.toInt m_askedApron' ∧ Int32.toInt m_askedApron' ≤ 63) → (∀ k : Nat, k = 17 → -1 ≤ Int32.toInt (m_now' k) ∧ Int32.toInt (m_now' k) ≤ SB) → (∀ k : Nat, k = 19 → 0 ≤ Int32.toInt (m_now' k) ∧ Int32.toInt (m_now' k) ≤ 9) → post r m_read' m_length' m_top' m_at' m_wrong' m_isAsked' m_askedFruit' m_askedStanding' m_askedHook' m_askedApron' m_picked' m_now') (m_read : Nat) (m_length : Int32) (m_top : Int32) (m_at : Int32) (m_wrong : Int32) (m_isAsked : Int32) (m_askedFruit : Int32) (m_askedStanding : Int32) (m_askedHook : Int32) (m_askedApron : Int32) (m_picked : Int32) (m_now : Nat → Int32) (h_m_read : m_read = 0 ∨ m_read = 1 ∨ m_read = 2) (h_m_length : 0 ≤ Int32.toInt m_length ∧ Int32.toInt m_length ≤ 80) (h_m_top : 0 ≤ Int32.toInt m_top ∧ Int32.toInt m_top ≤ 80) (h_m_at : 0 ≤ Int32.toInt m_at ∧ Int32.toInt m_at ≤ 80) (h_m_wrong : -1 ≤ Int32.toInt m_wrong ∧ Int32.toInt m_wrong ≤ 80) (h_m_isAsked : 0 ≤ Int32.toInt m_isAsked ∧ Int32.toInt m_isAsked ≤ 0) (h_m_askedFruit : 0 ≤ Int32.toInt m_askedFruit ∧ Int32.toInt m_askedFruit ≤ 15) (h_m_askedStanding : 0 ≤ Int32.toInt m_askedStanding ∧ Int32.toInt m_askedStanding ≤ 7) (h_m_askedHook : 0 ≤ Int32.toInt m_askedHook ∧ Int32.toInt m_askedHook ≤ 1) (h_m_askedApron : 0 ≤ Int32.toInt m_askedApron ∧ Int32.toInt m_askedApron ≤ 63) (e0_m_now : ∀ k : Nat, k = 17 → -1 ≤ Int32.toInt (m_now k) ∧ Int32.toInt (m_now k) ≤ SB) (e1_m_now : ∀ k : Nat, k = 19 → 0 ≤ Int32.toInt (m_now k) ∧ Int32.toInt (m_now k) ≤ 9) : ws_X10_act_196 post m_fruits m_standings m_ruleSize m_x m_height m_worth m_ripe m_foot m_fork m_told m_text m_rule m_read m_length m_top m_at m_wrong m_isAsked m_askedFruit m_askedStanding m_askedHook m_askedApron m_picked m_now := by
  have l0 : Int32.toInt ((-1) : Int32) = -1 := (by decide)
  have l1 : Int32.toInt (0 : Int32) = 0 := (by decide)
  have l2 : Int32.toInt (1 : Int32) = 1 := (by decide)
  have l3 : Int32.toInt (17 : Int32) = 17 := (by decide)
  have l4 : Int32.toInt (19 : Int32) = 19 := (by decide)
  have l5 : Int32.toInt (20 : Int32) = 20 := (by decide)
  have l6 : Int32.toInt (9 : Int32) = 9 := (by decide)
  have q147 := e1_m_now (19 : Int32).toNatClampNeg (by have e9 : (19 : Int32).toNatClampNeg = (Int32.toInt (19 : Int32)).toNat := rfl; omega)
  intro v148 ev148
  have hv148 := congrArg Int32.toInt ev148
  refine And.intro (fun c150 => ?_) (fun c150 => ?_)
  · skip
    have c150 := mt (fa_eq _ _).mpr c150
    refine t_X10_empty (by omega) e0_m_now e1_m_now (by omega) (fun r152 m_now_151 e0_m_now_151 e1_m_now_151 ox153 => ?_)
    have e154 : ∀ k : Nat, k = 17 → -1 ≤ Int32.toInt ((upd m_now_151 (17 : Int32).toNatClampNeg (-1)) k) ∧ Int32.toInt ((upd m_now_151 (17 : Int32).toNatClampNeg (-1)) k) ≤ SB := t_updc (C := fun k => k = 17) e0_m_now_151 (fun hk => by have e9 : (17 : Int32).toNatClampNeg = (Int32.toInt (17 : Int32)).toNat := rfl; have hk : (17 : Int32).toNatClampNeg = 17 := hk; omega)
    have e155 : ∀ k : Nat, k = 19 → 0 ≤ Int32.toInt ((upd m_now_151 (17 : Int32).toNatClampNeg (-1)) k) ∧ Int32.toInt ((upd m_now_151 (17 : Int32).toNatClampNeg (-1)) k) ≤ 9 := t_updc (C := fun k => k = 19) e1_m_now_151 (fun hk => by have e9 : (17 : Int32).toNatClampNeg = (Int32.toInt (17 : Int32)).toNat := rfl; have hk : (17 : Int32).toNatClampNeg = 19 := hk; omega)
    have e156 : ∀ k : Nat, k = 17 → -1 ≤ Int32.toInt ((upd (upd m_now_151 (17 : Int32).toNatClampNeg (-1)) (20 : Int32).toNatClampNeg 0) k) ∧ Int32.toInt ((upd (upd m_now_151 (17 : Int32).toNatClampNeg (-1)) (20 : Int32).toNatClampNeg 0) k) ≤ SB := t_updc (C := fun k => k = 17) e154 (fun hk => by have e9 : (20 : Int32).toNatClampNeg = (Int32.toInt (20 : Int32)).toNat := rfl; have hk : (20 : Int32).toNatClampNeg = 17 := hk; omega)
    have e157 : ∀ k : Nat, k = 19 → 0 ≤ Int32.toInt ((upd (upd m_now_151 (17 : Int32).toNatClampNeg (-1)) (20 : Int32).toNatClampNeg 0) k) ∧ Int32.toInt ((upd (upd m_now_151 (17 : Int32).toNatClampNeg (-1)) (20 : Int32).toNatClampNeg 0) k) ≤ 9 := t_updc (C := fun k => k = 19) e155 (fun hk => by have e9 : (20 : Int32).toNatClampNeg = (Int32.toInt (20 : Int32)).toNat := rfl; have hk : (20 : Int32).toNatClampNeg = 19 := hk; omega)
    have q158 := e157 (19 : Int32).toNatClampNeg (by have e9 : (19 : Int32).toNatClampNeg = (Int32.toInt (19 : Int32)).toNat := rfl; omega)
    intro v159 ev159
    have hv159 := congrArg Int32.toInt ev159
    have j161 : Int32.toInt v159 = Int32.toInt (m_now (19 : Int32).toNatClampNeg) := by rw [ev159]; exact congrArg Int32.toInt (gs_19 (by assumption))
    intro v162 ev162
    have f163 : Int32.toInt (v159 + 1) = Int32.toInt v159 + Int32.toInt (1 : Int32) := ta_add _ _ (by omega)
    rw [← ev162] at f163
    have e164 : ∀ k : Nat, k = 17 → -1 ≤ Int32.toInt ((upd (upd (upd m_now_151 (17 : Int32).toNatClampNeg (-1)) (20 : Int32).toNatClampNeg 0) (19 : Int32).toNatClampNeg v162) k) ∧ Int32.toInt ((upd (upd (upd m_now_151 (17 : Int32).toNatClampNeg (-1)) (20 : Int32).toNatClampNeg 0) (19 : Int32).toNatClampNeg v162) k) ≤ SB := t_updc (C := fun k => k = 17) e156 (fun hk => by have e9 : (19 : Int32).toNatClampNeg = (Int32.toInt (19 : Int32)).toNat := rfl; have hk : (19 : Int32).toNatClampNeg = 17 := hk; omega)
    have e165 : ∀ k : Nat, k = 19 → 0 ≤ Int32.toInt ((upd (upd (upd m_now_151 (17 : Int32).toNatClampNeg (-1)) (20 : Int32).toNatClampNeg 0) (19 : Int32).toNatClampNeg v162) k) ∧ Int32.toInt ((upd (upd (upd m_now_151 (17 : Int32).toNatClampNeg (-1)) (20 : Int32).toNatClampNeg 0) (19 : Int32).toNatClampNeg v162) k) ≤ 9 := t_updc (C := fun k => k = 19) e157 (fun hk => by have e9 : (19 : Int32).toNatClampNeg = (Int32.toInt (19 : Int32)).toNat := rfl; have hk : (19 : Int32).toNatClampNeg = 19 := hk; omega)
    have q166 := e165 (19 : Int32).toNatClampNeg (by have e9 : (19 : Int32).toNatClampNeg = (Int32.toInt (19 : Int32)).toNat := rfl; omega)
    intro v167 ev167
    have hv167 := congrArg Int32.toInt ev167
    exact hpost _ _ _ _ _ _ _ _ _ _ _ _ _ (by omega) (by first | exact h_m_read | exact Or.inl rfl | exact Or.inr rfl | omega) (by omega) (by omega) (by omega) (by omega) (by omega) (by omega) (by omega) (by omega) (by omega) e164 e165
  · skip
    have c150 := (fa_eq _ _).mp c150
    exact hpost _ _ _ _ _ _ _ _ _ _ _ _ _ (by omega) (by first | exact h_m_read | exact Or.inl rfl | exact Or.inr rfl | omega) (by omega) (by omega) (by omega) (by omega) (by omega) (by omega) (by omega) (by omega) (by omega) e0_m_now e1_m_now
set_option maxHeartbeats 8000000 in
set_option maxRecDepth 200000 in
theorem t_X10_act {post : Int32 → Nat → Int32 → Int32 → Int32 → Int32 → Int32 → Int32 → Int32 → Int32 → Int32 → Int32 → (Nat → Int32) → Prop} {SB : Int} {p0 : Int32} {p1 : Int32} {m_fruits : Int32} {m_standings : Int32} {m_read : Nat} {m_length : Int32} {m_top : Int32} {m_at : Int32} {m_wrong : Int32} {m_ruleSize : Int32} {m_isAsked : Int32} {m_askedFruit : Int32} {m_askedStanding : Int32} {m_askedHook : Int32} {m_askedApron : Int32} {m_picked : Int32} {m_now : Nat → Int32} {m_x : Nat → Int32} {m_height : Nat → Int32} {m_worth : Nat → Int32} {m_ripe : Nat → Int32} {m_foot : Nat → Int32} {m_fork : Nat → Int32} {m_told : Nat → Int32} {m_text : Nat → Int32} {m_rule : Nat → Int32} (h_p0 : -1 ≤ Int32.toInt p0 ∧ Int32.toInt p0 ≤ 255) (h_p1 : -1 ≤ Int32.toInt p1 ∧ Int32.toInt p1 ≤ 255) (h_m_fruits : 0 ≤ Int32.toInt m_fruits ∧ Int32.toInt m_fruits ≤ 16) (h_m_standings : 0 ≤ Int32.toInt m_standings ∧ Int32.toInt m_standings ≤ 8) (h_m_read : m_read = 0 ∨ m_read = 1 ∨ m_read = 2) (h_m_length : 0 ≤ Int32.toInt m_length ∧ Int32.toInt m_length ≤ 80) (h_m_top : 0 ≤ Int32.toInt m_top ∧ Int32.toInt m_top ≤ 80) (h_m_at : 0 ≤ Int32.toInt m_at ∧ Int32.toInt m_at ≤ 80) (h_m_wrong : -1 ≤ Int32.toInt m_wrong ∧ Int32.toInt m_wrong ≤ 80) (h_m_ruleSize : 0 ≤ Int32.toInt m_ruleSize ∧ Int32.toInt m_ruleSize ≤ 40) (h_m_isAsked : 0 ≤ Int32.toInt m_isAsked ∧ Int32.toInt m_isAsked ≤ 0) (h_m_askedFruit : 0 ≤ Int32.toInt m_askedFruit ∧ Int32.toInt m_askedFruit ≤ 15) (h_m_askedStanding : 0 ≤ Int32.toInt m_askedStanding ∧ Int32.toInt m_askedStanding ≤ 7) (h_m_askedHook : 0 ≤ Int32.toInt m_askedHook ∧ Int32.toInt m_askedHook ≤ 1) (h_m_askedApron : 0 ≤ Int32.toInt m_askedApron ∧ Int32.toInt m_askedApron ≤ 63) (e0_m_now : ∀ k : Nat, k = 17 → -1 ≤ Int32.toInt (m_now k) ∧ Int32.toInt (m_now k) ≤ SB) (e1_m_now : ∀ k : Nat, k = 19 → 0 ≤ Int32.toInt (m_now k) ∧ Int32.toInt (m_now k) ≤ 9) (h_m_x : ∀ k : Nat, 0 ≤ Int32.toInt (m_x k) ∧ Int32.toInt (m_x k) ≤ 99) (h_m_height : ∀ k : Nat, 0 ≤ Int32.toInt (m_height k) ∧ Int32.toInt (m_height k) ≤ 99) (h_m_worth : ∀ k : Nat, 0 ≤ Int32.toInt (m_worth k) ∧ Int32.toInt (m_worth k) ≤ 9) (h_m_ripe : ∀ k : Nat, 0 ≤ Int32.toInt (m_ripe k) ∧ Int32.toInt (m_ripe k) ≤ 9) (h_m_foot : ∀ k : Nat, 0 ≤ Int32.toInt (m_foot k) ∧ Int32.toInt (m_foot k) ≤ 99) (h_m_fork : ∀ k : Nat, 0 ≤ Int32.toInt (m_fork k) ∧ Int32.toInt (m_fork k) ≤ 99) (e0_m_told : ∀ k : Nat, k = 4 → 1 ≤ Int32.toInt (m_told k) ∧ Int32.toInt (m_told k) ≤ 30) (e1_m_told : ∀ k : Nat, k = 3 → 0 ≤ Int32.toInt (m_told k) ∧ Int32.toInt (m_told k) ≤ 9) (h_m_text : ∀ k : Nat, -128 ≤ Int32.toInt (m_text k) ∧ Int32.toInt (m_text k) ≤ 127) (h_m_rule : ∀ k : Nat, -128 ≤ Int32.toInt (m_rule k) ∧ Int32.toInt (m_rule k) ≤ 127) (hc0 : -1 ≤ SB ∧ SB ≤ 7) (hc1 : (Int32.toInt m_standings ≤ 0 ∧ SB = 0) ∨ (1 ≤ Int32.toInt m_standings ∧ SB = Int32.toInt m_standings - 1)) (hpost : ∀ (r : Int32) (m_read' : Nat) (m_length' : Int32) (m_top' : Int32) (m_at' : Int32) (m_wrong' : Int32) (m_isAsked' : Int32) (m_askedFruit' : Int32) (m_askedStanding' : Int32) (m_askedHook' : Int32) (m_askedApron' : Int32) (m_picked' : Int32) (m_now' : Nat → Int32), (0 ≤ Int32.toInt r ∧ Int32.toInt r ≤ 1) → (m_read' = 0 ∨ m_read' = 1 ∨ m_read' = 2) → (0 ≤ Int32.toInt m_length' ∧ Int32.toInt m_length' ≤ 80) → (0 ≤ Int32.toInt m_top' ∧ Int32.toInt m_top' ≤ 80) → (0 ≤ Int32.toInt m_at' ∧ Int32.toInt m_at' ≤ 80) → (-1 ≤ Int32.toInt m_wrong' ∧ Int32.toInt m_wrong' ≤ 80) → (0 ≤ Int32.toInt m_isAsked' ∧ Int32.toInt m_isAsked' ≤ 0) → (0 ≤ Int32.toInt m_askedFruit' ∧ Int32.toInt m_askedFruit' ≤ 15) → (0 ≤ Int32.toInt m_askedStanding' ∧ Int32.toInt m_askedStanding' ≤ 7) → (0 ≤ Int32.toInt m_askedHook' ∧ Int32.toInt m_askedHook' ≤ 1) → (0 ≤ Int32.toInt m_askedApron' ∧ Int32.toInt m_askedApron' ≤ 63) → (∀ k : Nat, k = 17 → -1 ≤ Int32.toInt (m_now' k) ∧ Int32.toInt (m_now' k) ≤ SB) → (∀ k : Nat, k = 19 → 0 ≤ Int32.toInt (m_now' k) ∧ Int32.toInt (m_now' k) ≤ 9) → post r m_read' m_length' m_top' m_at' m_wrong' m_isAsked' m_askedFruit' m_askedStanding' m_askedHook' m_askedApron' m_picked' m_now') : wp_X10_act post p0 p1 m_fruits m_standings m_read m_length m_top m_at m_wrong m_ruleSize m_isAsked m_askedFruit m_askedStanding m_askedHook m_askedApron m_picked m_now m_x m_height m_worth m_ripe m_foot m_fork m_told m_text m_rule := by
  have l0 : Int32.toInt ((-1) : Int32) = -1 := (by decide)
  have l1 : Int32.toInt (0 : Int32) = 0 := (by decide)
  have l2 : Int32.toInt (1 : Int32) = 1 := (by decide)
  have l3 : Int32.toInt (100 : Int32) = 100 := (by decide)
  have l4 : Int32.toInt (104 : Int32) = 104 := (by decide)
  have l5 : Int32.toInt (107 : Int32) = 107 := (by decide)
  have l6 : Int32.toInt (109 : Int32) = 109 := (by decide)
  have l7 : Int32.toInt (111 : Int32) = 111 := (by decide)
  have l8 : Int32.toInt (112 : Int32) = 112 := (by decide)
  have l9 : Int32.toInt (17 : Int32) = 17 := (by decide)
  have l10 : Int32.toInt (20 : Int32) = 20 := (by decide)
  have l11 : Int32.toInt (9 : Int32) = 9 := (by decide)
  have l12 : Int32.toInt (97 : Int32) = 97 := (by decide)
  have l13 : Int32.toInt (9999 : Int32) = 9999 := (by decide)
  refine And.intro (fun c169 => ?_) ?_
  · skip
    have c169 := (fa_eq _ _).mp c169
    have f170 := tp_r m_picked
    exact ts_X10_act_176 m_fruits m_standings m_ruleSize m_x m_height m_worth m_ripe m_foot m_fork m_told m_text m_rule h_m_fruits h_m_standings h_m_ruleSize h_m_x h_m_height h_m_worth h_m_ripe h_m_foot h_m_fork e0_m_told e1_m_told h_m_text h_m_rule hc0 hc1 hpost p0 m_read m_length m_top m_at m_wrong m_isAsked m_askedFruit m_askedStanding m_askedHook m_askedApron m_picked m_now (by omega) (by first | exact h_m_read | exact Or.inl rfl | exact Or.inr rfl | omega) (by omega) (by omega) (by omega) (by omega) (by omega) (by omega) (by omega) (by omega) (by omega) e0_m_now e1_m_now
  refine And.intro (fun c171 => ?_) ?_
  · skip
    have c171 := (fa_eq _ _).mp c171
    have q172 := e0_m_now (17 : Int32).toNatClampNeg (by have e9 : (17 : Int32).toNatClampNeg = (Int32.toInt (17 : Int32)).toNat := rfl; omega)
    intro v173 ev173
    have hv173 := congrArg Int32.toInt ev173
    refine And.intro (fun c175 => ?_) (fun c175 => ?_)
    · skip
      have c175 := (fa_eq _ _).mp c175
      refine And.intro (fun h9 => absurd h9 (by decide)) (fun _ => ?_)
      exact hpost _ _ _ _ _ _ _ _ _ _ _ _ _ (by omega) (by first | exact h_m_read | exact Or.inl rfl | exact Or.inr rfl | omega) (by omega) (by omega) (by omega) (by omega) (by omega) (by omega) (by omega) (by omega) (by omega) e0_m_now e1_m_now
    · skip
      have c175 := mt (fa_eq _ _).mpr c175
      refine t_X10_which (by omega) (by omega) e0_m_now e1_m_now (by omega) (fun r176 h_r176 ox177 => ?_)
      refine And.intro (fun c178 => ?_) (fun c178 => ?_)
      · skip
        have c178 := (fa_eq _ _).mp c178
        refine And.intro (fun h9 => absurd h9 (by decide)) (fun _ => ?_)
        exact hpost _ _ _ _ _ _ _ _ _ _ _ _ _ (by omega) (by first | exact h_m_read | exact Or.inl rfl | exact Or.inr rfl | omega) (by omega) (by omega) (by omega) (by omega) (by omega) (by omega) (by omega) (by omega) (by omega) e0_m_now e1_m_now
      · skip
        have c178 := mt (fa_eq _ _).mpr c178
        refine And.intro (fun _ => ?_) (fun h9 => absurd h9 (by decide))
        have q179 := e0_m_now (17 : Int32).toNatClampNeg (by have e9 : (17 : Int32).toNatClampNeg = (Int32.toInt (17 : Int32)).toNat := rfl; omega)
        intro v180 ev180
        have hv180 := congrArg Int32.toInt ev180
        refine And.intro (t_in (by omega)) ?_
        intro v181 ev181
        have f182 := h_m_fork v180.toNatClampNeg
        have hv181 := congrArg Int32.toInt ev181
        intro v183 ev183
        have f184 : Int32.toInt (v181 + 9) = Int32.toInt v181 + Int32.toInt (9 : Int32) := ta_add _ _ (by omega)
        rw [← ev183] at f184
        intro v185 ev185
        have hv185 := congrArg Int32.toInt ev185
        intro v187 ev187
        have hv187 := congrArg Int32.toInt ev187
        intro v189 ev189
        have f190 := tp_r (if v187 < 9999 then v187 else 9999)
        have f192 := tp_r v187
        have f191 := ti_min (9999 : Int32) v187
        have hv189 := congrArg Int32.toInt ev189
        have f194 := tp_r v189
        have e193 : ∀ k : Nat, k = 17 → -1 ≤ Int32.toInt ((upd m_now (20 : Int32).toNatClampNeg v189) k) ∧ Int32.toInt ((upd m_now (20 : Int32).toNatClampNeg v189) k) ≤ SB := t_updc (C := fun k => k = 17) e0_m_now (fun hk => by have e9 : (20 : Int32).toNatClampNeg = (Int32.toInt (20 : Int32)).toNat := rfl; have hk : (20 : Int32).toNatClampNeg = 17 := hk; omega)
        have e195 : ∀ k : Nat, k = 19 → 0 ≤ Int32.toInt ((upd m_now (20 : Int32).toNatClampNeg v189) k) ∧ Int32.toInt ((upd m_now (20 : Int32).toNatClampNeg v189) k) ≤ 9 := t_updc (C := fun k => k = 19) e1_m_now (fun hk => by have e9 : (20 : Int32).toNatClampNeg = (Int32.toInt (20 : Int32)).toNat := rfl; have hk : (20 : Int32).toNatClampNeg = 19 := hk; omega)
        refine t_X10_empty (by omega) e193 e195 (by omega) (fun r197 m_now_196 e0_m_now_196 e1_m_now_196 ox198 => ?_)
        exact hpost _ _ _ _ _ _ _ _ _ _ _ _ _ (by omega) (by first | exact h_m_read | exact Or.inl rfl | exact Or.inr rfl | omega) (by omega) (by omega) (by omega) (by omega) (by omega) (by omega) (by omega) (by omega) (by omega) e0_m_now_196 e1_m_now_196
  refine And.intro (fun c199 => ?_) ?_
  · skip
    have c199 := (fa_eq _ _).mp c199
    have f200 := tp_r m_picked
    exact ts_X10_act_98 m_fruits m_standings m_ruleSize m_x m_height m_worth m_ripe m_foot m_fork m_told m_text m_rule h_m_fruits h_m_standings h_m_ruleSize h_m_x h_m_height h_m_worth h_m_ripe h_m_foot h_m_fork e0_m_told e1_m_told h_m_text h_m_rule hc0 hc1 hpost p0 p1 m_read m_length m_top m_at m_wrong m_isAsked m_askedFruit m_askedStanding m_askedHook m_askedApron m_picked m_now (by omega) (by omega) (by first | exact h_m_read | exact Or.inl rfl | exact Or.inr rfl | omega) (by omega) (by omega) (by omega) (by omega) (by omega) (by omega) (by omega) (by omega) (by omega) e0_m_now e1_m_now
  refine And.intro (fun c201 => ?_) ?_
  · skip
    have c201 := (fa_eq _ _).mp c201
    have q202 := e0_m_now (17 : Int32).toNatClampNeg (by have e9 : (17 : Int32).toNatClampNeg = (Int32.toInt (17 : Int32)).toNat := rfl; omega)
    intro v203 ev203
    have hv203 := congrArg Int32.toInt ev203
    refine And.intro (fun c205 => ?_) (fun c205 => ?_)
    · skip
      have c205 := mt (fa_eq _ _).mpr c205
      refine t_X10_goShake (by omega) e0_m_now e1_m_now (fun k => by have q9 := h_m_x k; omega) (fun k => by have q9 := h_m_height k; omega) (fun k => by have q9 := h_m_ripe k; omega) (fun k => by have q9 := h_m_foot k; omega) (fun k => by have q9 := h_m_fork k; omega) e0_m_told e1_m_told (by omega) (by omega) (fun r207 m_now_206 h_r207 e0_m_now_206 e1_m_now_206 => ?_)
      exact hpost _ _ _ _ _ _ _ _ _ _ _ _ _ (by omega) (by first | exact h_m_read | exact Or.inl rfl | exact Or.inr rfl | omega) (by omega) (by omega) (by omega) (by omega) (by omega) (by omega) (by omega) (by omega) (by omega) e0_m_now_206 e1_m_now_206
    · skip
      have c205 := (fa_eq _ _).mp c205
      exact hpost _ _ _ _ _ _ _ _ _ _ _ _ _ (by omega) (by first | exact h_m_read | exact Or.inl rfl | exact Or.inr rfl | omega) (by omega) (by omega) (by omega) (by omega) (by omega) (by omega) (by omega) (by omega) (by omega) e0_m_now e1_m_now
  refine And.intro (fun c208 => ?_) ?_
  · skip
    have c208 := (fa_eq _ _).mp c208
    intro v209 ev209
    have f210 : Int32.toInt (m_standings - 1) = Int32.toInt m_standings - Int32.toInt (1 : Int32) := ta_sub _ _ (by omega)
    rw [← ev209] at f210
    refine And.intro (fun c211 => ?_) (fun c211 => ?_)
    · skip
      have c211 := (fa_lt _ _).mp c211
      refine And.intro (t_bool (by omega)) ?_
      refine And.intro (fun h9 => absurd h9 (by decide)) (fun _ => ?_)
      refine And.intro (fun h9 => absurd h9 (by decide)) (fun _ => ?_)
      exact hpost _ _ _ _ _ _ _ _ _ _ _ _ _ (by omega) (by first | exact h_m_read | exact Or.inl rfl | exact Or.inr rfl | omega) (by omega) (by omega) (by omega) (by omega) (by omega) (by omega) (by omega) (by omega) (by omega) e0_m_now e1_m_now
    · skip
      have c211 := mt (fa_lt _ _).mpr c211
      refine And.intro (fun c212 => ?_) (fun c212 => ?_)
      · skip
        have c212 := (fa_lt _ _).mp c212
        refine And.intro (t_bool (by omega)) ?_
        refine And.intro (fun h9 => absurd h9 (by decide)) (fun _ => ?_)
        refine And.intro (fun h9 => absurd h9 (by decide)) (fun _ => ?_)
        exact hpost _ _ _ _ _ _ _ _ _ _ _ _ _ (by omega) (by first | exact h_m_read | exact Or.inl rfl | exact Or.inr rfl | omega) (by omega) (by omega) (by omega) (by omega) (by omega) (by omega) (by omega) (by omega) (by omega) e0_m_now e1_m_now
      · skip
        have c212 := mt (fa_lt _ _).mpr c212
        refine And.intro (t_bool (by omega)) ?_
        refine And.intro (fun _ => ?_) (fun h9 => absurd h9 (by decide))
        have q213 := e0_m_now (17 : Int32).toNatClampNeg (by have e9 : (17 : Int32).toNatClampNeg = (Int32.toInt (17 : Int32)).toNat := rfl; omega)
        intro v214 ev214
        have hv214 := congrArg Int32.toInt ev214
        refine And.intro (fun c216 => ?_) (fun c216 => ?_)
        · skip
          have c216 := mt (fa_eq _ _).mpr c216
          refine And.intro (fun _ => ?_) (fun h9 => absurd h9 (by decide))
          refine t_X10_goMove (by omega) (by omega) e0_m_now e1_m_now (fun k => by have q9 := h_m_foot k; omega) (fun k => by have q9 := h_m_fork k; omega) e0_m_told e1_m_told (by omega) (by omega) (fun r218 m_now_217 h_r218 e0_m_now_217 e1_m_now_217 => ?_)
          exact hpost _ _ _ _ _ _ _ _ _ _ _ _ _ (by omega) (by first | exact h_m_read | exact Or.inl rfl | exact Or.inr rfl | omega) (by omega) (by omega) (by omega) (by omega) (by omega) (by omega) (by omega) (by omega) (by omega) e0_m_now_217 e1_m_now_217
        · skip
          have c216 := (fa_eq _ _).mp c216
          refine And.intro (fun h9 => absurd h9 (by decide)) (fun _ => ?_)
          exact hpost _ _ _ _ _ _ _ _ _ _ _ _ _ (by omega) (by first | exact h_m_read | exact Or.inl rfl | exact Or.inr rfl | omega) (by omega) (by omega) (by omega) (by omega) (by omega) (by omega) (by omega) (by omega) (by omega) e0_m_now e1_m_now
  refine And.intro (fun c219 => ?_) ?_
  · skip
    have c219 := (fa_eq _ _).mp c219
    have f220 := tp_r m_picked
    exact ts_X10_act_176 m_fruits m_standings m_ruleSize m_x m_height m_worth m_ripe m_foot m_fork m_told m_text m_rule h_m_fruits h_m_standings h_m_ruleSize h_m_x h_m_height h_m_worth h_m_ripe h_m_foot h_m_fork e0_m_told e1_m_told h_m_text h_m_rule hc0 hc1 hpost p0 m_read m_length m_top m_at m_wrong m_isAsked m_askedFruit m_askedStanding m_askedHook m_askedApron m_picked m_now (by omega) (by first | exact h_m_read | exact Or.inl rfl | exact Or.inr rfl | omega) (by omega) (by omega) (by omega) (by omega) (by omega) (by omega) (by omega) (by omega) (by omega) e0_m_now e1_m_now
  refine And.intro (fun c221 => ?_) ?_
  · skip
    have c221 := (fa_eq _ _).mp c221
    have f222 := tp_r m_picked
    exact ts_X10_act_98 m_fruits m_standings m_ruleSize m_x m_height m_worth m_ripe m_foot m_fork m_told m_text m_rule h_m_fruits h_m_standings h_m_ruleSize h_m_x h_m_height h_m_worth h_m_ripe h_m_foot h_m_fork e0_m_told e1_m_told h_m_text h_m_rule hc0 hc1 hpost p0 p1 m_read m_length m_top m_at m_wrong m_isAsked m_askedFruit m_askedStanding m_askedHook m_askedApron m_picked m_now (by omega) (by omega) (by first | exact h_m_read | exact Or.inl rfl | exact Or.inr rfl | omega) (by omega) (by omega) (by omega) (by omega) (by omega) (by omega) (by omega) (by omega) (by omega) e0_m_now e1_m_now
  intro c223 c224 c225 c226 c227 c228 c229
  have c223 := mt (fa_eq _ _).mpr c223
  have c224 := mt (fa_eq _ _).mpr c224
  have c225 := mt (fa_eq _ _).mpr c225
  have c226 := mt (fa_eq _ _).mpr c226
  have c227 := mt (fa_eq _ _).mpr c227
  have c228 := mt (fa_eq _ _).mpr c228
  have c229 := mt (fa_eq _ _).mpr c229
  have f230 := tp_r m_picked
  exact ts_X10_act_196 m_fruits m_standings m_ruleSize m_x m_height m_worth m_ripe m_foot m_fork m_told m_text m_rule h_m_fruits h_m_standings h_m_ruleSize h_m_x h_m_height h_m_worth h_m_ripe h_m_foot h_m_fork e0_m_told e1_m_told h_m_text h_m_rule hc0 hc1 hpost m_read m_length m_top m_at m_wrong m_isAsked m_askedFruit m_askedStanding m_askedHook m_askedApron m_picked m_now (by first | exact h_m_read | exact Or.inl rfl | exact Or.inr rfl | omega) (by omega) (by omega) (by omega) (by omega) (by omega) (by omega) (by omega) (by omega) (by omega) e0_m_now e1_m_now
