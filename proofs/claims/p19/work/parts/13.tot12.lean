set_option maxHeartbeats 8000000 in
set_option maxRecDepth 200000 in
theorem t_X10_down {post : Int32 → Int32 → Int32 → (Nat → Int32) → (Nat → Int32) → Prop} {SB : Int} {bW dG bT : Int32} {rD pR uQ : Nat → Int32} (h_m_fruits : 0 ≤ Int32.toInt bW ∧ Int32.toInt bW ≤ 16) (h_m_thrown : 0 ≤ Int32.toInt dG ∧ Int32.toInt dG ≤ 1) (h_m_undoMany : 0 ≤ Int32.toInt bT ∧ Int32.toInt bT ≤ 12) (e0_m_now : ∀ k : Nat, k = 17 → -1 ≤ Int32.toInt (rD k) ∧ Int32.toInt (rD k) ≤ SB) (e1_m_now : ∀ k : Nat, k = 19 → 0 ≤ Int32.toInt (rD k) ∧ Int32.toInt (rD k) ≤ 9) (h_m_fork : ∀ k : Nat, 0 ≤ Int32.toInt (pR k) ∧ Int32.toInt (pR k) ≤ 99) (e0_m_undos : ∀ k : Nat, k % 21 = 17 → -1 ≤ Int32.toInt (uQ k) ∧ Int32.toInt (uQ k) ≤ SB) (e1_m_undos : ∀ k : Nat, k % 21 = 19 → 0 ≤ Int32.toInt (uQ k) ∧ Int32.toInt (uQ k) ≤ 9) (hc0 : -1 ≤ SB ∧ SB ≤ 7) (hpost : ∀ (r : Int32) (m_thrown' : Int32) (m_undoMany' : Int32) (m_now' : Nat → Int32) (m_undos' : Nat → Int32), (0 ≤ Int32.toInt m_thrown' ∧ Int32.toInt m_thrown' ≤ 0) → (0 ≤ Int32.toInt m_undoMany' ∧ Int32.toInt m_undoMany' ≤ 12) → (∀ k : Nat, k = 17 → -1 ≤ Int32.toInt (m_now' k) ∧ Int32.toInt (m_now' k) ≤ SB) → (∀ k : Nat, k = 19 → 0 ≤ Int32.toInt (m_now' k) ∧ Int32.toInt (m_now' k) ≤ 9) → (∀ k : Nat, k % 21 = 17 → -1 ≤ Int32.toInt (m_undos' k) ∧ Int32.toInt (m_undos' k) ≤ SB) → (∀ k : Nat, k % 21 = 19 → 0 ≤ Int32.toInt (m_undos' k) ∧ Int32.toInt (m_undos' k) ≤ 9) → post r m_thrown' m_undoMany' m_now' m_undos') : wp_X10_down post bW dG bT rD pR uQ := by
  have l0 := li_m1
  have l1 := li_0
  have l2 := li_1
  have l3 := li_17
  have l4 := li_20
  have l5 := li_9
  have l6 := li_9999
  have q1 := e0_m_now (17 : Int32).toNatClampNeg (by have e9 : (17 : Int32).toNatClampNeg = (Int32.toInt (17 : Int32)).toNat := rfl; omega)
  intro v2 ev2
  have hv2 := congrArg Int32.toInt ev2
  refine And.intro (fun c4 => ?_) (fun c4 => ?_)
  · skip
    have c4 := (fa_eq _ _).mp c4
    refine And.intro (fun h9 => absurd h9 (by decide)) (fun _ => ?_)
    exact hpost _ _ _ _ _ (by omega) h_m_undoMany e0_m_now e1_m_now e0_m_undos e1_m_undos
  · skip
    have c4 := mt (fa_eq _ _).mpr c4
    refine t_X10_which (by omega) h_m_fruits e0_m_now e1_m_now (by omega) (fun r5 h_r5 ox6 => ?_)
    refine And.intro (fun c7 => ?_) (fun c7 => ?_)
    · skip
      have c7 := (fa_eq _ _).mp c7
      refine And.intro (fun h9 => absurd h9 (by decide)) (fun _ => ?_)
      exact hpost _ _ _ _ _ (by omega) h_m_undoMany e0_m_now e1_m_now e0_m_undos e1_m_undos
    · skip
      have c7 := mt (fa_eq _ _).mpr c7
      refine And.intro (fun _ => ?_) (fun h9 => absurd h9 (by decide))
      refine t_X10_remember h_m_undoMany e0_m_now e1_m_now e0_m_undos e1_m_undos (by omega) (fun m_undoMany_8 m_undos_9 h_m_undoMany_8 e0_m_undos_9 e1_m_undos_9 => ?_)
      have q10 := e0_m_now (17 : Int32).toNatClampNeg (by have e9 : (17 : Int32).toNatClampNeg = (Int32.toInt (17 : Int32)).toNat := rfl; omega)
      intro v11 ev11
      have hv11 := congrArg Int32.toInt ev11
      refine And.intro (t_in (by omega)) ?_
      intro v12 ev12
      have f13 := h_m_fork v11.toNatClampNeg
      have hv12 := congrArg Int32.toInt ev12
      intro v14 ev14
      have f15 : Int32.toInt (v12 + 9) = Int32.toInt v12 + Int32.toInt (9 : Int32) := ta_add _ _ (by omega)
      rw [← ev14] at f15
      intro v16 ev16
      have hv16 := congrArg Int32.toInt ev16
      intro v18 ev18
      have hv18 := congrArg Int32.toInt ev18
      intro v20 ev20
      have f21 := tp_r (if v18 < 9999 then v18 else 9999)
      have f23 := tp_r v18
      have f22 := ti_min (9999 : Int32) v18
      have hv20 := congrArg Int32.toInt ev20
      have f25 := tp_r v20
      have e24 : ∀ k : Nat, k = 17 → -1 ≤ Int32.toInt ((upd rD (20 : Int32).toNatClampNeg v20) k) ∧ Int32.toInt ((upd rD (20 : Int32).toNatClampNeg v20) k) ≤ SB := t_updc (C := fun k => k = 17) e0_m_now (fun hk => by have e9 : (20 : Int32).toNatClampNeg = (Int32.toInt (20 : Int32)).toNat := rfl; have hk : (20 : Int32).toNatClampNeg = 17 := hk; omega)
      have e26 : ∀ k : Nat, k = 19 → 0 ≤ Int32.toInt ((upd rD (20 : Int32).toNatClampNeg v20) k) ∧ Int32.toInt ((upd rD (20 : Int32).toNatClampNeg v20) k) ≤ 9 := t_updc (C := fun k => k = 19) e1_m_now (fun hk => by have e9 : (20 : Int32).toNatClampNeg = (Int32.toInt (20 : Int32)).toNat := rfl; have hk : (20 : Int32).toNatClampNeg = 19 := hk; omega)
      refine t_X10_empty h_m_fruits e24 e26 (by omega) (fun r28 m_now_27 e0_m_now_27 e1_m_now_27 ox29 => ?_)
      exact hpost _ _ _ _ _ (by omega) (by omega) e0_m_now_27 e1_m_now_27 e0_m_undos_9 e1_m_undos_9
theorem t_X10_ripeOnes {post : Int32 → Prop} {p0 bW : Int32} {rW : Nat → Int32} (h_p0 : -1 ≤ Int32.toInt p0 ∧ Int32.toInt p0 ≤ 9) (h_m_fruits : 0 ≤ Int32.toInt bW ∧ Int32.toInt bW ≤ 16) (h_m_ripe : ∀ k : Nat, 0 ≤ Int32.toInt (rW k) ∧ Int32.toInt (rW k) ≤ 9) (hpost : ∀ (r : Int32) , (0 ≤ Int32.toInt r ∧ Int32.toInt r ≤ 65535) → (r = bsf (Int32.toInt bW).toNat (fun k => decide (rW k ≤ p0))) → post r) : wp_X10_ripeOnes post p0 bW rW := by
  refine f_ripeOnes h_m_fruits (hpost _ ?_ rfl)
  exact bsf_rng _ (by omega) _
set_option maxHeartbeats 8000000 in
set_option maxRecDepth 200000 in
theorem ts_X10_reachedFrom_41 {post : Int32 → Prop} {K6 : Int32 → Int32 → Int32 → Int32 → Int32 → Prop} {n6 : Int} (bW : Int32) (m_x jA oY pR pX : Nat → Int32) (h_m_fruits : 0 ≤ Int32.toInt bW ∧ Int32.toInt bW ≤ 16) (h_m_x : ∀ k : Nat, 0 ≤ Int32.toInt (m_x k) ∧ Int32.toInt (m_x k) ≤ 99) (h_m_height : ∀ k : Nat, 0 ≤ Int32.toInt (jA k) ∧ Int32.toInt (jA k) ≤ 99) (h_m_foot : ∀ k : Nat, 0 ≤ Int32.toInt (oY k) ∧ Int32.toInt (oY k) ≤ 99) (h_m_fork : ∀ k : Nat, 0 ≤ Int32.toInt (pR k) ∧ Int32.toInt (pR k) ≤ 99) (e0_m_told : ∀ k : Nat, k = 4 → 1 ≤ Int32.toInt (pX k) ∧ Int32.toInt (pX k) ≤ 30) (e1_m_told : ∀ k : Nat, k = 3 → 0 ≤ Int32.toInt (pX k) ∧ Int32.toInt (pX k) ≤ 9) (hpost : ∀ (r : Int32) , (0 ≤ Int32.toInt r ∧ Int32.toInt r ≤ 65535) → post r) (hK6 : ∀ (x1 : Int32) (x2 : Int32) (x3 : Int32) (x4 : Int32) (x5 : Int32), (0 ≤ Int32.toInt x1 ∧ Int32.toInt x1 ≤ 7) → (0 ≤ Int32.toInt x3 ∧ Int32.toInt x3 ≤ 1) → (0 ≤ Int32.toInt x4 ∧ Int32.toInt x4 ≤ 65535) → (0 ≤ Int32.toInt x5 ∧ Int32.toInt x5 ≤ 16) → (16 - Int32.toInt x5 < n6) → K6 x1 x2 x3 x4 x5) (x1 x2 x3 x5 k0 k1 : Int32) (h_x1 : 0 ≤ Int32.toInt x1 ∧ Int32.toInt x1 ≤ 7) (h_x3 : 0 ≤ Int32.toInt x3 ∧ Int32.toInt x3 ≤ 1) (h_x5 : 0 ≤ Int32.toInt x5 ∧ Int32.toInt x5 ≤ 15) (h_k0 : 0 ≤ Int32.toInt k0 ∧ Int32.toInt k0 ≤ 65535) (h_k1 : 0 ≤ Int32.toInt k1 ∧ Int32.toInt k1 ≤ 32768) (hn6 : 16 - Int32.toInt x5 ≤ n6) : ws_X10_reachedFrom_41 post K6 bW m_x jA oY pR pX x1 x2 x3 x5 k0 k1 := by
  have l0 := li_1
  intro v1 ev1
  have f2 := ti_or 16 65536 k0 k1 (by decide) (by omega) (by omega)
  have hv1 := congrArg Int32.toInt ev1
  intro v3 ev3
  have f4 : Int32.toInt (x5 + 1) = Int32.toInt x5 + Int32.toInt (1 : Int32) := ta_add _ _ (by omega)
  rw [← ev3] at f4
  have f5 := tp_r x2
  exact hK6 x1 x2 x3 v1 v3 h_x1 h_x3 (by omega) (by omega) (by omega)
set_option maxHeartbeats 8000000 in
set_option maxRecDepth 200000 in
theorem ts_X10_reachedFrom_6 {post : Int32 → Prop} {next : Int32 → Int32 → Int32 → Int32 → Int32 → Prop} {n6 : Int} (bW : Int32) (m_x jA oY pR pX : Nat → Int32) (h_m_fruits : 0 ≤ Int32.toInt bW ∧ Int32.toInt bW ≤ 16) (h_m_x : ∀ k : Nat, 0 ≤ Int32.toInt (m_x k) ∧ Int32.toInt (m_x k) ≤ 99) (h_m_height : ∀ k : Nat, 0 ≤ Int32.toInt (jA k) ∧ Int32.toInt (jA k) ≤ 99) (h_m_foot : ∀ k : Nat, 0 ≤ Int32.toInt (oY k) ∧ Int32.toInt (oY k) ≤ 99) (h_m_fork : ∀ k : Nat, 0 ≤ Int32.toInt (pR k) ∧ Int32.toInt (pR k) ≤ 99) (e0_m_told : ∀ k : Nat, k = 4 → 1 ≤ Int32.toInt (pX k) ∧ Int32.toInt (pX k) ≤ 30) (e1_m_told : ∀ k : Nat, k = 3 → 0 ≤ Int32.toInt (pX k) ∧ Int32.toInt (pX k) ≤ 9) (hpost : ∀ (r : Int32) , (0 ≤ Int32.toInt r ∧ Int32.toInt r ≤ 65535) → post r) (hKn : ∀ (x1 : Int32) (x2 : Int32) (x3 : Int32) (x4 : Int32) (x5 : Int32), (0 ≤ Int32.toInt x1 ∧ Int32.toInt x1 ≤ 7) → (0 ≤ Int32.toInt x3 ∧ Int32.toInt x3 ≤ 1) → (0 ≤ Int32.toInt x4 ∧ Int32.toInt x4 ≤ 65535) → (0 ≤ Int32.toInt x5 ∧ Int32.toInt x5 ≤ 16) → (16 - Int32.toInt x5 < n6) → next x1 x2 x3 x4 x5) (x1 x2 x3 x4 x5 : Int32) (h_x1 : 0 ≤ Int32.toInt x1 ∧ Int32.toInt x1 ≤ 7) (h_x3 : 0 ≤ Int32.toInt x3 ∧ Int32.toInt x3 ≤ 1) (h_x4 : 0 ≤ Int32.toInt x4 ∧ Int32.toInt x4 ≤ 65535) (h_x5 : 0 ≤ Int32.toInt x5 ∧ Int32.toInt x5 ≤ 16) (hn6 : 16 - Int32.toInt x5 ≤ n6) : ws_X10_reachedFrom_6 post next bW m_x jA oY pR pX x1 x2 x3 x4 x5 := by
  have l0 := li_0
  have l1 := li_1
  have l2 := li_2
  refine And.intro (fun c6 => ?_) (fun c6 => ?_)
  · skip
    have c6 := (fa_le _ _).mp c6
    exact hpost _ h_x4
  · skip
    have c6 := mt (fa_le _ _).mpr c6
    intro v7 ev7
    have hv7 := congrArg Int32.toInt ev7
    intro v9 ev9
    have hv9 := congrArg Int32.toInt ev9
    refine And.intro (t_in (by omega)) ?_
    intro v11 ev11
    have f12 := h_m_x x5.toNatClampNeg
    have hv11 := congrArg Int32.toInt ev11
    refine And.intro (t_in (by omega)) ?_
    intro v13 ev13
    have f15 := h_m_foot x1.toNatClampNeg
    have f14 : Int32.toInt (v11 - (oY x1.toNatClampNeg)) = Int32.toInt v11 - Int32.toInt (oY x1.toNatClampNeg) := ta_sub _ _ (by omega)
    rw [← ev13] at f14
    intro v16 ev16
    have f17 := ti_abs v13 (by omega)
    have hv16 := congrArg Int32.toInt ev16
    refine And.intro (t_in (by omega)) ?_
    intro v18 ev18
    have hv18 := congrArg Int32.toInt ev18
    refine And.intro (t_in (by omega)) ?_
    intro v19 ev19
    have f20 : Int32.toInt (v18 - (oY x1.toNatClampNeg)) = Int32.toInt v18 - Int32.toInt (oY x1.toNatClampNeg) := ta_sub _ _ (by omega)
    rw [← ev19] at f20
    intro v21 ev21
    have f22 := ti_abs v19 (by omega)
    have hv21 := congrArg Int32.toInt ev21
    intro v23 ev23
    have hv23 := congrArg Int32.toInt ev23
    refine And.intro (t_in (by omega)) ?_
    intro v25 ev25
    have f26 := h_m_height x5.toNatClampNeg
    have hv25 := congrArg Int32.toInt ev25
    refine And.intro (t_in (by omega)) ?_
    intro v27 ev27
    have f29 := h_m_fork x1.toNatClampNeg
    have f28 : Int32.toInt (v25 - (pR x1.toNatClampNeg)) = Int32.toInt v25 - Int32.toInt (pR x1.toNatClampNeg) := ta_sub _ _ (by omega)
    rw [← ev27] at f28
    intro v30 ev30
    have f31 := ti_max (0 : Int32) v27
    have hv30 := congrArg Int32.toInt ev30
    refine And.intro (t_in (by omega)) ?_
    intro v32 ev32
    have hv32 := congrArg Int32.toInt ev32
    refine And.intro (t_in (by omega)) ?_
    intro v33 ev33
    have f34 : Int32.toInt (v32 - (pR x1.toNatClampNeg)) = Int32.toInt v32 - Int32.toInt (pR x1.toNatClampNeg) := ta_sub _ _ (by omega)
    rw [← ev33] at f34
    intro v35 ev35
    have f36 := ti_max (0 : Int32) v33
    have hv35 := congrArg Int32.toInt ev35
    intro v37 ev37
    have hv37 := congrArg Int32.toInt ev37
    have f40 := tp_r v37
    refine And.intro (fun c39 => ?_) (fun c39 => ?_)
    · skip
      have c39 := (fa_lt _ _).mp c39
      refine And.intro (fun _ => ?_) (fun h9 => absurd h9 (by decide))
      have f42 := tp_r x2
      exact ts_X10_reachedFrom_41 bW m_x jA oY pR pX h_m_fruits h_m_x h_m_height h_m_foot h_m_fork e0_m_told e1_m_told hpost hKn x1 x2 x3 x5 x4 0 h_x1 h_x3 (by omega) h_x4 (by omega) hn6
    · skip
      have c39 := mt (fa_lt _ _).mpr c39
      refine And.intro (fun h9 => absurd h9 (by decide)) (fun _ => ?_)
      intro v43 ev43
      have f44 := ti_shl1 15 32768 x5 (by decide) (by omega)
      have hv43 := congrArg Int32.toInt ev43
      have f45 := tp_r x2
      exact ts_X10_reachedFrom_41 bW m_x jA oY pR pX h_m_fruits h_m_x h_m_height h_m_foot h_m_fork e0_m_told e1_m_told hpost hKn x1 x2 x3 x5 x4 v43 h_x1 h_x3 (by omega) h_x4 (by omega) hn6
set_option maxHeartbeats 8000000 in
set_option maxRecDepth 200000 in
theorem tb_X10_reachedFrom_6 {post : Int32 → Prop} (bW : Int32) (m_x jA oY pR pX : Nat → Int32) (h_m_fruits : 0 ≤ Int32.toInt bW ∧ Int32.toInt bW ≤ 16) (h_m_x : ∀ k : Nat, 0 ≤ Int32.toInt (m_x k) ∧ Int32.toInt (m_x k) ≤ 99) (h_m_height : ∀ k : Nat, 0 ≤ Int32.toInt (jA k) ∧ Int32.toInt (jA k) ≤ 99) (h_m_foot : ∀ k : Nat, 0 ≤ Int32.toInt (oY k) ∧ Int32.toInt (oY k) ≤ 99) (h_m_fork : ∀ k : Nat, 0 ≤ Int32.toInt (pR k) ∧ Int32.toInt (pR k) ≤ 99) (e0_m_told : ∀ k : Nat, k = 4 → 1 ≤ Int32.toInt (pX k) ∧ Int32.toInt (pX k) ≤ 30) (e1_m_told : ∀ k : Nat, k = 3 → 0 ≤ Int32.toInt (pX k) ∧ Int32.toInt (pX k) ≤ 9) (hpost : ∀ (r : Int32) , (0 ≤ Int32.toInt r ∧ Int32.toInt r ≤ 65535) → post r) : ∀ (n : Nat) (x1 x2 x3 x4 x5 : Int32), (0 ≤ Int32.toInt x1 ∧ Int32.toInt x1 ≤ 7) → (0 ≤ Int32.toInt x3 ∧ Int32.toInt x3 ≤ 1) → (0 ≤ Int32.toInt x4 ∧ Int32.toInt x4 ≤ 65535) → (0 ≤ Int32.toInt x5 ∧ Int32.toInt x5 ≤ 16) → (16 - Int32.toInt x5 < (n : Int)) → wb_X10_reachedFrom_6 post bW m_x jA oY pR pX n x1 x2 x3 x4 x5 := by
  intro n
  induction n with
  | zero =>
    intro x1 x2 x3 x4 x5 h_x1 h_x3 h_x4 h_x5 hm
    exfalso; omega
  | succ n ih =>
    intro x1 x2 x3 x4 x5 h_x1 h_x3 h_x4 h_x5 hm
    exact ts_X10_reachedFrom_6 bW m_x jA oY pR pX h_m_fruits h_m_x h_m_height h_m_foot h_m_fork e0_m_told e1_m_told hpost ih x1 x2 x3 x4 x5 h_x1 h_x3 h_x4 h_x5 (by omega)
set_option maxHeartbeats 8000000 in
set_option maxRecDepth 200000 in
theorem t_X10_reachedFrom {post : Int32 → Prop} {p0 p1 p2 bW : Int32} {m_x jA oY pR pX : Nat → Int32} (h_p0 : 0 ≤ Int32.toInt p0 ∧ Int32.toInt p0 ≤ 7) (h_p2 : 0 ≤ Int32.toInt p2 ∧ Int32.toInt p2 ≤ 1) (h_m_fruits : 0 ≤ Int32.toInt bW ∧ Int32.toInt bW ≤ 16) (h_m_x : ∀ k : Nat, 0 ≤ Int32.toInt (m_x k) ∧ Int32.toInt (m_x k) ≤ 99) (h_m_height : ∀ k : Nat, 0 ≤ Int32.toInt (jA k) ∧ Int32.toInt (jA k) ≤ 99) (h_m_foot : ∀ k : Nat, 0 ≤ Int32.toInt (oY k) ∧ Int32.toInt (oY k) ≤ 99) (h_m_fork : ∀ k : Nat, 0 ≤ Int32.toInt (pR k) ∧ Int32.toInt (pR k) ≤ 99) (e0_m_told : ∀ k : Nat, k = 4 → 1 ≤ Int32.toInt (pX k) ∧ Int32.toInt (pX k) ≤ 30) (e1_m_told : ∀ k : Nat, k = 3 → 0 ≤ Int32.toInt (pX k) ∧ Int32.toInt (pX k) ≤ 9) (hpost : ∀ (r : Int32) , (0 ≤ Int32.toInt r ∧ Int32.toInt r ≤ 65535) → post r) : wp_X10_reachedFrom post p0 p1 p2 bW m_x jA oY pR pX := by
  have l0 := li_0
  have f46 := tp_r p1
  exact ⟨18, tb_X10_reachedFrom_6 bW m_x jA oY pR pX h_m_fruits h_m_x h_m_height h_m_foot h_m_fork e0_m_told e1_m_told hpost _ p0 p1 p2 0 0 h_p0 h_p2 (by omega) (by omega) (by omega)⟩
set_option maxHeartbeats 8000000 in
set_option maxRecDepth 200000 in
theorem ts_X10_goShake_96 {post : Int32 → (Nat → Int32) → Prop} {SB : Int} {K50 : Int32 → Int32 → Int32 → (Nat → Int32) → Prop} {n50 : Int} (bW : Int32) (m_x jA rW oY pR pX : Nat → Int32) (h_m_fruits : 0 ≤ Int32.toInt bW ∧ Int32.toInt bW ≤ 16) (h_m_x : ∀ k : Nat, 0 ≤ Int32.toInt (m_x k) ∧ Int32.toInt (m_x k) ≤ 99) (h_m_height : ∀ k : Nat, 0 ≤ Int32.toInt (jA k) ∧ Int32.toInt (jA k) ≤ 99) (h_m_ripe : ∀ k : Nat, 0 ≤ Int32.toInt (rW k) ∧ Int32.toInt (rW k) ≤ 9) (h_m_foot : ∀ k : Nat, 0 ≤ Int32.toInt (oY k) ∧ Int32.toInt (oY k) ≤ 99) (h_m_fork : ∀ k : Nat, 0 ≤ Int32.toInt (pR k) ∧ Int32.toInt (pR k) ≤ 99) (e0_m_told : ∀ k : Nat, k = 4 → 1 ≤ Int32.toInt (pX k) ∧ Int32.toInt (pX k) ≤ 30) (e1_m_told : ∀ k : Nat, k = 3 → 0 ≤ Int32.toInt (pX k) ∧ Int32.toInt (pX k) ≤ 9) (hc0 : -1 ≤ SB ∧ SB ≤ 7) (hpost : ∀ (r : Int32) (m_now' : Nat → Int32), (0 ≤ Int32.toInt r ∧ Int32.toInt r ≤ 63) → (∀ k : Nat, k = 17 → -1 ≤ Int32.toInt (m_now' k) ∧ Int32.toInt (m_now' k) ≤ SB) → (∀ k : Nat, k = 19 → 0 ≤ Int32.toInt (m_now' k) ∧ Int32.toInt (m_now' k) ≤ 9) → post r m_now') (hK50 : ∀ (x1 : Int32) (x2 : Int32) (x3 : Int32) (rD : Nat → Int32), (0 ≤ Int32.toInt x1 ∧ Int32.toInt x1 ≤ 65535) → (0 ≤ Int32.toInt x2 ∧ Int32.toInt x2 ≤ 65535) → (0 ≤ Int32.toInt x3 ∧ Int32.toInt x3 ≤ 16) → (∀ k : Nat, k = 17 → -1 ≤ Int32.toInt (rD k) ∧ Int32.toInt (rD k) ≤ SB) → (∀ k : Nat, k = 19 → 0 ≤ Int32.toInt (rD k) ∧ Int32.toInt (rD k) ≤ 9) → (16 - Int32.toInt x3 < n50) → K50 x1 x2 x3 rD) (x1 x2 x3 : Int32) (rD : Nat → Int32) (h_x1 : 0 ≤ Int32.toInt x1 ∧ Int32.toInt x1 ≤ 65535) (h_x2 : 0 ≤ Int32.toInt x2 ∧ Int32.toInt x2 ≤ 65535) (h_x3 : 0 ≤ Int32.toInt x3 ∧ Int32.toInt x3 ≤ 15) (e0_m_now : ∀ k : Nat, k = 17 → -1 ≤ Int32.toInt (rD k) ∧ Int32.toInt (rD k) ≤ SB) (e1_m_now : ∀ k : Nat, k = 19 → 0 ≤ Int32.toInt (rD k) ∧ Int32.toInt (rD k) ≤ 9) (hn50 : 16 - Int32.toInt x3 ≤ n50) : ws_X10_goShake_96 post K50 bW m_x jA rW oY pR pX x1 x2 x3 rD := by
  have l0 := li_1
  intro v1 ev1
  have f2 : Int32.toInt (x3 + 1) = Int32.toInt x3 + Int32.toInt (1 : Int32) := ta_add _ _ (by omega)
  rw [← ev1] at f2
  exact hK50 x1 x2 v1 rD h_x1 h_x2 (by omega) e0_m_now e1_m_now (by omega)
set_option maxHeartbeats 8000000 in
set_option maxRecDepth 200000 in
theorem ts_X10_goShake_50 {post : Int32 → (Nat → Int32) → Prop} {SB : Int} {next : Int32 → Int32 → Int32 → (Nat → Int32) → Prop} {n50 : Int} (bW : Int32) (m_x jA rW oY pR pX : Nat → Int32) (h_m_fruits : 0 ≤ Int32.toInt bW ∧ Int32.toInt bW ≤ 16) (h_m_x : ∀ k : Nat, 0 ≤ Int32.toInt (m_x k) ∧ Int32.toInt (m_x k) ≤ 99) (h_m_height : ∀ k : Nat, 0 ≤ Int32.toInt (jA k) ∧ Int32.toInt (jA k) ≤ 99) (h_m_ripe : ∀ k : Nat, 0 ≤ Int32.toInt (rW k) ∧ Int32.toInt (rW k) ≤ 9) (h_m_foot : ∀ k : Nat, 0 ≤ Int32.toInt (oY k) ∧ Int32.toInt (oY k) ≤ 99) (h_m_fork : ∀ k : Nat, 0 ≤ Int32.toInt (pR k) ∧ Int32.toInt (pR k) ≤ 99) (e0_m_told : ∀ k : Nat, k = 4 → 1 ≤ Int32.toInt (pX k) ∧ Int32.toInt (pX k) ≤ 30) (e1_m_told : ∀ k : Nat, k = 3 → 0 ≤ Int32.toInt (pX k) ∧ Int32.toInt (pX k) ≤ 9) (hc0 : -1 ≤ SB ∧ SB ≤ 7) (hpost : ∀ (r : Int32) (m_now' : Nat → Int32), (0 ≤ Int32.toInt r ∧ Int32.toInt r ≤ 63) → (∀ k : Nat, k = 17 → -1 ≤ Int32.toInt (m_now' k) ∧ Int32.toInt (m_now' k) ≤ SB) → (∀ k : Nat, k = 19 → 0 ≤ Int32.toInt (m_now' k) ∧ Int32.toInt (m_now' k) ≤ 9) → post r m_now') (hKn : ∀ (x1 : Int32) (x2 : Int32) (x3 : Int32) (rD : Nat → Int32), (0 ≤ Int32.toInt x1 ∧ Int32.toInt x1 ≤ 65535) → (0 ≤ Int32.toInt x2 ∧ Int32.toInt x2 ≤ 65535) → (0 ≤ Int32.toInt x3 ∧ Int32.toInt x3 ≤ 16) → (∀ k : Nat, k = 17 → -1 ≤ Int32.toInt (rD k) ∧ Int32.toInt (rD k) ≤ SB) → (∀ k : Nat, k = 19 → 0 ≤ Int32.toInt (rD k) ∧ Int32.toInt (rD k) ≤ 9) → (16 - Int32.toInt x3 < n50) → next x1 x2 x3 rD) (x1 x2 x3 : Int32) (rD : Nat → Int32) (h_x1 : 0 ≤ Int32.toInt x1 ∧ Int32.toInt x1 ≤ 65535) (h_x2 : 0 ≤ Int32.toInt x2 ∧ Int32.toInt x2 ≤ 65535) (h_x3 : 0 ≤ Int32.toInt x3 ∧ Int32.toInt x3 ≤ 16) (e0_m_now : ∀ k : Nat, k = 17 → -1 ≤ Int32.toInt (rD k) ∧ Int32.toInt (rD k) ≤ SB) (e1_m_now : ∀ k : Nat, k = 19 → 0 ≤ Int32.toInt (rD k) ∧ Int32.toInt (rD k) ≤ 9) (hn50 : 16 - Int32.toInt x3 ≤ n50) : ws_X10_goShake_50 post next bW m_x jA rW oY pR pX x1 x2 x3 rD := by
  have l0 := li_1
  have l1 := li_1431655765
  have l2 := li_16
  have l3 := li_20
  have l4 := li_252645135
  have l5 := li_3
  have l6 := li_63
  have l7 := li_858993459
  have l8 := li_9999
  refine And.intro (fun c3 => ?_) (fun c3 => ?_)
  · skip
    have c3 := (fa_le _ _).mp c3
    intro v4 ev4
    have hv4 := congrArg Int32.toInt ev4
    intro v6 ev6
    have hv6 := congrArg Int32.toInt ev6
    intro v8 ev8
    have f9 := tp_r (if v6 < 9999 then v6 else 9999)
    have f11 := tp_r v6
    have f10 := ti_min (9999 : Int32) v6
    have hv8 := congrArg Int32.toInt ev8
    have f13 := tp_r v8
    have e12 : ∀ k : Nat, k = 17 → -1 ≤ Int32.toInt ((upd rD (20 : Int32).toNatClampNeg v8) k) ∧ Int32.toInt ((upd rD (20 : Int32).toNatClampNeg v8) k) ≤ SB := t_updc (C := fun k => k = 17) e0_m_now (fun hk => by have e9 : (20 : Int32).toNatClampNeg = (Int32.toInt (20 : Int32)).toNat := rfl; have hk : (20 : Int32).toNatClampNeg = 17 := hk; omega)
    have e14 : ∀ k : Nat, k = 19 → 0 ≤ Int32.toInt ((upd rD (20 : Int32).toNatClampNeg v8) k) ∧ Int32.toInt ((upd rD (20 : Int32).toNatClampNeg v8) k) ≤ 9 := t_updc (C := fun k => k = 19) e1_m_now (fun hk => by have e9 : (20 : Int32).toNatClampNeg = (Int32.toInt (20 : Int32)).toNat := rfl; have hk : (20 : Int32).toNatClampNeg = 19 := hk; omega)
    intro v15 ev15
    intro v16 ev16
    have f18 := ti_andr v15 1431655765 (by omega)
    have f17 : Int32.toInt (x1 - (v15 &&& 1431655765)) = Int32.toInt x1 - Int32.toInt (v15 &&& 1431655765) := ta_sub _ _ (by omega)
    rw [← ev16] at f17
    intro v19 ev19
    have f20 := ti_andr v16 858993459 (by omega)
    have hv19 := congrArg Int32.toInt ev19
    intro v21 ev21
    intro v22 ev22
    have f24 := ti_andr v21 858993459 (by omega)
    have f23 : Int32.toInt (v19 + (v21 &&& 858993459)) = Int32.toInt v19 + Int32.toInt (v21 &&& 858993459) := ta_add _ _ (by omega)
    rw [← ev22] at f23
    intro v25 ev25
    have hv25 := congrArg Int32.toInt ev25
    intro v27 ev27
    have f28 := ti_andr v25 252645135 (by omega)
    have hv27 := congrArg Int32.toInt ev27
    intro v29 ev29
    have hv29 := congrArg Int32.toInt ev29
    intro v31 ev31
    have hv31 := congrArg Int32.toInt ev31
    have f33 := ti_andr v31 63 (by omega)
    exact hpost _ _ (by omega) e12 e14
  · skip
    have c3 := mt (fa_le _ _).mpr c3
    intro v34 ev34
    have f35 := ti_shr x1 x3 (by omega)
    have hv34 := congrArg Int32.toInt ev34
    intro v36 ev36
    have f37 := ti_andr v34 1 (by omega)
    have f38 := ti_andl v34 1 (by omega)
    have hv36 := congrArg Int32.toInt ev36
    refine And.intro (fun c39 => ?_) (fun c39 => ?_)
    · skip
      have c39 := mt (fa_eq _ _).mpr c39
      refine And.intro (fun h9 => absurd h9 (by decide)) (fun _ => ?_)
      exact ts_X10_goShake_96 bW m_x jA rW oY pR pX h_m_fruits h_m_x h_m_height h_m_ripe h_m_foot h_m_fork e0_m_told e1_m_told hc0 hpost hKn x1 x2 x3 rD h_x1 h_x2 (by omega) e0_m_now e1_m_now hn50
    · skip
      have c39 := (fa_eq _ _).mp c39
      refine And.intro (fun _ => ?_) (fun h9 => absurd h9 (by decide))
      refine And.intro (t_in (by omega)) ?_
      have e40 : ∀ k : Nat, k = 17 → -1 ≤ Int32.toInt ((upd rD x3.toNatClampNeg 3) k) ∧ Int32.toInt ((upd rD x3.toNatClampNeg 3) k) ≤ SB := t_updc (C := fun k => k = 17) e0_m_now (fun hk => by have e9 : x3.toNatClampNeg = (Int32.toInt x3).toNat := rfl; have hk : x3.toNatClampNeg = 17 := hk; omega)
      have e41 : ∀ k : Nat, k = 19 → 0 ≤ Int32.toInt ((upd rD x3.toNatClampNeg 3) k) ∧ Int32.toInt ((upd rD x3.toNatClampNeg 3) k) ≤ 9 := t_updc (C := fun k => k = 19) e1_m_now (fun hk => by have e9 : x3.toNatClampNeg = (Int32.toInt x3).toNat := rfl; have hk : x3.toNatClampNeg = 19 := hk; omega)
      intro v42 ev42
      have hv42 := congrArg Int32.toInt ev42
      intro v44 ev44
      have f45 := ti_shl1 15 32768 x3 (by decide) (by omega)
      have hv44 := congrArg Int32.toInt ev44
      refine t_X10_below (by omega) h_x2 h_m_fruits h_m_x h_m_height (fun r46 h_r46 => ?_)
      intro v47 ev47
      have f49 := tp_r v47
      have e48 : ∀ k : Nat, k = 17 → -1 ≤ Int32.toInt ((upd (upd rD x3.toNatClampNeg 3) (16 : Int32).toNatClampNeg v47) k) ∧ Int32.toInt ((upd (upd rD x3.toNatClampNeg 3) (16 : Int32).toNatClampNeg v47) k) ≤ SB := t_updc (C := fun k => k = 17) e40 (fun hk => by have e9 : (16 : Int32).toNatClampNeg = (Int32.toInt (16 : Int32)).toNat := rfl; have hk : (16 : Int32).toNatClampNeg = 17 := hk; omega)
      have e50 : ∀ k : Nat, k = 19 → 0 ≤ Int32.toInt ((upd (upd rD x3.toNatClampNeg 3) (16 : Int32).toNatClampNeg v47) k) ∧ Int32.toInt ((upd (upd rD x3.toNatClampNeg 3) (16 : Int32).toNatClampNeg v47) k) ≤ 9 := t_updc (C := fun k => k = 19) e41 (fun hk => by have e9 : (16 : Int32).toNatClampNeg = (Int32.toInt (16 : Int32)).toNat := rfl; have hk : (16 : Int32).toNatClampNeg = 19 := hk; omega)
      exact ts_X10_goShake_96 bW m_x jA rW oY pR pX h_m_fruits h_m_x h_m_height h_m_ripe h_m_foot h_m_fork e0_m_told e1_m_told hc0 hpost hKn x1 x2 x3 (upd (upd rD x3.toNatClampNeg 3) (16 : Int32).toNatClampNeg v47) h_x1 h_x2 (by omega) e48 e50 hn50
set_option maxHeartbeats 8000000 in
set_option maxRecDepth 200000 in
theorem tb_X10_goShake_50 {post : Int32 → (Nat → Int32) → Prop} {SB : Int} (bW : Int32) (m_x jA rW oY pR pX : Nat → Int32) (h_m_fruits : 0 ≤ Int32.toInt bW ∧ Int32.toInt bW ≤ 16) (h_m_x : ∀ k : Nat, 0 ≤ Int32.toInt (m_x k) ∧ Int32.toInt (m_x k) ≤ 99) (h_m_height : ∀ k : Nat, 0 ≤ Int32.toInt (jA k) ∧ Int32.toInt (jA k) ≤ 99) (h_m_ripe : ∀ k : Nat, 0 ≤ Int32.toInt (rW k) ∧ Int32.toInt (rW k) ≤ 9) (h_m_foot : ∀ k : Nat, 0 ≤ Int32.toInt (oY k) ∧ Int32.toInt (oY k) ≤ 99) (h_m_fork : ∀ k : Nat, 0 ≤ Int32.toInt (pR k) ∧ Int32.toInt (pR k) ≤ 99) (e0_m_told : ∀ k : Nat, k = 4 → 1 ≤ Int32.toInt (pX k) ∧ Int32.toInt (pX k) ≤ 30) (e1_m_told : ∀ k : Nat, k = 3 → 0 ≤ Int32.toInt (pX k) ∧ Int32.toInt (pX k) ≤ 9) (hc0 : -1 ≤ SB ∧ SB ≤ 7) (hpost : ∀ (r : Int32) (m_now' : Nat → Int32), (0 ≤ Int32.toInt r ∧ Int32.toInt r ≤ 63) → (∀ k : Nat, k = 17 → -1 ≤ Int32.toInt (m_now' k) ∧ Int32.toInt (m_now' k) ≤ SB) → (∀ k : Nat, k = 19 → 0 ≤ Int32.toInt (m_now' k) ∧ Int32.toInt (m_now' k) ≤ 9) → post r m_now') : ∀ (n : Nat) (x1 x2 x3 : Int32) (rD : Nat → Int32), (0 ≤ Int32.toInt x1 ∧ Int32.toInt x1 ≤ 65535) → (0 ≤ Int32.toInt x2 ∧ Int32.toInt x2 ≤ 65535) → (0 ≤ Int32.toInt x3 ∧ Int32.toInt x3 ≤ 16) → (∀ k : Nat, k = 17 → -1 ≤ Int32.toInt (rD k) ∧ Int32.toInt (rD k) ≤ SB) → (∀ k : Nat, k = 19 → 0 ≤ Int32.toInt (rD k) ∧ Int32.toInt (rD k) ≤ 9) → (16 - Int32.toInt x3 < (n : Int)) → wb_X10_goShake_50 post bW m_x jA rW oY pR pX n x1 x2 x3 rD := by
  intro n
  induction n with
  | zero =>
    intro x1 x2 x3 rD h_x1 h_x2 h_x3 e0_m_now e1_m_now hm
    exfalso; omega
  | succ n ih =>
    intro x1 x2 x3 rD h_x1 h_x2 h_x3 e0_m_now e1_m_now hm
    exact ts_X10_goShake_50 bW m_x jA rW oY pR pX h_m_fruits h_m_x h_m_height h_m_ripe h_m_foot h_m_fork e0_m_told e1_m_told hc0 hpost ih x1 x2 x3 rD h_x1 h_x2 h_x3 e0_m_now e1_m_now (by omega)
set_option maxHeartbeats 8000000 in
set_option maxRecDepth 200000 in
theorem t_X10_goShake {post : Int32 → (Nat → Int32) → Prop} {SB : Int} {bW : Int32} {rD m_x jA rW oY pR pX : Nat → Int32} (h_m_fruits : 0 ≤ Int32.toInt bW ∧ Int32.toInt bW ≤ 16) (e0_m_now : ∀ k : Nat, k = 17 → -1 ≤ Int32.toInt (rD k) ∧ Int32.toInt (rD k) ≤ SB) (e1_m_now : ∀ k : Nat, k = 19 → 0 ≤ Int32.toInt (rD k) ∧ Int32.toInt (rD k) ≤ 9) (h_m_x : ∀ k : Nat, 0 ≤ Int32.toInt (m_x k) ∧ Int32.toInt (m_x k) ≤ 99) (h_m_height : ∀ k : Nat, 0 ≤ Int32.toInt (jA k) ∧ Int32.toInt (jA k) ≤ 99) (h_m_ripe : ∀ k : Nat, 0 ≤ Int32.toInt (rW k) ∧ Int32.toInt (rW k) ≤ 9) (h_m_foot : ∀ k : Nat, 0 ≤ Int32.toInt (oY k) ∧ Int32.toInt (oY k) ≤ 99) (h_m_fork : ∀ k : Nat, 0 ≤ Int32.toInt (pR k) ∧ Int32.toInt (pR k) ≤ 99) (e0_m_told : ∀ k : Nat, k = 4 → 1 ≤ Int32.toInt (pX k) ∧ Int32.toInt (pX k) ≤ 30) (e1_m_told : ∀ k : Nat, k = 3 → 0 ≤ Int32.toInt (pX k) ∧ Int32.toInt (pX k) ≤ 9) (hc0 : -1 ≤ SB ∧ SB ≤ 7) (hx0 : 0 ≤ Int32.toInt (rD (17 : Int32).toNatClampNeg)) (hpost : ∀ (r : Int32) (m_now' : Nat → Int32), (0 ≤ Int32.toInt r ∧ Int32.toInt r ≤ 63) → (∀ k : Nat, k = 17 → -1 ≤ Int32.toInt (m_now' k) ∧ Int32.toInt (m_now' k) ≤ SB) → (∀ k : Nat, k = 19 → 0 ≤ Int32.toInt (m_now' k) ∧ Int32.toInt (m_now' k) ≤ 9) → post r m_now') : wp_X10_goShake post bW rD m_x jA rW oY pR pX := by
  have l0 := li_0
  have l1 := li_17
  have l2 := li_18
  have l3 := li_19
  refine t_X10_which (by omega) h_m_fruits e0_m_now e1_m_now (by omega) (fun r51 h_r51 ox52 => ?_)
  have q53 := e1_m_now (19 : Int32).toNatClampNeg (by have e9 : (19 : Int32).toNatClampNeg = (Int32.toInt (19 : Int32)).toNat := rfl; omega)
  intro v54 ev54
  have hv54 := congrArg Int32.toInt ev54
  refine t_X10_ripeOnes (by omega) h_m_fruits h_m_ripe (fun r56 h_r56 ox57 => ?_)
  intro v58 ev58
  have f59 := ti_andr r51 r56 (by omega)
  have f60 := ti_andl r51 r56 (by omega)
  have hv58 := congrArg Int32.toInt ev58
  have q61 := e0_m_now (17 : Int32).toNatClampNeg (by have e9 : (17 : Int32).toNatClampNeg = (Int32.toInt (17 : Int32)).toNat := rfl; omega)
  intro v62 ev62
  have hv62 := congrArg Int32.toInt ev62
  intro v64 ev64
  have hv64 := congrArg Int32.toInt ev64
  refine t_X10_reachedFrom (by omega) (by omega) h_m_fruits h_m_x h_m_height h_m_foot h_m_fork e0_m_told e1_m_told (fun r66 h_r66 => ?_)
  intro v67 ev67
  have f68 := ti_andr v58 r66 (by omega)
  have f69 := ti_andl v58 r66 (by omega)
  have hv67 := congrArg Int32.toInt ev67
  refine t_X10_which (by omega) h_m_fruits e0_m_now e1_m_now (by omega) (fun r70 h_r70 ox71 => ?_)
  intro v72 ev72
  have f74 := ti_andl r70 (v67 ^^^ (-1)) (by omega)
  have hv72 := congrArg Int32.toInt ev72
  exact ⟨18, tb_X10_goShake_50 bW m_x jA rW oY pR pX h_m_fruits h_m_x h_m_height h_m_ripe h_m_foot h_m_fork e0_m_told e1_m_told hc0 hpost _ v67 v72 0 rD (by omega) (by omega) (by omega) e0_m_now e1_m_now (by omega)⟩
set_option maxHeartbeats 8000000 in
set_option maxRecDepth 200000 in
theorem t_X10_shake {post : Int32 → Int32 → Int32 → (Nat → Int32) → (Nat → Int32) → Prop} {SB : Int} {bW dG bT : Int32} {rD m_x jA rW oY pR pX uQ : Nat → Int32} (h_m_fruits : 0 ≤ Int32.toInt bW ∧ Int32.toInt bW ≤ 16) (h_m_thrown : 0 ≤ Int32.toInt dG ∧ Int32.toInt dG ≤ 1) (h_m_undoMany : 0 ≤ Int32.toInt bT ∧ Int32.toInt bT ≤ 12) (e0_m_now : ∀ k : Nat, k = 17 → -1 ≤ Int32.toInt (rD k) ∧ Int32.toInt (rD k) ≤ SB) (e1_m_now : ∀ k : Nat, k = 19 → 0 ≤ Int32.toInt (rD k) ∧ Int32.toInt (rD k) ≤ 9) (h_m_x : ∀ k : Nat, 0 ≤ Int32.toInt (m_x k) ∧ Int32.toInt (m_x k) ≤ 99) (h_m_height : ∀ k : Nat, 0 ≤ Int32.toInt (jA k) ∧ Int32.toInt (jA k) ≤ 99) (h_m_ripe : ∀ k : Nat, 0 ≤ Int32.toInt (rW k) ∧ Int32.toInt (rW k) ≤ 9) (h_m_foot : ∀ k : Nat, 0 ≤ Int32.toInt (oY k) ∧ Int32.toInt (oY k) ≤ 99) (h_m_fork : ∀ k : Nat, 0 ≤ Int32.toInt (pR k) ∧ Int32.toInt (pR k) ≤ 99) (e0_m_told : ∀ k : Nat, k = 4 → 1 ≤ Int32.toInt (pX k) ∧ Int32.toInt (pX k) ≤ 30) (e1_m_told : ∀ k : Nat, k = 3 → 0 ≤ Int32.toInt (pX k) ∧ Int32.toInt (pX k) ≤ 9) (e0_m_undos : ∀ k : Nat, k % 21 = 17 → -1 ≤ Int32.toInt (uQ k) ∧ Int32.toInt (uQ k) ≤ SB) (e1_m_undos : ∀ k : Nat, k % 21 = 19 → 0 ≤ Int32.toInt (uQ k) ∧ Int32.toInt (uQ k) ≤ 9) (hc0 : -1 ≤ SB ∧ SB ≤ 7) (hpost : ∀ (r : Int32) (m_thrown' : Int32) (m_undoMany' : Int32) (m_now' : Nat → Int32) (m_undos' : Nat → Int32), (-2 ≤ Int32.toInt r ∧ Int32.toInt r ≤ 63) → (0 ≤ Int32.toInt m_thrown' ∧ Int32.toInt m_thrown' ≤ 0) → (0 ≤ Int32.toInt m_undoMany' ∧ Int32.toInt m_undoMany' ≤ 12) → (∀ k : Nat, k = 17 → -1 ≤ Int32.toInt (m_now' k) ∧ Int32.toInt (m_now' k) ≤ SB) → (∀ k : Nat, k = 19 → 0 ≤ Int32.toInt (m_now' k) ∧ Int32.toInt (m_now' k) ≤ 9) → (∀ k : Nat, k % 21 = 17 → -1 ≤ Int32.toInt (m_undos' k) ∧ Int32.toInt (m_undos' k) ≤ SB) → (∀ k : Nat, k % 21 = 19 → 0 ≤ Int32.toInt (m_undos' k) ∧ Int32.toInt (m_undos' k) ≤ 9) → post r m_thrown' m_undoMany' m_now' m_undos') : wp_X10_shake post bW dG bT rD m_x jA rW oY pR pX uQ := by
  have l0 := li_m1
  have l1 := li_m2
  have l2 := li_0
  have l3 := li_17
  have q1 := e0_m_now (17 : Int32).toNatClampNeg (by have e9 : (17 : Int32).toNatClampNeg = (Int32.toInt (17 : Int32)).toNat := rfl; omega)
  intro v2 ev2
  have hv2 := congrArg Int32.toInt ev2
  refine And.intro (fun c4 => ?_) (fun c4 => ?_)
  · skip
    have c4 := mt (fa_eq _ _).mpr c4
    refine t_X10_remember h_m_undoMany e0_m_now e1_m_now e0_m_undos e1_m_undos (by omega) (fun m_undoMany_5 m_undos_6 h_m_undoMany_5 e0_m_undos_6 e1_m_undos_6 => ?_)
    refine t_X10_goShake h_m_fruits e0_m_now e1_m_now h_m_x h_m_height h_m_ripe h_m_foot h_m_fork e0_m_told e1_m_told (by omega) (by omega) (fun r8 m_now_7 h_r8 e0_m_now_7 e1_m_now_7 => ?_)
    exact hpost _ _ _ _ _ (by omega) (by omega) (by omega) e0_m_now_7 e1_m_now_7 e0_m_undos_6 e1_m_undos_6
  · skip
    have c4 := (fa_eq _ _).mp c4
    exact hpost _ _ _ _ _ (by omega) (by omega) h_m_undoMany e0_m_now e1_m_now e0_m_undos e1_m_undos
set_option maxHeartbeats 8000000 in
set_option maxRecDepth 200000 in
theorem t_X10_sleep {post : Int32 → Int32 → Int32 → (Nat → Int32) → (Nat → Int32) → Prop} {SB : Int} {bW dG bT : Int32} {rD uQ : Nat → Int32} (h_m_fruits : 0 ≤ Int32.toInt bW ∧ Int32.toInt bW ≤ 16) (h_m_thrown : 0 ≤ Int32.toInt dG ∧ Int32.toInt dG ≤ 1) (h_m_undoMany : 0 ≤ Int32.toInt bT ∧ Int32.toInt bT ≤ 12) (e0_m_now : ∀ k : Nat, k = 17 → -1 ≤ Int32.toInt (rD k) ∧ Int32.toInt (rD k) ≤ SB) (e1_m_now : ∀ k : Nat, k = 19 → 0 ≤ Int32.toInt (rD k) ∧ Int32.toInt (rD k) ≤ 9) (e0_m_undos : ∀ k : Nat, k % 21 = 17 → -1 ≤ Int32.toInt (uQ k) ∧ Int32.toInt (uQ k) ≤ SB) (e1_m_undos : ∀ k : Nat, k % 21 = 19 → 0 ≤ Int32.toInt (uQ k) ∧ Int32.toInt (uQ k) ≤ 9) (hc0 : -1 ≤ SB ∧ SB ≤ 7) (hpost : ∀ (r : Int32) (m_thrown' : Int32) (m_undoMany' : Int32) (m_now' : Nat → Int32) (m_undos' : Nat → Int32), (-1 ≤ Int32.toInt r ∧ Int32.toInt r ≤ 9) → (0 ≤ Int32.toInt m_thrown' ∧ Int32.toInt m_thrown' ≤ 0) → (0 ≤ Int32.toInt m_undoMany' ∧ Int32.toInt m_undoMany' ≤ 12) → (∀ k : Nat, k = 17 → -1 ≤ Int32.toInt (m_now' k) ∧ Int32.toInt (m_now' k) ≤ SB) → (∀ k : Nat, k = 19 → 0 ≤ Int32.toInt (m_now' k) ∧ Int32.toInt (m_now' k) ≤ 9) → (∀ k : Nat, k % 21 = 17 → -1 ≤ Int32.toInt (m_undos' k) ∧ Int32.toInt (m_undos' k) ≤ SB) → (∀ k : Nat, k % 21 = 19 → 0 ≤ Int32.toInt (m_undos' k) ∧ Int32.toInt (m_undos' k) ≤ 9) → post r m_thrown' m_undoMany' m_now' m_undos') : wp_X10_sleep post bW dG bT rD uQ := by
  have l0 := li_m1
  have l1 := li_0
  have l2 := li_1
  have l3 := li_17
  have l4 := li_19
  have l5 := li_20
  have l6 := li_9
  have q1 := e1_m_now (19 : Int32).toNatClampNeg (by have e9 : (19 : Int32).toNatClampNeg = (Int32.toInt (19 : Int32)).toNat := rfl; omega)
  intro v2 ev2
  have hv2 := congrArg Int32.toInt ev2
  refine And.intro (fun c4 => ?_) (fun c4 => ?_)
  · skip
    have c4 := mt (fa_eq _ _).mpr c4
    refine t_X10_remember h_m_undoMany e0_m_now e1_m_now e0_m_undos e1_m_undos (by omega) (fun m_undoMany_5 m_undos_6 h_m_undoMany_5 e0_m_undos_6 e1_m_undos_6 => ?_)
    refine t_X10_empty h_m_fruits e0_m_now e1_m_now (by omega) (fun r8 m_now_7 e0_m_now_7 e1_m_now_7 ox9 => ?_)
    have e10 : ∀ k : Nat, k = 17 → -1 ≤ Int32.toInt ((upd m_now_7 (17 : Int32).toNatClampNeg (-1)) k) ∧ Int32.toInt ((upd m_now_7 (17 : Int32).toNatClampNeg (-1)) k) ≤ SB := t_updc (C := fun k => k = 17) e0_m_now_7 (fun hk => by have e9 : (17 : Int32).toNatClampNeg = (Int32.toInt (17 : Int32)).toNat := rfl; have hk : (17 : Int32).toNatClampNeg = 17 := hk; omega)
    have e11 : ∀ k : Nat, k = 19 → 0 ≤ Int32.toInt ((upd m_now_7 (17 : Int32).toNatClampNeg (-1)) k) ∧ Int32.toInt ((upd m_now_7 (17 : Int32).toNatClampNeg (-1)) k) ≤ 9 := t_updc (C := fun k => k = 19) e1_m_now_7 (fun hk => by have e9 : (17 : Int32).toNatClampNeg = (Int32.toInt (17 : Int32)).toNat := rfl; have hk : (17 : Int32).toNatClampNeg = 19 := hk; omega)
    have e12 : ∀ k : Nat, k = 17 → -1 ≤ Int32.toInt ((upd (upd m_now_7 (17 : Int32).toNatClampNeg (-1)) (20 : Int32).toNatClampNeg 0) k) ∧ Int32.toInt ((upd (upd m_now_7 (17 : Int32).toNatClampNeg (-1)) (20 : Int32).toNatClampNeg 0) k) ≤ SB := t_updc (C := fun k => k = 17) e10 (fun hk => by have e9 : (20 : Int32).toNatClampNeg = (Int32.toInt (20 : Int32)).toNat := rfl; have hk : (20 : Int32).toNatClampNeg = 17 := hk; omega)
    have e13 : ∀ k : Nat, k = 19 → 0 ≤ Int32.toInt ((upd (upd m_now_7 (17 : Int32).toNatClampNeg (-1)) (20 : Int32).toNatClampNeg 0) k) ∧ Int32.toInt ((upd (upd m_now_7 (17 : Int32).toNatClampNeg (-1)) (20 : Int32).toNatClampNeg 0) k) ≤ 9 := t_updc (C := fun k => k = 19) e11 (fun hk => by have e9 : (20 : Int32).toNatClampNeg = (Int32.toInt (20 : Int32)).toNat := rfl; have hk : (20 : Int32).toNatClampNeg = 19 := hk; omega)
    have q14 := e13 (19 : Int32).toNatClampNeg (by have e9 : (19 : Int32).toNatClampNeg = (Int32.toInt (19 : Int32)).toNat := rfl; omega)
    intro v15 ev15
    have hv15 := congrArg Int32.toInt ev15
    have j17 : Int32.toInt v15 = Int32.toInt (rD (19 : Int32).toNatClampNeg) := by rw [ev15]; exact congrArg Int32.toInt (gs_19 (by assumption))
    intro v18 ev18
    have f19 : Int32.toInt (v15 + 1) = Int32.toInt v15 + Int32.toInt (1 : Int32) := ta_add _ _ (by omega)
    rw [← ev18] at f19
    have e20 : ∀ k : Nat, k = 17 → -1 ≤ Int32.toInt ((upd (upd (upd m_now_7 (17 : Int32).toNatClampNeg (-1)) (20 : Int32).toNatClampNeg 0) (19 : Int32).toNatClampNeg v18) k) ∧ Int32.toInt ((upd (upd (upd m_now_7 (17 : Int32).toNatClampNeg (-1)) (20 : Int32).toNatClampNeg 0) (19 : Int32).toNatClampNeg v18) k) ≤ SB := t_updc (C := fun k => k = 17) e12 (fun hk => by have e9 : (19 : Int32).toNatClampNeg = (Int32.toInt (19 : Int32)).toNat := rfl; have hk : (19 : Int32).toNatClampNeg = 17 := hk; omega)
    have e21 : ∀ k : Nat, k = 19 → 0 ≤ Int32.toInt ((upd (upd (upd m_now_7 (17 : Int32).toNatClampNeg (-1)) (20 : Int32).toNatClampNeg 0) (19 : Int32).toNatClampNeg v18) k) ∧ Int32.toInt ((upd (upd (upd m_now_7 (17 : Int32).toNatClampNeg (-1)) (20 : Int32).toNatClampNeg 0) (19 : Int32).toNatClampNeg v18) k) ≤ 9 := t_updc (C := fun k => k = 19) e13 (fun hk => by have e9 : (19 : Int32).toNatClampNeg = (Int32.toInt (19 : Int32)).toNat := rfl; have hk : (19 : Int32).toNatClampNeg = 19 := hk; omega)
    have q22 := e21 (19 : Int32).toNatClampNeg (by have e9 : (19 : Int32).toNatClampNeg = (Int32.toInt (19 : Int32)).toNat := rfl; omega)
    intro v23 ev23
    have hv23 := congrArg Int32.toInt ev23
    exact hpost _ _ _ _ _ (by omega) (by omega) (by omega) e20 e21 e0_m_undos_6 e1_m_undos_6
  · skip
    have c4 := (fa_eq _ _).mp c4
    exact hpost _ _ _ _ _ (by omega) (by omega) h_m_undoMany e0_m_now e1_m_now e0_m_undos e1_m_undos
set_option maxHeartbeats 8000000 in
set_option maxRecDepth 200000 in
theorem ts_X10_readAct_109 {post : Int32 → Int32 → (Nat → Int32) → Prop} {aAJ : Int32} (jY : Nat) (m_length qG : Int32) (rG rQ : Nat → Int32) (h_m_read : jY = 1) (h_m_length : 0 ≤ Int32.toInt m_length ∧ Int32.toInt m_length ≤ 80) (h_m_top : 60 ≤ Int32.toInt qG ∧ Int32.toInt qG ≤ 60) (h_m_text : ∀ k : Nat, -128 ≤ Int32.toInt (rG k) ∧ Int32.toInt (rG k) ≤ 127) (h_m_rule : ∀ k : Nat, -128 ≤ Int32.toInt (rQ k) ∧ Int32.toInt (rQ k) ≤ 127) (hpost : ∀ (m_at' : Int32) (m_wrong' : Int32) (m_acts' : Nat → Int32), (0 ≤ Int32.toInt m_at' ∧ Int32.toInt m_at' ≤ 80) → (-1 ≤ Int32.toInt m_wrong' ∧ Int32.toInt m_wrong' ≤ 80) → (∀ k : Nat, -1 ≤ Int32.toInt (m_acts' k) ∧ Int32.toInt (m_acts' k) ≤ 255) → (Int32.toInt aAJ + 1 ≤ Int32.toInt m_at') → (Int32.toInt m_at' ≤ 61) → post m_at' m_wrong' m_acts') (x1 uW eY : Int32) (wE : Nat → Int32) (h_x1 : 0 ≤ Int32.toInt x1 ∧ Int32.toInt x1 ≤ 125) (h_m_at : 0 ≤ Int32.toInt uW ∧ Int32.toInt uW ≤ 80) (h_m_wrong : -1 ≤ Int32.toInt eY ∧ Int32.toInt eY ≤ 80) (h_m_acts : ∀ k : Nat, -1 ≤ Int32.toInt (wE k) ∧ Int32.toInt (wE k) ≤ 255) (hx0 : Int32.toInt uW ≤ 61) (hx1 : Int32.toInt aAJ + 1 ≤ Int32.toInt uW) : ws_X10_readAct_109 post jY m_length qG rG rQ x1 uW eY wE := by
  have l0 := li_1
  have l1 := li_2
  intro v1 ev1
  have f2 : Int32.toInt (x1 + 1) = Int32.toInt x1 + Int32.toInt (1 : Int32) := ta_add _ _ (by omega)
  rw [← ev1] at f2
  refine t_X10_number (by omega) (by first | exact h_m_read | exact Or.inl rfl | exact Or.inr rfl | omega) h_m_length (by omega) h_m_at h_m_wrong h_m_text h_m_rule (by omega) (fun r5 m_at_3 m_wrong_4 h_r5 h_m_at_3 h_m_wrong_4 ox6 ox7 ox8 ox9 => ?_)
  refine And.intro (t_in (by omega)) ?_
  have a10 : ∀ k : Nat, -1 ≤ Int32.toInt ((upd wE v1.toNatClampNeg r5) k) ∧ Int32.toInt ((upd wE v1.toNatClampNeg r5) k) ≤ 255 := t_upd (fun k => by have q9 := h_m_acts k; omega) (by omega)
  exact hpost _ _ _ h_m_at_3 h_m_wrong_4 (fun k => by have q9 := a10 k; omega) (by omega) (by omega)
set_option maxHeartbeats 8000000 in
set_option maxRecDepth 200000 in
theorem ts_X10_readAct_97 {post : Int32 → Int32 → (Nat → Int32) → Prop} {aAJ : Int32} (jY : Nat) (m_length qG : Int32) (rG rQ : Nat → Int32) (h_m_read : jY = 1) (h_m_length : 0 ≤ Int32.toInt m_length ∧ Int32.toInt m_length ≤ 80) (h_m_top : 60 ≤ Int32.toInt qG ∧ Int32.toInt qG ≤ 60) (h_m_text : ∀ k : Nat, -128 ≤ Int32.toInt (rG k) ∧ Int32.toInt (rG k) ≤ 127) (h_m_rule : ∀ k : Nat, -128 ≤ Int32.toInt (rQ k) ∧ Int32.toInt (rQ k) ≤ 127) (hpost : ∀ (m_at' : Int32) (m_wrong' : Int32) (m_acts' : Nat → Int32), (0 ≤ Int32.toInt m_at' ∧ Int32.toInt m_at' ≤ 80) → (-1 ≤ Int32.toInt m_wrong' ∧ Int32.toInt m_wrong' ≤ 80) → (∀ k : Nat, -1 ≤ Int32.toInt (m_acts' k) ∧ Int32.toInt (m_acts' k) ≤ 255) → (Int32.toInt aAJ + 1 ≤ Int32.toInt m_at') → (Int32.toInt m_at' ≤ 61) → post m_at' m_wrong' m_acts') (x1 x2 uW eY : Int32) (wE : Nat → Int32) (h_x1 : 0 ≤ Int32.toInt x1 ∧ Int32.toInt x1 ≤ 125) (h_x2 : -1 ≤ Int32.toInt x2 ∧ Int32.toInt x2 ≤ 255) (h_m_at : 0 ≤ Int32.toInt uW ∧ Int32.toInt uW ≤ 80) (h_m_wrong : -1 ≤ Int32.toInt eY ∧ Int32.toInt eY ≤ 80) (h_m_acts : ∀ k : Nat, -1 ≤ Int32.toInt (wE k) ∧ Int32.toInt (wE k) ≤ 255) (hx0 : Int32.toInt uW ≤ 61) (hx1 : Int32.toInt aAJ + 1 ≤ Int32.toInt uW) : ws_X10_readAct_97 post jY m_length qG rG rQ x1 x2 uW eY wE := by
  have l0 := li_104
  have l1 := li_112
  refine And.intro (fun c11 => ?_) (fun c11 => ?_)
  · skip
    have c11 := (fa_eq _ _).mp c11
    exact ts_X10_readAct_109 jY m_length qG rG rQ h_m_read h_m_length h_m_top h_m_text h_m_rule hpost x1 uW eY wE h_x1 h_m_at h_m_wrong h_m_acts hx0 hx1
  · skip
    have c11 := mt (fa_eq _ _).mpr c11
    refine And.intro (fun c12 => ?_) (fun c12 => ?_)
    · skip
      have c12 := mt (fa_eq _ _).mpr c12
      exact hpost _ _ _ h_m_at h_m_wrong h_m_acts (by omega) (by omega)
    · skip
      have c12 := (fa_eq _ _).mp c12
      exact ts_X10_readAct_109 jY m_length qG rG rQ h_m_read h_m_length h_m_top h_m_text h_m_rule hpost x1 uW eY wE h_x1 h_m_at h_m_wrong h_m_acts hx0 hx1
set_option maxHeartbeats 8000000 in
set_option maxRecDepth 200000 in
theorem ts_X10_readAct_61 {post : Int32 → Int32 → (Nat → Int32) → Prop} {aAJ : Int32} (jY : Nat) (m_length qG : Int32) (rG rQ : Nat → Int32) (h_m_read : jY = 1) (h_m_length : 0 ≤ Int32.toInt m_length ∧ Int32.toInt m_length ≤ 80) (h_m_top : 60 ≤ Int32.toInt qG ∧ Int32.toInt qG ≤ 60) (h_m_text : ∀ k : Nat, -128 ≤ Int32.toInt (rG k) ∧ Int32.toInt (rG k) ≤ 127) (h_m_rule : ∀ k : Nat, -128 ≤ Int32.toInt (rQ k) ∧ Int32.toInt (rQ k) ≤ 127) (hpost : ∀ (m_at' : Int32) (m_wrong' : Int32) (m_acts' : Nat → Int32), (0 ≤ Int32.toInt m_at' ∧ Int32.toInt m_at' ≤ 80) → (-1 ≤ Int32.toInt m_wrong' ∧ Int32.toInt m_wrong' ≤ 80) → (∀ k : Nat, -1 ≤ Int32.toInt (m_acts' k) ∧ Int32.toInt (m_acts' k) ≤ 255) → (Int32.toInt aAJ + 1 ≤ Int32.toInt m_at') → (Int32.toInt m_at' ≤ 61) → post m_at' m_wrong' m_acts') (x1 x2 uW eY : Int32) (wE : Nat → Int32) (h_x1 : 0 ≤ Int32.toInt x1 ∧ Int32.toInt x1 ≤ 125) (h_x2 : -1 ≤ Int32.toInt x2 ∧ Int32.toInt x2 ≤ 255) (h_m_at : 0 ≤ Int32.toInt uW ∧ Int32.toInt uW ≤ 80) (h_m_wrong : -1 ≤ Int32.toInt eY ∧ Int32.toInt eY ≤ 80) (h_m_acts : ∀ k : Nat, -1 ≤ Int32.toInt (wE k) ∧ Int32.toInt (wE k) ≤ 255) (hx0 : Int32.toInt uW ≤ 60) (hx1 : Int32.toInt aAJ ≤ Int32.toInt uW) : ws_X10_readAct_61 post jY m_length qG rG rQ x1 x2 uW eY wE := by
  have l0 := li_1
  have l1 := li_109
  intro v13 ev13
  have f14 : Int32.toInt (uW + 1) = Int32.toInt uW + Int32.toInt (1 : Int32) := ta_add _ _ (by omega)
  rw [← ev13] at f14
  refine And.intro (t_in (by omega)) ?_
  have a15 : ∀ k : Nat, -1 ≤ Int32.toInt ((upd wE x1.toNatClampNeg x2) k) ∧ Int32.toInt ((upd wE x1.toNatClampNeg x2) k) ≤ 255 := t_upd (fun k => by have q9 := h_m_acts k; omega) (by omega)
  refine And.intro (fun c16 => ?_) (fun c16 => ?_)
  · skip
    have c16 := mt (fa_eq _ _).mpr c16
    exact ts_X10_readAct_97 jY m_length qG rG rQ h_m_read h_m_length h_m_top h_m_text h_m_rule hpost x1 x2 v13 eY (upd wE x1.toNatClampNeg x2) h_x1 h_x2 (by omega) h_m_wrong (fun k => by have q9 := a15 k; omega) (by omega) (by omega)
  · skip
    have c16 := (fa_eq _ _).mp c16
    intro v17 ev17
    have f18 : Int32.toInt (x1 + 1) = Int32.toInt x1 + Int32.toInt (1 : Int32) := ta_add _ _ (by omega)
    rw [← ev17] at f18
    refine t_X10_number (by omega) (by first | exact h_m_read | exact Or.inl rfl | exact Or.inr rfl | omega) h_m_length (by omega) (by omega) h_m_wrong h_m_text h_m_rule (by omega) (fun r21 m_at_19 m_wrong_20 h_r21 h_m_at_19 h_m_wrong_20 ox22 ox23 ox24 ox25 => ?_)
    refine And.intro (t_in (by omega)) ?_
    have a26 : ∀ k : Nat, -1 ≤ Int32.toInt ((upd (upd wE x1.toNatClampNeg x2) v17.toNatClampNeg r21) k) ∧ Int32.toInt ((upd (upd wE x1.toNatClampNeg x2) v17.toNatClampNeg r21) k) ≤ 255 := t_upd (fun k => by have q9 := a15 k; omega) (by omega)
    exact ts_X10_readAct_97 jY m_length qG rG rQ h_m_read h_m_length h_m_top h_m_text h_m_rule hpost x1 x2 m_at_19 m_wrong_20 (upd (upd wE x1.toNatClampNeg x2) v17.toNatClampNeg r21) h_x1 h_x2 h_m_at_19 h_m_wrong_20 (fun k => by have q9 := a26 k; omega) (by omega) (by omega)
set_option maxHeartbeats 8000000 in
set_option maxRecDepth 200000 in
theorem t_X10_readAct {post : Int32 → Int32 → (Nat → Int32) → Prop} {p0 : Int32} {jY : Nat} {m_length qG uW eY : Int32} {rG rQ wE : Nat → Int32} (h_p0 : 0 ≤ Int32.toInt p0 ∧ Int32.toInt p0 ≤ 125) (h_m_read : jY = 1) (h_m_length : 0 ≤ Int32.toInt m_length ∧ Int32.toInt m_length ≤ 80) (h_m_top : 60 ≤ Int32.toInt qG ∧ Int32.toInt qG ≤ 60) (h_m_at : 0 ≤ Int32.toInt uW ∧ Int32.toInt uW ≤ 80) (h_m_wrong : -1 ≤ Int32.toInt eY ∧ Int32.toInt eY ≤ -1) (h_m_text : ∀ k : Nat, -128 ≤ Int32.toInt (rG k) ∧ Int32.toInt (rG k) ≤ 127) (h_m_rule : ∀ k : Nat, -128 ≤ Int32.toInt (rQ k) ∧ Int32.toInt (rQ k) ≤ 127) (h_m_acts : ∀ k : Nat, -1 ≤ Int32.toInt (wE k) ∧ Int32.toInt (wE k) ≤ 255) (hx0 : Int32.toInt uW ≤ 60) (hpost : ∀ (m_at' : Int32) (m_wrong' : Int32) (m_acts' : Nat → Int32), (0 ≤ Int32.toInt m_at' ∧ Int32.toInt m_at' ≤ 80) → (-1 ≤ Int32.toInt m_wrong' ∧ Int32.toInt m_wrong' ≤ 80) → (∀ k : Nat, -1 ≤ Int32.toInt (m_acts' k) ∧ Int32.toInt (m_acts' k) ≤ 255) → (Int32.toInt uW + 1 ≤ Int32.toInt m_at') → (Int32.toInt m_at' ≤ 61) → post m_at' m_wrong' m_acts') : wp_X10_readAct post p0 jY m_length qG uW eY rG rQ wE := by
  have l0 := li_m1
  have l1 := li_100
  have l2 := li_104
  have l3 := li_107
  have l4 := li_109
  have l5 := li_111
  have l6 := li_112
  have l7 := li_122
  have l8 := li_97
  refine t_X10_here (by first | exact h_m_read | exact Or.inl rfl | exact Or.inr rfl | omega) h_m_length (by omega) h_m_at h_m_text h_m_rule (by omega) (fun r27 h_r27 ox28 ox29 => ?_)
  refine And.intro (fun c30 => ?_) (fun c30 => ?_)
  · skip
    have c30 := (fa_eq _ _).mp c30
    exact ts_X10_readAct_61 jY m_length qG rG rQ h_m_read h_m_length h_m_top h_m_text h_m_rule hpost p0 r27 uW eY wE h_p0 h_r27 h_m_at (by omega) h_m_acts (by omega) (by omega)
  · skip
    have c30 := mt (fa_eq _ _).mpr c30
    refine And.intro (fun c31 => ?_) (fun c31 => ?_)
    · skip
      have c31 := (fa_eq _ _).mp c31
      exact ts_X10_readAct_61 jY m_length qG rG rQ h_m_read h_m_length h_m_top h_m_text h_m_rule hpost p0 r27 uW eY wE h_p0 h_r27 h_m_at (by omega) h_m_acts (by omega) (by omega)
    · skip
      have c31 := mt (fa_eq _ _).mpr c31
      refine And.intro (fun c32 => ?_) (fun c32 => ?_)
      · skip
        have c32 := (fa_eq _ _).mp c32
        exact ts_X10_readAct_61 jY m_length qG rG rQ h_m_read h_m_length h_m_top h_m_text h_m_rule hpost p0 r27 uW eY wE h_p0 h_r27 h_m_at (by omega) h_m_acts (by omega) (by omega)
      · skip
        have c32 := mt (fa_eq _ _).mpr c32
        refine And.intro (fun c33 => ?_) (fun c33 => ?_)
        · skip
          have c33 := (fa_eq _ _).mp c33
          exact ts_X10_readAct_61 jY m_length qG rG rQ h_m_read h_m_length h_m_top h_m_text h_m_rule hpost p0 r27 uW eY wE h_p0 h_r27 h_m_at (by omega) h_m_acts (by omega) (by omega)
        · skip
          have c33 := mt (fa_eq _ _).mpr c33
          refine And.intro (fun c34 => ?_) (fun c34 => ?_)
          · skip
            have c34 := (fa_eq _ _).mp c34
            exact ts_X10_readAct_61 jY m_length qG rG rQ h_m_read h_m_length h_m_top h_m_text h_m_rule hpost p0 r27 uW eY wE h_p0 h_r27 h_m_at (by omega) h_m_acts (by omega) (by omega)
          · skip
            have c34 := mt (fa_eq _ _).mpr c34
            refine And.intro (fun c35 => ?_) (fun c35 => ?_)
            · skip
              have c35 := (fa_eq _ _).mp c35
              exact ts_X10_readAct_61 jY m_length qG rG rQ h_m_read h_m_length h_m_top h_m_text h_m_rule hpost p0 r27 uW eY wE h_p0 h_r27 h_m_at (by omega) h_m_acts (by omega) (by omega)
            · skip
              have c35 := mt (fa_eq _ _).mpr c35
              refine And.intro (fun c36 => ?_) (fun c36 => ?_)
              · skip
                have c36 := (fa_eq _ _).mp c36
                exact ts_X10_readAct_61 jY m_length qG rG rQ h_m_read h_m_length h_m_top h_m_text h_m_rule hpost p0 r27 uW eY wE h_p0 h_r27 h_m_at (by omega) h_m_acts (by omega) (by omega)
              · skip
                have c36 := mt (fa_eq _ _).mpr c36
                refine And.intro (fun c37 => ?_) (fun c37 => ?_)
                · skip
                  have c37 := (fa_eq _ _).mp c37
                  exact ts_X10_readAct_61 jY m_length qG rG rQ h_m_read h_m_length h_m_top h_m_text h_m_rule hpost p0 r27 uW eY wE h_p0 h_r27 h_m_at (by omega) h_m_acts (by omega) (by omega)
                · skip
                  have c37 := mt (fa_eq _ _).mpr c37
                  refine And.intro (fun c38 => ?_) (fun c38 => ?_)
                  · skip
                    have c38 := mt (fa_eq _ _).mpr c38
                    exfalso; omega
                  · skip
                    have c38 := (fa_eq _ _).mp c38
                    refine And.intro (fun h9 => absurd h9 (by decide)) (fun _ => ?_)
                    exact ts_X10_readAct_61 jY m_length qG rG rQ h_m_read h_m_length h_m_top h_m_text h_m_rule hpost p0 r27 uW uW wE h_p0 h_r27 h_m_at (by omega) h_m_acts (by omega) (by omega)
set_option maxHeartbeats 8000000 in
set_option maxRecDepth 200000 in
theorem ts_X10_lay_b2_2 {post : (Nat → Int32) → Prop} {SB : Int} {next : Int32 → Int32 → (Nat → Int32) → Prop} {n2 : Int} (rD : Nat → Int32) (e0_m_now : ∀ k : Nat, k = 17 → -1 ≤ Int32.toInt (rD k) ∧ Int32.toInt (rD k) ≤ SB) (e1_m_now : ∀ k : Nat, k = 19 → 0 ≤ Int32.toInt (rD k) ∧ Int32.toInt (rD k) ≤ 9) (hc0 : -1 ≤ SB ∧ SB ≤ 7) (hpost : ∀ (m_aside' : Nat → Int32), (∀ k : Nat, k = 17 → -1 ≤ Int32.toInt (m_aside' k) ∧ Int32.toInt (m_aside' k) ≤ SB) → (∀ k : Nat, k = 19 → 0 ≤ Int32.toInt (m_aside' k) ∧ Int32.toInt (m_aside' k) ≤ 9) → post m_aside') (hKn : ∀ (x2 : Int32) (x3 : Int32) (uZ : Nat → Int32), (0 ≤ Int32.toInt x2 ∧ Int32.toInt x2 ≤ 0) → (0 ≤ Int32.toInt x3 ∧ Int32.toInt x3 ≤ 21) → (∀ k : Nat, k = 17 → -1 ≤ Int32.toInt (uZ k) ∧ Int32.toInt (uZ k) ≤ SB) → (∀ k : Nat, k = 19 → 0 ≤ Int32.toInt (uZ k) ∧ Int32.toInt (uZ k) ≤ 9) → (Int32.toInt x2 % 21 = 0) → (21 - Int32.toInt x3 < n2) → next x2 x3 uZ) (x2 x3 : Int32) (uZ : Nat → Int32) (h_x2 : 0 ≤ Int32.toInt x2 ∧ Int32.toInt x2 ≤ 0) (h_x3 : 0 ≤ Int32.toInt x3 ∧ Int32.toInt x3 ≤ 21) (e0_m_aside : ∀ k : Nat, k = 17 → -1 ≤ Int32.toInt (uZ k) ∧ Int32.toInt (uZ k) ≤ SB) (e1_m_aside : ∀ k : Nat, k = 19 → 0 ≤ Int32.toInt (uZ k) ∧ Int32.toInt (uZ k) ≤ 9) (hx0 : Int32.toInt x2 % 21 = 0) (hn2 : 21 - Int32.toInt x3 ≤ n2) : ws_X10_lay_b2_2 post next rD x2 x3 uZ := by
  have l0 := li_1
  have l1 := li_21
  refine And.intro (fun c1 => ?_) (fun c1 => ?_)
  · skip
    have c1 := (fa_le _ _).mp c1
    exact hpost _ e0_m_aside e1_m_aside
  · skip
    have c1 := mt (fa_le _ _).mpr c1
    intro v2 ev2
    have f3 : Int32.toInt (x2 + x3) = Int32.toInt x2 + Int32.toInt x3 := ta_add _ _ (by omega)
    rw [← ev2] at f3
    refine And.intro (t_in (by omega)) ?_
    have q4 := e0_m_now x3.toNatClampNeg
    have q5 := e1_m_now x3.toNatClampNeg
    have q6 : x3.toNatClampNeg = (Int32.toInt x3).toNat := rfl
    intro v7 ev7
    have hv7 := congrArg Int32.toInt ev7
    refine And.intro (t_in (by omega)) ?_
    have f10 := tp_r v7
    have e9 : ∀ k : Nat, k = 17 → -1 ≤ Int32.toInt ((upd uZ v2.toNatClampNeg v7) k) ∧ Int32.toInt ((upd uZ v2.toNatClampNeg v7) k) ≤ SB := t_updc (C := fun k => k = 17) e0_m_aside (fun hk => by have e9 : v2.toNatClampNeg = (Int32.toInt v2).toNat := rfl; have hk : v2.toNatClampNeg = 17 := hk; omega)
    have e11 : ∀ k : Nat, k = 19 → 0 ≤ Int32.toInt ((upd uZ v2.toNatClampNeg v7) k) ∧ Int32.toInt ((upd uZ v2.toNatClampNeg v7) k) ≤ 9 := t_updc (C := fun k => k = 19) e1_m_aside (fun hk => by have e9 : v2.toNatClampNeg = (Int32.toInt v2).toNat := rfl; have hk : v2.toNatClampNeg = 19 := hk; omega)
    intro v12 ev12
    have f13 : Int32.toInt (x3 + 1) = Int32.toInt x3 + Int32.toInt (1 : Int32) := ta_add _ _ (by omega)
    rw [← ev12] at f13
    exact hKn x2 v12 (upd uZ v2.toNatClampNeg v7) h_x2 (by omega) e9 e11 hx0 (by omega)
set_option maxHeartbeats 8000000 in
set_option maxRecDepth 200000 in
theorem tb_X10_lay_b2_2 {post : (Nat → Int32) → Prop} {SB : Int} (rD : Nat → Int32) (e0_m_now : ∀ k : Nat, k = 17 → -1 ≤ Int32.toInt (rD k) ∧ Int32.toInt (rD k) ≤ SB) (e1_m_now : ∀ k : Nat, k = 19 → 0 ≤ Int32.toInt (rD k) ∧ Int32.toInt (rD k) ≤ 9) (hc0 : -1 ≤ SB ∧ SB ≤ 7) (hpost : ∀ (m_aside' : Nat → Int32), (∀ k : Nat, k = 17 → -1 ≤ Int32.toInt (m_aside' k) ∧ Int32.toInt (m_aside' k) ≤ SB) → (∀ k : Nat, k = 19 → 0 ≤ Int32.toInt (m_aside' k) ∧ Int32.toInt (m_aside' k) ≤ 9) → post m_aside') : ∀ (n : Nat) (x2 x3 : Int32) (uZ : Nat → Int32), (0 ≤ Int32.toInt x2 ∧ Int32.toInt x2 ≤ 0) → (0 ≤ Int32.toInt x3 ∧ Int32.toInt x3 ≤ 21) → (∀ k : Nat, k = 17 → -1 ≤ Int32.toInt (uZ k) ∧ Int32.toInt (uZ k) ≤ SB) → (∀ k : Nat, k = 19 → 0 ≤ Int32.toInt (uZ k) ∧ Int32.toInt (uZ k) ≤ 9) → (Int32.toInt x2 % 21 = 0) → (21 - Int32.toInt x3 < (n : Int)) → wb_X10_lay_b2_2 post rD n x2 x3 uZ := by
  intro n
  induction n with
  | zero =>
    intro x2 x3 uZ h_x2 h_x3 e0_m_aside e1_m_aside hx0 hm
    exfalso; omega
  | succ n ih =>
    intro x2 x3 uZ h_x2 h_x3 e0_m_aside e1_m_aside hx0 hm
    exact ts_X10_lay_b2_2 rD e0_m_now e1_m_now hc0 hpost ih x2 x3 uZ h_x2 h_x3 e0_m_aside e1_m_aside hx0 (by omega)
set_option maxHeartbeats 8000000 in
set_option maxRecDepth 200000 in
theorem t_X10_lay_b2 {post : (Nat → Int32) → Prop} {SB : Int} {p2 : Int32} {rD uZ : Nat → Int32} (h_p2 : 0 ≤ Int32.toInt p2 ∧ Int32.toInt p2 ≤ 0) (e0_m_now : ∀ k : Nat, k = 17 → -1 ≤ Int32.toInt (rD k) ∧ Int32.toInt (rD k) ≤ SB) (e1_m_now : ∀ k : Nat, k = 19 → 0 ≤ Int32.toInt (rD k) ∧ Int32.toInt (rD k) ≤ 9) (e0_m_aside : ∀ k : Nat, k = 17 → -1 ≤ Int32.toInt (uZ k) ∧ Int32.toInt (uZ k) ≤ SB) (e1_m_aside : ∀ k : Nat, k = 19 → 0 ≤ Int32.toInt (uZ k) ∧ Int32.toInt (uZ k) ≤ 9) (hc0 : -1 ≤ SB ∧ SB ≤ 7) (hx0 : Int32.toInt p2 % 21 = 0) (hpost : ∀ (m_aside' : Nat → Int32), (∀ k : Nat, k = 17 → -1 ≤ Int32.toInt (m_aside' k) ∧ Int32.toInt (m_aside' k) ≤ SB) → (∀ k : Nat, k = 19 → 0 ≤ Int32.toInt (m_aside' k) ∧ Int32.toInt (m_aside' k) ≤ 9) → post m_aside') : wp_X10_lay_b2 post p2 rD uZ := by
  have l0 := li_0
  exact ⟨23, tb_X10_lay_b2_2 rD e0_m_now e1_m_now hc0 hpost _ p2 0 uZ h_p2 (by omega) e0_m_aside e1_m_aside (by omega) (by omega)⟩
set_option maxHeartbeats 8000000 in
set_option maxRecDepth 200000 in
theorem ts_X10_act_109 {post : Int32 → Nat → Int32 → Int32 → Int32 → Int32 → Int32 → Int32 → Int32 → Int32 → Int32 → Int32 → (Nat → Int32) → Prop} {SB : Int} (bW aG bU : Int32) (m_x jA pY rW oY pR pX rG rQ : Nat → Int32) (h_m_fruits : 0 ≤ Int32.toInt bW ∧ Int32.toInt bW ≤ 16) (h_m_standings : 0 ≤ Int32.toInt aG ∧ Int32.toInt aG ≤ 8) (h_m_ruleSize : 0 ≤ Int32.toInt bU ∧ Int32.toInt bU ≤ 40) (h_m_x : ∀ k : Nat, 0 ≤ Int32.toInt (m_x k) ∧ Int32.toInt (m_x k) ≤ 99) (h_m_height : ∀ k : Nat, 0 ≤ Int32.toInt (jA k) ∧ Int32.toInt (jA k) ≤ 99) (h_m_worth : ∀ k : Nat, 0 ≤ Int32.toInt (pY k) ∧ Int32.toInt (pY k) ≤ 9) (h_m_ripe : ∀ k : Nat, 0 ≤ Int32.toInt (rW k) ∧ Int32.toInt (rW k) ≤ 9) (h_m_foot : ∀ k : Nat, 0 ≤ Int32.toInt (oY k) ∧ Int32.toInt (oY k) ≤ 99) (h_m_fork : ∀ k : Nat, 0 ≤ Int32.toInt (pR k) ∧ Int32.toInt (pR k) ≤ 99) (e0_m_told : ∀ k : Nat, k = 4 → 1 ≤ Int32.toInt (pX k) ∧ Int32.toInt (pX k) ≤ 30) (e1_m_told : ∀ k : Nat, k = 3 → 0 ≤ Int32.toInt (pX k) ∧ Int32.toInt (pX k) ≤ 9) (h_m_text : ∀ k : Nat, -128 ≤ Int32.toInt (rG k) ∧ Int32.toInt (rG k) ≤ 127) (h_m_rule : ∀ k : Nat, -128 ≤ Int32.toInt (rQ k) ∧ Int32.toInt (rQ k) ≤ 127) (hc0 : -1 ≤ SB ∧ SB ≤ 7) (hc1 : (Int32.toInt aG ≤ 0 ∧ SB = 0) ∨ (1 ≤ Int32.toInt aG ∧ SB = Int32.toInt aG - 1)) (hpost : ∀ (r : Int32) (m_read' : Nat) (m_length' : Int32) (m_top' : Int32) (m_at' : Int32) (m_wrong' : Int32) (m_isAsked' : Int32) (m_askedFruit' : Int32) (m_askedStanding' : Int32) (m_askedHook' : Int32) (m_askedApron' : Int32) (m_picked' : Int32) (m_now' : Nat → Int32), (0 ≤ Int32.toInt r ∧ Int32.toInt r ≤ 1) → (m_read' = 0 ∨ m_read' = 1 ∨ m_read' = 2) → (0 ≤ Int32.toInt m_length' ∧ Int32.toInt m_length' ≤ 80) → (0 ≤ Int32.toInt m_top' ∧ Int32.toInt m_top' ≤ 80) → (0 ≤ Int32.toInt m_at' ∧ Int32.toInt m_at' ≤ 80) → (-1 ≤ Int32.toInt m_wrong' ∧ Int32.toInt m_wrong' ≤ 80) → (0 ≤ Int32.toInt m_isAsked' ∧ Int32.toInt m_isAsked' ≤ 0) → (0 ≤ Int32.toInt m_askedFruit' ∧ Int32.toInt m_askedFruit' ≤ 15) → (0 ≤ Int32.toInt m_askedStanding' ∧ Int32.toInt m_askedStanding' ≤ 7) → (0 ≤ Int32.toInt m_askedHook' ∧ Int32.toInt m_askedHook' ≤ 1) → (0 ≤ Int32.toInt m_askedApron' ∧ Int32.toInt m_askedApron' ≤ 63) → (∀ k : Nat, k = 17 → -1 ≤ Int32.toInt (m_now' k) ∧ Int32.toInt (m_now' k) ≤ SB) → (∀ k : Nat, k = 19 → 0 ≤ Int32.toInt (m_now' k) ∧ Int32.toInt (m_now' k) ≤ 9) → post r m_read' m_length' m_top' m_at' m_wrong' m_isAsked' m_askedFruit' m_askedStanding' m_askedHook' m_askedApron' m_picked' m_now') (x2 k0 : Int32) (jY : Nat) (m_length qG uW eY dN aR aE bJ aW gJ : Int32) (rD : Nat → Int32) (h_x2 : -1 ≤ Int32.toInt x2 ∧ Int32.toInt x2 ≤ 255) (h_k0 : 0 ≤ Int32.toInt k0 ∧ Int32.toInt k0 ≤ 1) (h_m_read : jY = 0 ∨ jY = 1 ∨ jY = 2) (h_m_length : 0 ≤ Int32.toInt m_length ∧ Int32.toInt m_length ≤ 80) (h_m_top : 0 ≤ Int32.toInt qG ∧ Int32.toInt qG ≤ 80) (h_m_at : 0 ≤ Int32.toInt uW ∧ Int32.toInt uW ≤ 80) (h_m_wrong : -1 ≤ Int32.toInt eY ∧ Int32.toInt eY ≤ 80) (h_m_isAsked : 0 ≤ Int32.toInt dN ∧ Int32.toInt dN ≤ 0) (h_m_askedFruit : 0 ≤ Int32.toInt aR ∧ Int32.toInt aR ≤ 15) (h_m_askedStanding : 0 ≤ Int32.toInt aE ∧ Int32.toInt aE ≤ 7) (h_m_askedHook : 0 ≤ Int32.toInt bJ ∧ Int32.toInt bJ ≤ 1) (h_m_askedApron : 0 ≤ Int32.toInt aW ∧ Int32.toInt aW ≤ 63) (e0_m_now : ∀ k : Nat, k = 17 → -1 ≤ Int32.toInt (rD k) ∧ Int32.toInt (rD k) ≤ SB) (e1_m_now : ∀ k : Nat, k = 19 → 0 ≤ Int32.toInt (rD k) ∧ Int32.toInt (rD k) ≤ 9) : ws_X10_act_109 post bW aG bU m_x jA pY rW oY pR pX rG rQ x2 k0 jY m_length qG uW eY dN aR aE bJ aW gJ rD := by
  have l0 := li_m1
  have l1 := li_0
  have l2 := li_1
  have l3 := li_1431655765
  have l4 := li_16
  have l5 := li_17
  have l6 := li_18
  have l7 := li_19
  have l8 := li_2
  have l9 := li_20
  have l10 := li_252645135
  have l11 := li_4
  have l12 := li_63
  have l13 := li_858993459
  have l14 := li_9999
  intro v1 ev1
  have f2 : Int32.toInt (bW - 1) = Int32.toInt bW - Int32.toInt (1 : Int32) := ta_sub _ _ (by omega)
  rw [← ev1] at f2
  refine And.intro (fun c3 => ?_) (fun c3 => ?_)
  · skip
    have c3 := (fa_lt _ _).mp c3
    refine And.intro (t_bool (by omega)) ?_
    refine And.intro (fun _ => ?_) (fun h9 => absurd h9 (by decide))
    refine And.intro (fun h9 => absurd h9 (by decide)) (fun _ => ?_)
    exact hpost _ _ _ _ _ _ _ _ _ _ _ _ _ (by omega) h_m_read h_m_length h_m_top h_m_at h_m_wrong h_m_isAsked h_m_askedFruit h_m_askedStanding h_m_askedHook h_m_askedApron e0_m_now e1_m_now
  · skip
    have c3 := mt (fa_lt _ _).mpr c3
    refine And.intro (fun c4 => ?_) (fun c4 => ?_)
    · skip
      have c4 := (fa_lt _ _).mp c4
      refine And.intro (t_bool (by omega)) ?_
      refine And.intro (fun _ => ?_) (fun h9 => absurd h9 (by decide))
      refine And.intro (fun h9 => absurd h9 (by decide)) (fun _ => ?_)
      exact hpost _ _ _ _ _ _ _ _ _ _ _ _ _ (by omega) h_m_read h_m_length h_m_top h_m_at h_m_wrong h_m_isAsked h_m_askedFruit h_m_askedStanding h_m_askedHook h_m_askedApron e0_m_now e1_m_now
    · skip
      have c4 := mt (fa_lt _ _).mpr c4
      refine And.intro (t_bool (by omega)) ?_
      refine And.intro (fun h9 => absurd h9 (by decide)) (fun _ => ?_)
      refine And.intro (fun c5 => ?_) (fun c5 => ?_)
      · skip
        have c5 := (fa_lt _ _).mp c5
        exfalso; omega
      · skip
        have c5 := mt (fa_lt _ _).mpr c5
        refine And.intro (fun c6 => ?_) (fun c6 => ?_)
        · skip
          have c6 := (fa_lt _ _).mp c6
          exfalso; omega
        · skip
          have c6 := mt (fa_lt _ _).mpr c6
          refine And.intro (fun _ => ?_) (fun h9 => absurd h9 (by decide))
          refine And.intro (t_in (by omega)) ?_
          refine And.intro (fun c7 => ?_) (fun c7 => ?_)
          · skip
            have c7 := (fa_eq _ _).mp c7
            refine And.intro (t_in (by omega)) ?_
            intro v9 ev9
            have f10 := h_m_ripe x2.toNatClampNeg
            have hv9 := congrArg Int32.toInt ev9
            have q11 := e1_m_now (19 : Int32).toNatClampNeg (by have e9 : (19 : Int32).toNatClampNeg = (Int32.toInt (19 : Int32)).toNat := rfl; omega)
            refine And.intro (fun c12 => ?_) (fun c12 => ?_)
            · skip
              have c12 := (fa_le _ _).mp c12
              have q14 := e0_m_now (17 : Int32).toNatClampNeg (by have e9 : (17 : Int32).toNatClampNeg = (Int32.toInt (17 : Int32)).toNat := rfl; omega)
              intro v15 ev15
              have hv15 := congrArg Int32.toInt ev15
              refine And.intro (fun c17 => ?_) (fun c17 => ?_)
              · skip
                have c17 := (fa_eq _ _).mp c17
                refine And.intro (fun h9 => absurd h9 (by decide)) (fun _ => ?_)
                exact hpost _ _ _ _ _ _ _ _ _ _ _ _ _ (by omega) h_m_read h_m_length h_m_top h_m_at h_m_wrong h_m_isAsked h_m_askedFruit h_m_askedStanding h_m_askedHook h_m_askedApron e0_m_now e1_m_now
              · skip
                have c17 := mt (fa_eq _ _).mpr c17
                have q18 := e0_m_now (17 : Int32).toNatClampNeg (by have e9 : (17 : Int32).toNatClampNeg = (Int32.toInt (17 : Int32)).toNat := rfl; omega)
                intro v19 ev19
                have hv19 := congrArg Int32.toInt ev19
                intro v20 ev20
                have hv20 := congrArg Int32.toInt ev20
                intro v22 ev22
                have hv22 := congrArg Int32.toInt ev22
                intro v24 ev24
                have hv24 := congrArg Int32.toInt ev24
                refine And.intro (t_in (by omega)) ?_
                intro v26 ev26
                have f27 := h_m_x x2.toNatClampNeg
                have hv26 := congrArg Int32.toInt ev26
                refine And.intro (t_in (by omega)) ?_
                intro v28 ev28
                have f30 := h_m_foot v19.toNatClampNeg
                have f29 : Int32.toInt (v26 - (oY v19.toNatClampNeg)) = Int32.toInt v26 - Int32.toInt (oY v19.toNatClampNeg) := ta_sub _ _ (by omega)
                rw [← ev28] at f29
                intro v31 ev31
                have f32 := ti_abs v28 (by omega)
                have hv31 := congrArg Int32.toInt ev31
                refine And.intro (t_in (by omega)) ?_
                intro v33 ev33
                have hv33 := congrArg Int32.toInt ev33
                refine And.intro (t_in (by omega)) ?_
                intro v34 ev34
                have f35 : Int32.toInt (v33 - (oY v19.toNatClampNeg)) = Int32.toInt v33 - Int32.toInt (oY v19.toNatClampNeg) := ta_sub _ _ (by omega)
                rw [← ev34] at f35
                intro v36 ev36
                have f37 := ti_abs v34 (by omega)
                have hv36 := congrArg Int32.toInt ev36
                intro v38 ev38
                have hv38 := congrArg Int32.toInt ev38
                refine And.intro (t_in (by omega)) ?_
                intro v40 ev40
                have f41 := h_m_height x2.toNatClampNeg
                have hv40 := congrArg Int32.toInt ev40
                refine And.intro (t_in (by omega)) ?_
                intro v42 ev42
                have f44 := h_m_fork v19.toNatClampNeg
                have f43 : Int32.toInt (v40 - (pR v19.toNatClampNeg)) = Int32.toInt v40 - Int32.toInt (pR v19.toNatClampNeg) := ta_sub _ _ (by omega)
                rw [← ev42] at f43
                intro v45 ev45
                have f46 := ti_max (0 : Int32) v42
                have hv45 := congrArg Int32.toInt ev45
                refine And.intro (t_in (by omega)) ?_
                intro v47 ev47
                have hv47 := congrArg Int32.toInt ev47
                refine And.intro (t_in (by omega)) ?_
                intro v48 ev48
                have f49 : Int32.toInt (v47 - (pR v19.toNatClampNeg)) = Int32.toInt v47 - Int32.toInt (pR v19.toNatClampNeg) := ta_sub _ _ (by omega)
                rw [← ev48] at f49
                intro v50 ev50
                have f51 := ti_max (0 : Int32) v48
                have hv50 := congrArg Int32.toInt ev50
                intro v52 ev52
                have hv52 := congrArg Int32.toInt ev52
                have f55 := tp_r v52
                refine And.intro (fun c54 => ?_) (fun c54 => ?_)
                · skip
                  have c54 := (fa_lt _ _).mp c54
                  refine And.intro (fun h9 => absurd h9 (by decide)) (fun _ => ?_)
                  refine And.intro (fun h9 => absurd h9 (by decide)) (fun _ => ?_)
                  exact hpost _ _ _ _ _ _ _ _ _ _ _ _ _ (by omega) h_m_read h_m_length h_m_top h_m_at h_m_wrong h_m_isAsked h_m_askedFruit h_m_askedStanding h_m_askedHook h_m_askedApron e0_m_now e1_m_now
                · skip
                  have c54 := mt (fa_lt _ _).mpr c54
                  refine And.intro (fun _ => ?_) (fun h9 => absurd h9 (by decide))
                  refine t_X10_which (by omega) h_m_fruits e0_m_now e1_m_now (by omega) (fun r57 h_r57 ox58 => ?_)
                  intro v59 ev59
                  intro v60 ev60
                  have f62 := ti_andr v59 1431655765 (by omega)
                  have f61 : Int32.toInt (r57 - (v59 &&& 1431655765)) = Int32.toInt r57 - Int32.toInt (v59 &&& 1431655765) := ta_sub _ _ (by omega)
                  rw [← ev60] at f61
                  intro v63 ev63
                  have f64 := ti_andr v60 858993459 (by omega)
                  have hv63 := congrArg Int32.toInt ev63
                  intro v65 ev65
                  intro v66 ev66
                  have f68 := ti_andr v65 858993459 (by omega)
                  have f67 : Int32.toInt (v63 + (v65 &&& 858993459)) = Int32.toInt v63 + Int32.toInt (v65 &&& 858993459) := ta_add _ _ (by omega)
                  rw [← ev66] at f67
                  intro v69 ev69
                  have hv69 := congrArg Int32.toInt ev69
                  intro v71 ev71
                  have f72 := ti_andr v69 252645135 (by omega)
                  have hv71 := congrArg Int32.toInt ev71
                  intro v73 ev73
                  have hv73 := congrArg Int32.toInt ev73
                  intro v75 ev75
                  have hv75 := congrArg Int32.toInt ev75
                  have q77 := e0_m_told (4 : Int32).toNatClampNeg (by have e9 : (4 : Int32).toNatClampNeg = (Int32.toInt (4 : Int32)).toNat := rfl; omega)
                  have f79 := ti_andr v75 63 (by omega)
                  refine And.intro (fun c78 => ?_) (fun c78 => ?_)
                  · skip
                    have c78 := (fa_lt _ _).mp c78
                    refine And.intro (fun _ => ?_) (fun h9 => absurd h9 (by decide))
                    have q81 := e0_m_now (17 : Int32).toNatClampNeg (by have e9 : (17 : Int32).toNatClampNeg = (Int32.toInt (17 : Int32)).toNat := rfl; omega)
                    intro v82 ev82
                    have hv82 := congrArg Int32.toInt ev82
                    refine t_X10_which (by omega) h_m_fruits e0_m_now e1_m_now (by omega) (fun r83 h_r83 ox84 => ?_)
                    intro v85 ev85
                    intro v86 ev86
                    have f88 := ti_andr v85 1431655765 (by omega)
                    have f87 : Int32.toInt (r83 - (v85 &&& 1431655765)) = Int32.toInt r83 - Int32.toInt (v85 &&& 1431655765) := ta_sub _ _ (by omega)
                    rw [← ev86] at f87
                    intro v89 ev89
                    have f90 := ti_andr v86 858993459 (by omega)
                    have hv89 := congrArg Int32.toInt ev89
                    intro v91 ev91
                    intro v92 ev92
                    have f94 := ti_andr v91 858993459 (by omega)
                    have f93 : Int32.toInt (v89 + (v91 &&& 858993459)) = Int32.toInt v89 + Int32.toInt (v91 &&& 858993459) := ta_add _ _ (by omega)
                    rw [← ev92] at f93
                    intro v95 ev95
                    have hv95 := congrArg Int32.toInt ev95
                    intro v97 ev97
                    have f98 := ti_andr v95 252645135 (by omega)
                    have hv97 := congrArg Int32.toInt ev97
                    intro v99 ev99
                    have hv99 := congrArg Int32.toInt ev99
                    intro v101 ev101
                    have hv101 := congrArg Int32.toInt ev101
                    have f114 := ti_andr v101 63 (by omega)
                    refine t_X10_secondsOf (by omega) (by omega) h_k0 (by omega) h_m_read h_m_length h_m_top h_m_at h_m_wrong h_m_ruleSize h_m_isAsked h_m_askedFruit h_m_askedStanding h_m_askedHook h_m_askedApron h_m_x h_m_height h_m_worth h_m_foot h_m_fork h_m_text h_m_rule (fun r113 m_read_103 m_length_104 m_top_105 m_at_106 m_wrong_107 m_isAsked_108 m_askedFruit_109 m_askedStanding_110 m_askedHook_111 m_askedApron_112 h_r113 h_m_read_103 h_m_length_104 h_m_top_105 h_m_at_106 h_m_wrong_107 h_m_isAsked_108 h_m_askedFruit_109 h_m_askedStanding_110 h_m_askedHook_111 h_m_askedApron_112 => ?_)
                    intro v115 ev115
                    have hv115 := congrArg Int32.toInt ev115
                    refine t_X10_which (by omega) h_m_fruits e0_m_now e1_m_now (by omega) (fun r117 h_r117 ox118 => ?_)
                    refine t_X10_below (by omega) h_r117 h_m_fruits h_m_x h_m_height (fun r119 h_r119 => ?_)
                    intro v120 ev120
                    have f122 := tp_r v120
                    have e121 : ∀ k : Nat, k = 17 → -1 ≤ Int32.toInt ((upd rD (16 : Int32).toNatClampNeg v120) k) ∧ Int32.toInt ((upd rD (16 : Int32).toNatClampNeg v120) k) ≤ SB := t_updc (C := fun k => k = 17) e0_m_now (fun hk => by have e9 : (16 : Int32).toNatClampNeg = (Int32.toInt (16 : Int32)).toNat := rfl; have hk : (16 : Int32).toNatClampNeg = 17 := hk; omega)
                    have e123 : ∀ k : Nat, k = 19 → 0 ≤ Int32.toInt ((upd rD (16 : Int32).toNatClampNeg v120) k) ∧ Int32.toInt ((upd rD (16 : Int32).toNatClampNeg v120) k) ≤ 9 := t_updc (C := fun k => k = 19) e1_m_now (fun hk => by have e9 : (16 : Int32).toNatClampNeg = (Int32.toInt (16 : Int32)).toNat := rfl; have hk : (16 : Int32).toNatClampNeg = 19 := hk; omega)
                    refine And.intro (t_in (by omega)) ?_
                    have e124 : ∀ k : Nat, k = 17 → -1 ≤ Int32.toInt ((upd (upd rD (16 : Int32).toNatClampNeg v120) x2.toNatClampNeg 1) k) ∧ Int32.toInt ((upd (upd rD (16 : Int32).toNatClampNeg v120) x2.toNatClampNeg 1) k) ≤ SB := t_updc (C := fun k => k = 17) e121 (fun hk => by have e9 : x2.toNatClampNeg = (Int32.toInt x2).toNat := rfl; have hk : x2.toNatClampNeg = 17 := hk; omega)
                    have e125 : ∀ k : Nat, k = 19 → 0 ≤ Int32.toInt ((upd (upd rD (16 : Int32).toNatClampNeg v120) x2.toNatClampNeg 1) k) ∧ Int32.toInt ((upd (upd rD (16 : Int32).toNatClampNeg v120) x2.toNatClampNeg 1) k) ≤ 9 := t_updc (C := fun k => k = 19) e123 (fun hk => by have e9 : x2.toNatClampNeg = (Int32.toInt x2).toNat := rfl; have hk : x2.toNatClampNeg = 19 := hk; omega)
                    intro v126 ev126
                    have hv126 := congrArg Int32.toInt ev126
                    intro v128 ev128
                    have hv128 := congrArg Int32.toInt ev128
                    intro v130 ev130
                    have f131 := tp_r (if v128 < 9999 then v128 else 9999)
                    have f133 := tp_r v128
                    have f132 := ti_min (9999 : Int32) v128
                    have hv130 := congrArg Int32.toInt ev130
                    have f135 := tp_r v130
                    have e134 : ∀ k : Nat, k = 17 → -1 ≤ Int32.toInt ((upd (upd (upd rD (16 : Int32).toNatClampNeg v120) x2.toNatClampNeg 1) (20 : Int32).toNatClampNeg v130) k) ∧ Int32.toInt ((upd (upd (upd rD (16 : Int32).toNatClampNeg v120) x2.toNatClampNeg 1) (20 : Int32).toNatClampNeg v130) k) ≤ SB := t_updc (C := fun k => k = 17) e124 (fun hk => by have e9 : (20 : Int32).toNatClampNeg = (Int32.toInt (20 : Int32)).toNat := rfl; have hk : (20 : Int32).toNatClampNeg = 17 := hk; omega)
                    have e136 : ∀ k : Nat, k = 19 → 0 ≤ Int32.toInt ((upd (upd (upd rD (16 : Int32).toNatClampNeg v120) x2.toNatClampNeg 1) (20 : Int32).toNatClampNeg v130) k) ∧ Int32.toInt ((upd (upd (upd rD (16 : Int32).toNatClampNeg v120) x2.toNatClampNeg 1) (20 : Int32).toNatClampNeg v130) k) ≤ 9 := t_updc (C := fun k => k = 19) e125 (fun hk => by have e9 : (20 : Int32).toNatClampNeg = (Int32.toInt (20 : Int32)).toNat := rfl; have hk : (20 : Int32).toNatClampNeg = 19 := hk; omega)
                    intro v137 ev137
                    have hv137 := congrArg Int32.toInt ev137
                    exact hpost _ _ _ _ _ _ _ _ _ _ _ _ _ (by omega) h_m_read_103 h_m_length_104 h_m_top_105 h_m_at_106 h_m_wrong_107 h_m_isAsked_108 h_m_askedFruit_109 h_m_askedStanding_110 h_m_askedHook_111 h_m_askedApron_112 e134 e136
                  · skip
                    have c78 := mt (fa_lt _ _).mpr c78
                    refine And.intro (fun h9 => absurd h9 (by decide)) (fun _ => ?_)
                    exact hpost _ _ _ _ _ _ _ _ _ _ _ _ _ (by omega) h_m_read h_m_length h_m_top h_m_at h_m_wrong h_m_isAsked h_m_askedFruit h_m_askedStanding h_m_askedHook h_m_askedApron e0_m_now e1_m_now
            · skip
              have c12 := mt (fa_le _ _).mpr c12
              refine And.intro (fun h9 => absurd h9 (by decide)) (fun _ => ?_)
              exact hpost _ _ _ _ _ _ _ _ _ _ _ _ _ (by omega) h_m_read h_m_length h_m_top h_m_at h_m_wrong h_m_isAsked h_m_askedFruit h_m_askedStanding h_m_askedHook h_m_askedApron e0_m_now e1_m_now
          · skip
            have c7 := mt (fa_eq _ _).mpr c7
            refine And.intro (fun h9 => absurd h9 (by decide)) (fun _ => ?_)
            exact hpost _ _ _ _ _ _ _ _ _ _ _ _ _ (by omega) h_m_read h_m_length h_m_top h_m_at h_m_wrong h_m_isAsked h_m_askedFruit h_m_askedStanding h_m_askedHook h_m_askedApron e0_m_now e1_m_now
set_option maxHeartbeats 8000000 in
set_option maxRecDepth 200000 in
theorem ts_X10_act_98 {post : Int32 → Nat → Int32 → Int32 → Int32 → Int32 → Int32 → Int32 → Int32 → Int32 → Int32 → Int32 → (Nat → Int32) → Prop} {SB : Int} (bW aG bU : Int32) (m_x jA pY rW oY pR pX rG rQ : Nat → Int32) (h_m_fruits : 0 ≤ Int32.toInt bW ∧ Int32.toInt bW ≤ 16) (h_m_standings : 0 ≤ Int32.toInt aG ∧ Int32.toInt aG ≤ 8) (h_m_ruleSize : 0 ≤ Int32.toInt bU ∧ Int32.toInt bU ≤ 40) (h_m_x : ∀ k : Nat, 0 ≤ Int32.toInt (m_x k) ∧ Int32.toInt (m_x k) ≤ 99) (h_m_height : ∀ k : Nat, 0 ≤ Int32.toInt (jA k) ∧ Int32.toInt (jA k) ≤ 99) (h_m_worth : ∀ k : Nat, 0 ≤ Int32.toInt (pY k) ∧ Int32.toInt (pY k) ≤ 9) (h_m_ripe : ∀ k : Nat, 0 ≤ Int32.toInt (rW k) ∧ Int32.toInt (rW k) ≤ 9) (h_m_foot : ∀ k : Nat, 0 ≤ Int32.toInt (oY k) ∧ Int32.toInt (oY k) ≤ 99) (h_m_fork : ∀ k : Nat, 0 ≤ Int32.toInt (pR k) ∧ Int32.toInt (pR k) ≤ 99) (e0_m_told : ∀ k : Nat, k = 4 → 1 ≤ Int32.toInt (pX k) ∧ Int32.toInt (pX k) ≤ 30) (e1_m_told : ∀ k : Nat, k = 3 → 0 ≤ Int32.toInt (pX k) ∧ Int32.toInt (pX k) ≤ 9) (h_m_text : ∀ k : Nat, -128 ≤ Int32.toInt (rG k) ∧ Int32.toInt (rG k) ≤ 127) (h_m_rule : ∀ k : Nat, -128 ≤ Int32.toInt (rQ k) ∧ Int32.toInt (rQ k) ≤ 127) (hc0 : -1 ≤ SB ∧ SB ≤ 7) (hc1 : (Int32.toInt aG ≤ 0 ∧ SB = 0) ∨ (1 ≤ Int32.toInt aG ∧ SB = Int32.toInt aG - 1)) (hpost : ∀ (r : Int32) (m_read' : Nat) (m_length' : Int32) (m_top' : Int32) (m_at' : Int32) (m_wrong' : Int32) (m_isAsked' : Int32) (m_askedFruit' : Int32) (m_askedStanding' : Int32) (m_askedHook' : Int32) (m_askedApron' : Int32) (m_picked' : Int32) (m_now' : Nat → Int32), (0 ≤ Int32.toInt r ∧ Int32.toInt r ≤ 1) → (m_read' = 0 ∨ m_read' = 1 ∨ m_read' = 2) → (0 ≤ Int32.toInt m_length' ∧ Int32.toInt m_length' ≤ 80) → (0 ≤ Int32.toInt m_top' ∧ Int32.toInt m_top' ≤ 80) → (0 ≤ Int32.toInt m_at' ∧ Int32.toInt m_at' ≤ 80) → (-1 ≤ Int32.toInt m_wrong' ∧ Int32.toInt m_wrong' ≤ 80) → (0 ≤ Int32.toInt m_isAsked' ∧ Int32.toInt m_isAsked' ≤ 0) → (0 ≤ Int32.toInt m_askedFruit' ∧ Int32.toInt m_askedFruit' ≤ 15) → (0 ≤ Int32.toInt m_askedStanding' ∧ Int32.toInt m_askedStanding' ≤ 7) → (0 ≤ Int32.toInt m_askedHook' ∧ Int32.toInt m_askedHook' ≤ 1) → (0 ≤ Int32.toInt m_askedApron' ∧ Int32.toInt m_askedApron' ≤ 63) → (∀ k : Nat, k = 17 → -1 ≤ Int32.toInt (m_now' k) ∧ Int32.toInt (m_now' k) ≤ SB) → (∀ k : Nat, k = 19 → 0 ≤ Int32.toInt (m_now' k) ∧ Int32.toInt (m_now' k) ≤ 9) → post r m_read' m_length' m_top' m_at' m_wrong' m_isAsked' m_askedFruit' m_askedStanding' m_askedHook' m_askedApron' m_picked' m_now') (x1 x2 : Int32) (jY : Nat) (m_length qG uW eY dN aR aE bJ aW gJ : Int32) (rD : Nat → Int32) (h_x1 : 104 ≤ Int32.toInt x1 ∧ Int32.toInt x1 ≤ 112) (h_x2 : -1 ≤ Int32.toInt x2 ∧ Int32.toInt x2 ≤ 255) (h_m_read : jY = 0 ∨ jY = 1 ∨ jY = 2) (h_m_length : 0 ≤ Int32.toInt m_length ∧ Int32.toInt m_length ≤ 80) (h_m_top : 0 ≤ Int32.toInt qG ∧ Int32.toInt qG ≤ 80) (h_m_at : 0 ≤ Int32.toInt uW ∧ Int32.toInt uW ≤ 80) (h_m_wrong : -1 ≤ Int32.toInt eY ∧ Int32.toInt eY ≤ 80) (h_m_isAsked : 0 ≤ Int32.toInt dN ∧ Int32.toInt dN ≤ 0) (h_m_askedFruit : 0 ≤ Int32.toInt aR ∧ Int32.toInt aR ≤ 15) (h_m_askedStanding : 0 ≤ Int32.toInt aE ∧ Int32.toInt aE ≤ 7) (h_m_askedHook : 0 ≤ Int32.toInt bJ ∧ Int32.toInt bJ ≤ 1) (h_m_askedApron : 0 ≤ Int32.toInt aW ∧ Int32.toInt aW ≤ 63) (e0_m_now : ∀ k : Nat, k = 17 → -1 ≤ Int32.toInt (rD k) ∧ Int32.toInt (rD k) ≤ SB) (e1_m_now : ∀ k : Nat, k = 19 → 0 ≤ Int32.toInt (rD k) ∧ Int32.toInt (rD k) ≤ 9) : ws_X10_act_98 post bW aG bU m_x jA pY rW oY pR pX rG rQ x1 x2 jY m_length qG uW eY dN aR aE bJ aW gJ rD := by
  have l0 := li_0
  have l1 := li_1
  have l2 := li_104
  refine And.intro (fun c139 => ?_) (fun c139 => ?_)
  · skip
    have c139 := mt (fa_eq _ _).mpr c139
    have f140 := tp_r gJ
    exact ts_X10_act_109 bW aG bU m_x jA pY rW oY pR pX rG rQ h_m_fruits h_m_standings h_m_ruleSize h_m_x h_m_height h_m_worth h_m_ripe h_m_foot h_m_fork e0_m_told e1_m_told h_m_text h_m_rule hc0 hc1 hpost x2 0 jY m_length qG uW eY dN aR aE bJ aW gJ rD h_x2 (by omega) h_m_read h_m_length h_m_top h_m_at h_m_wrong h_m_isAsked h_m_askedFruit h_m_askedStanding h_m_askedHook h_m_askedApron e0_m_now e1_m_now
  · skip
    have c139 := (fa_eq _ _).mp c139
    have f141 := tp_r gJ
    exact ts_X10_act_109 bW aG bU m_x jA pY rW oY pR pX rG rQ h_m_fruits h_m_standings h_m_ruleSize h_m_x h_m_height h_m_worth h_m_ripe h_m_foot h_m_fork e0_m_told e1_m_told h_m_text h_m_rule hc0 hc1 hpost x2 1 jY m_length qG uW eY dN aR aE bJ aW gJ rD h_x2 (by omega) h_m_read h_m_length h_m_top h_m_at h_m_wrong h_m_isAsked h_m_askedFruit h_m_askedStanding h_m_askedHook h_m_askedApron e0_m_now e1_m_now
set_option maxHeartbeats 8000000 in
set_option maxRecDepth 200000 in
theorem ts_X10_act_193 {post : Int32 → Nat → Int32 → Int32 → Int32 → Int32 → Int32 → Int32 → Int32 → Int32 → Int32 → Int32 → (Nat → Int32) → Prop} {SB : Int} (bW aG bU : Int32) (m_x jA pY rW oY pR pX rG rQ : Nat → Int32) (h_m_fruits : 0 ≤ Int32.toInt bW ∧ Int32.toInt bW ≤ 16) (h_m_standings : 0 ≤ Int32.toInt aG ∧ Int32.toInt aG ≤ 8) (h_m_ruleSize : 0 ≤ Int32.toInt bU ∧ Int32.toInt bU ≤ 40) (h_m_x : ∀ k : Nat, 0 ≤ Int32.toInt (m_x k) ∧ Int32.toInt (m_x k) ≤ 99) (h_m_height : ∀ k : Nat, 0 ≤ Int32.toInt (jA k) ∧ Int32.toInt (jA k) ≤ 99) (h_m_worth : ∀ k : Nat, 0 ≤ Int32.toInt (pY k) ∧ Int32.toInt (pY k) ≤ 9) (h_m_ripe : ∀ k : Nat, 0 ≤ Int32.toInt (rW k) ∧ Int32.toInt (rW k) ≤ 9) (h_m_foot : ∀ k : Nat, 0 ≤ Int32.toInt (oY k) ∧ Int32.toInt (oY k) ≤ 99) (h_m_fork : ∀ k : Nat, 0 ≤ Int32.toInt (pR k) ∧ Int32.toInt (pR k) ≤ 99) (e0_m_told : ∀ k : Nat, k = 4 → 1 ≤ Int32.toInt (pX k) ∧ Int32.toInt (pX k) ≤ 30) (e1_m_told : ∀ k : Nat, k = 3 → 0 ≤ Int32.toInt (pX k) ∧ Int32.toInt (pX k) ≤ 9) (h_m_text : ∀ k : Nat, -128 ≤ Int32.toInt (rG k) ∧ Int32.toInt (rG k) ≤ 127) (h_m_rule : ∀ k : Nat, -128 ≤ Int32.toInt (rQ k) ∧ Int32.toInt (rQ k) ≤ 127) (hc0 : -1 ≤ SB ∧ SB ≤ 7) (hc1 : (Int32.toInt aG ≤ 0 ∧ SB = 0) ∨ (1 ≤ Int32.toInt aG ∧ SB = Int32.toInt aG - 1)) (hpost : ∀ (r : Int32) (m_read' : Nat) (m_length' : Int32) (m_top' : Int32) (m_at' : Int32) (m_wrong' : Int32) (m_isAsked' : Int32) (m_askedFruit' : Int32) (m_askedStanding' : Int32) (m_askedHook' : Int32) (m_askedApron' : Int32) (m_picked' : Int32) (m_now' : Nat → Int32), (0 ≤ Int32.toInt r ∧ Int32.toInt r ≤ 1) → (m_read' = 0 ∨ m_read' = 1 ∨ m_read' = 2) → (0 ≤ Int32.toInt m_length' ∧ Int32.toInt m_length' ≤ 80) → (0 ≤ Int32.toInt m_top' ∧ Int32.toInt m_top' ≤ 80) → (0 ≤ Int32.toInt m_at' ∧ Int32.toInt m_at' ≤ 80) → (-1 ≤ Int32.toInt m_wrong' ∧ Int32.toInt m_wrong' ≤ 80) → (0 ≤ Int32.toInt m_isAsked' ∧ Int32.toInt m_isAsked' ≤ 0) → (0 ≤ Int32.toInt m_askedFruit' ∧ Int32.toInt m_askedFruit' ≤ 15) → (0 ≤ Int32.toInt m_askedStanding' ∧ Int32.toInt m_askedStanding' ≤ 7) → (0 ≤ Int32.toInt m_askedHook' ∧ Int32.toInt m_askedHook' ≤ 1) → (0 ≤ Int32.toInt m_askedApron' ∧ Int32.toInt m_askedApron' ≤ 63) → (∀ k : Nat, k = 17 → -1 ≤ Int32.toInt (m_now' k) ∧ Int32.toInt (m_now' k) ≤ SB) → (∀ k : Nat, k = 19 → 0 ≤ Int32.toInt (m_now' k) ∧ Int32.toInt (m_now' k) ≤ 9) → post r m_read' m_length' m_top' m_at' m_wrong' m_isAsked' m_askedFruit' m_askedStanding' m_askedHook' m_askedApron' m_picked' m_now') (k1 k2 : Int32) (jY : Nat) (m_length qG uW eY dN aR aE bJ aW gJ : Int32) (rD : Nat → Int32) (h_k1 : 18 ≤ Int32.toInt k1 ∧ Int32.toInt k1 ≤ 18) (h_k2 : 0 ≤ Int32.toInt k2 ∧ Int32.toInt k2 ≤ 1) (h_m_read : jY = 0 ∨ jY = 1 ∨ jY = 2) (h_m_length : 0 ≤ Int32.toInt m_length ∧ Int32.toInt m_length ≤ 80) (h_m_top : 0 ≤ Int32.toInt qG ∧ Int32.toInt qG ≤ 80) (h_m_at : 0 ≤ Int32.toInt uW ∧ Int32.toInt uW ≤ 80) (h_m_wrong : -1 ≤ Int32.toInt eY ∧ Int32.toInt eY ≤ 80) (h_m_isAsked : 0 ≤ Int32.toInt dN ∧ Int32.toInt dN ≤ 0) (h_m_askedFruit : 0 ≤ Int32.toInt aR ∧ Int32.toInt aR ≤ 15) (h_m_askedStanding : 0 ≤ Int32.toInt aE ∧ Int32.toInt aE ≤ 7) (h_m_askedHook : 0 ≤ Int32.toInt bJ ∧ Int32.toInt bJ ≤ 1) (h_m_askedApron : 0 ≤ Int32.toInt aW ∧ Int32.toInt aW ≤ 63) (e0_m_now : ∀ k : Nat, k = 17 → -1 ≤ Int32.toInt (rD k) ∧ Int32.toInt (rD k) ≤ SB) (e1_m_now : ∀ k : Nat, k = 19 → 0 ≤ Int32.toInt (rD k) ∧ Int32.toInt (rD k) ≤ 9) : ws_X10_act_193 post bW aG bU m_x jA pY rW oY pR pX rG rQ k1 k2 jY m_length qG uW eY dN aR aE bJ aW gJ rD := by
  have l0 := li_1
  refine And.intro (t_in (by omega)) ?_
  have e142 : ∀ k : Nat, k = 17 → -1 ≤ Int32.toInt ((upd rD k1.toNatClampNeg k2) k) ∧ Int32.toInt ((upd rD k1.toNatClampNeg k2) k) ≤ SB := t_updc (C := fun k => k = 17) e0_m_now (fun hk => by have e9 : k1.toNatClampNeg = (Int32.toInt k1).toNat := rfl; have hk : k1.toNatClampNeg = 17 := hk; omega)
  have e143 : ∀ k : Nat, k = 19 → 0 ≤ Int32.toInt ((upd rD k1.toNatClampNeg k2) k) ∧ Int32.toInt ((upd rD k1.toNatClampNeg k2) k) ≤ 9 := t_updc (C := fun k => k = 19) e1_m_now (fun hk => by have e9 : k1.toNatClampNeg = (Int32.toInt k1).toNat := rfl; have hk : k1.toNatClampNeg = 19 := hk; omega)
  exact hpost _ _ _ _ _ _ _ _ _ _ _ _ _ (by omega) h_m_read h_m_length h_m_top h_m_at h_m_wrong h_m_isAsked h_m_askedFruit h_m_askedStanding h_m_askedHook h_m_askedApron e142 e143
set_option maxHeartbeats 8000000 in
set_option maxRecDepth 200000 in
theorem ts_X10_act_176 {post : Int32 → Nat → Int32 → Int32 → Int32 → Int32 → Int32 → Int32 → Int32 → Int32 → Int32 → Int32 → (Nat → Int32) → Prop} {SB : Int} (bW aG bU : Int32) (m_x jA pY rW oY pR pX rG rQ : Nat → Int32) (h_m_fruits : 0 ≤ Int32.toInt bW ∧ Int32.toInt bW ≤ 16) (h_m_standings : 0 ≤ Int32.toInt aG ∧ Int32.toInt aG ≤ 8) (h_m_ruleSize : 0 ≤ Int32.toInt bU ∧ Int32.toInt bU ≤ 40) (h_m_x : ∀ k : Nat, 0 ≤ Int32.toInt (m_x k) ∧ Int32.toInt (m_x k) ≤ 99) (h_m_height : ∀ k : Nat, 0 ≤ Int32.toInt (jA k) ∧ Int32.toInt (jA k) ≤ 99) (h_m_worth : ∀ k : Nat, 0 ≤ Int32.toInt (pY k) ∧ Int32.toInt (pY k) ≤ 9) (h_m_ripe : ∀ k : Nat, 0 ≤ Int32.toInt (rW k) ∧ Int32.toInt (rW k) ≤ 9) (h_m_foot : ∀ k : Nat, 0 ≤ Int32.toInt (oY k) ∧ Int32.toInt (oY k) ≤ 99) (h_m_fork : ∀ k : Nat, 0 ≤ Int32.toInt (pR k) ∧ Int32.toInt (pR k) ≤ 99) (e0_m_told : ∀ k : Nat, k = 4 → 1 ≤ Int32.toInt (pX k) ∧ Int32.toInt (pX k) ≤ 30) (e1_m_told : ∀ k : Nat, k = 3 → 0 ≤ Int32.toInt (pX k) ∧ Int32.toInt (pX k) ≤ 9) (h_m_text : ∀ k : Nat, -128 ≤ Int32.toInt (rG k) ∧ Int32.toInt (rG k) ≤ 127) (h_m_rule : ∀ k : Nat, -128 ≤ Int32.toInt (rQ k) ∧ Int32.toInt (rQ k) ≤ 127) (hc0 : -1 ≤ SB ∧ SB ≤ 7) (hc1 : (Int32.toInt aG ≤ 0 ∧ SB = 0) ∨ (1 ≤ Int32.toInt aG ∧ SB = Int32.toInt aG - 1)) (hpost : ∀ (r : Int32) (m_read' : Nat) (m_length' : Int32) (m_top' : Int32) (m_at' : Int32) (m_wrong' : Int32) (m_isAsked' : Int32) (m_askedFruit' : Int32) (m_askedStanding' : Int32) (m_askedHook' : Int32) (m_askedApron' : Int32) (m_picked' : Int32) (m_now' : Nat → Int32), (0 ≤ Int32.toInt r ∧ Int32.toInt r ≤ 1) → (m_read' = 0 ∨ m_read' = 1 ∨ m_read' = 2) → (0 ≤ Int32.toInt m_length' ∧ Int32.toInt m_length' ≤ 80) → (0 ≤ Int32.toInt m_top' ∧ Int32.toInt m_top' ≤ 80) → (0 ≤ Int32.toInt m_at' ∧ Int32.toInt m_at' ≤ 80) → (-1 ≤ Int32.toInt m_wrong' ∧ Int32.toInt m_wrong' ≤ 80) → (0 ≤ Int32.toInt m_isAsked' ∧ Int32.toInt m_isAsked' ≤ 0) → (0 ≤ Int32.toInt m_askedFruit' ∧ Int32.toInt m_askedFruit' ≤ 15) → (0 ≤ Int32.toInt m_askedStanding' ∧ Int32.toInt m_askedStanding' ≤ 7) → (0 ≤ Int32.toInt m_askedHook' ∧ Int32.toInt m_askedHook' ≤ 1) → (0 ≤ Int32.toInt m_askedApron' ∧ Int32.toInt m_askedApron' ≤ 63) → (∀ k : Nat, k = 17 → -1 ≤ Int32.toInt (m_now' k) ∧ Int32.toInt (m_now' k) ≤ SB) → (∀ k : Nat, k = 19 → 0 ≤ Int32.toInt (m_now' k) ∧ Int32.toInt (m_now' k) ≤ 9) → post r m_read' m_length' m_top' m_at' m_wrong' m_isAsked' m_askedFruit' m_askedStanding' m_askedHook' m_askedApron' m_picked' m_now') (x1 : Int32) (jY : Nat) (m_length qG uW eY dN aR aE bJ aW gJ : Int32) (rD : Nat → Int32) (h_x1 : 97 ≤ Int32.toInt x1 ∧ Int32.toInt x1 ≤ 111) (h_m_read : jY = 0 ∨ jY = 1 ∨ jY = 2) (h_m_length : 0 ≤ Int32.toInt m_length ∧ Int32.toInt m_length ≤ 80) (h_m_top : 0 ≤ Int32.toInt qG ∧ Int32.toInt qG ≤ 80) (h_m_at : 0 ≤ Int32.toInt uW ∧ Int32.toInt uW ≤ 80) (h_m_wrong : -1 ≤ Int32.toInt eY ∧ Int32.toInt eY ≤ 80) (h_m_isAsked : 0 ≤ Int32.toInt dN ∧ Int32.toInt dN ≤ 0) (h_m_askedFruit : 0 ≤ Int32.toInt aR ∧ Int32.toInt aR ≤ 15) (h_m_askedStanding : 0 ≤ Int32.toInt aE ∧ Int32.toInt aE ≤ 7) (h_m_askedHook : 0 ≤ Int32.toInt bJ ∧ Int32.toInt bJ ≤ 1) (h_m_askedApron : 0 ≤ Int32.toInt aW ∧ Int32.toInt aW ≤ 63) (e0_m_now : ∀ k : Nat, k = 17 → -1 ≤ Int32.toInt (rD k) ∧ Int32.toInt (rD k) ≤ SB) (e1_m_now : ∀ k : Nat, k = 19 → 0 ≤ Int32.toInt (rD k) ∧ Int32.toInt (rD k) ≤ 9) : ws_X10_act_176 post bW aG bU m_x jA pY rW oY pR pX rG rQ x1 jY m_length qG uW eY dN aR aE bJ aW gJ rD := by
  have l0 := li_0
  have l1 := li_1
  have l2 := li_18
  have l3 := li_97
  refine And.intro (fun c144 => ?_) (fun c144 => ?_)
  · skip
    have c144 := mt (fa_eq _ _).mpr c144
    have f145 := tp_r gJ
    exact ts_X10_act_193 bW aG bU m_x jA pY rW oY pR pX rG rQ h_m_fruits h_m_standings h_m_ruleSize h_m_x h_m_height h_m_worth h_m_ripe h_m_foot h_m_fork e0_m_told e1_m_told h_m_text h_m_rule hc0 hc1 hpost 18 0 jY m_length qG uW eY dN aR aE bJ aW gJ rD (by omega) (by omega) h_m_read h_m_length h_m_top h_m_at h_m_wrong h_m_isAsked h_m_askedFruit h_m_askedStanding h_m_askedHook h_m_askedApron e0_m_now e1_m_now
  · skip
    have c144 := (fa_eq _ _).mp c144
    have f146 := tp_r gJ
    exact ts_X10_act_193 bW aG bU m_x jA pY rW oY pR pX rG rQ h_m_fruits h_m_standings h_m_ruleSize h_m_x h_m_height h_m_worth h_m_ripe h_m_foot h_m_fork e0_m_told e1_m_told h_m_text h_m_rule hc0 hc1 hpost 18 1 jY m_length qG uW eY dN aR aE bJ aW gJ rD (by omega) (by omega) h_m_read h_m_length h_m_top h_m_at h_m_wrong h_m_isAsked h_m_askedFruit h_m_askedStanding h_m_askedHook h_m_askedApron e0_m_now e1_m_now
set_option maxHeartbeats 8000000 in
set_option maxRecDepth 200000 in
theorem ts_X10_act_196 {post : Int32 → Nat → Int32 → Int32 → Int32 → Int32 → Int32 → Int32 → Int32 → Int32 → Int32 → Int32 → (Nat → Int32) → Prop} {SB : Int} (bW aG bU : Int32) (m_x jA pY rW oY pR pX rG rQ : Nat → Int32) (h_m_fruits : 0 ≤ Int32.toInt bW ∧ Int32.toInt bW ≤ 16) (h_m_standings : 0 ≤ Int32.toInt aG ∧ Int32.toInt aG ≤ 8) (h_m_ruleSize : 0 ≤ Int32.toInt bU ∧ Int32.toInt bU ≤ 40) (h_m_x : ∀ k : Nat, 0 ≤ Int32.toInt (m_x k) ∧ Int32.toInt (m_x k) ≤ 99) (h_m_height : ∀ k : Nat, 0 ≤ Int32.toInt (jA k) ∧ Int32.toInt (jA k) ≤ 99) (h_m_worth : ∀ k : Nat, 0 ≤ Int32.toInt (pY k) ∧ Int32.toInt (pY k) ≤ 9) (h_m_ripe : ∀ k : Nat, 0 ≤ Int32.toInt (rW k) ∧ Int32.toInt (rW k) ≤ 9) (h_m_foot : ∀ k : Nat, 0 ≤ Int32.toInt (oY k) ∧ Int32.toInt (oY k) ≤ 99) (h_m_fork : ∀ k : Nat, 0 ≤ Int32.toInt (pR k) ∧ Int32.toInt (pR k) ≤ 99) (e0_m_told : ∀ k : Nat, k = 4 → 1 ≤ Int32.toInt (pX k) ∧ Int32.toInt (pX k) ≤ 30) (e1_m_told : ∀ k : Nat, k = 3 → 0 ≤ Int32.toInt (pX k) ∧ Int32.toInt (pX k) ≤ 9) (h_m_text : ∀ k : Nat, -128 ≤ Int32.toInt (rG k) ∧ Int32.toInt (rG k) ≤ 127) (h_m_rule : ∀ k : Nat, -128 ≤ Int32.toInt (rQ k) ∧ Int32.toInt (rQ k) ≤ 127) (hc0 : -1 ≤ SB ∧ SB ≤ 7) (hc1 : (Int32.toInt aG ≤ 0 ∧ SB = 0) ∨ (1 ≤ Int32.toInt aG ∧ SB = Int32.toInt aG - 1)) (hpost : ∀ (r : Int32) (m_read' : Nat) (m_length' : Int32) (m_top' : Int32) (m_at' : Int32) (m_wrong' : Int32) (m_isAsked' : Int32) (m_askedFruit' : Int32) (m_askedStanding' : Int32) (m_askedHook' : Int32) (m_askedApron' : Int32) (m_picked' : Int32) (m_now' : Nat → Int32), (0 ≤ Int32.toInt r ∧ Int32.toInt r ≤ 1) → (m_read' = 0 ∨ m_read' = 1 ∨ m_read' = 2) → (0 ≤ Int32.toInt m_length' ∧ Int32.toInt m_length' ≤ 80) → (0 ≤ Int32.toInt m_top' ∧ Int32.toInt m_top' ≤ 80) → (0 ≤ Int32.toInt m_at' ∧ Int32.toInt m_at' ≤ 80) → (-1 ≤ Int32.toInt m_wrong' ∧ Int32.toInt m_wrong' ≤ 80) → (0 ≤ Int32.toInt m_isAsked' ∧ Int32.toInt m_isAsked' ≤ 0) → (0 ≤ Int32.toInt m_askedFruit' ∧ Int32.toInt m_askedFruit' ≤ 15) → (0 ≤ Int32.toInt m_askedStanding' ∧ Int32.toInt m_askedStanding' ≤ 7) → (0 ≤ Int32.toInt m_askedHook' ∧ Int32.toInt m_askedHook' ≤ 1) → (0 ≤ Int32.toInt m_askedApron' ∧ Int32.toInt m_askedApron' ≤ 63) → (∀ k : Nat, k = 17 → -1 ≤ Int32.toInt (m_now' k) ∧ Int32.toInt (m_now' k) ≤ SB) → (∀ k : Nat, k = 19 → 0 ≤ Int32.toInt (m_now' k) ∧ Int32.toInt (m_now' k) ≤ 9) → post r m_read' m_length' m_top' m_at' m_wrong' m_isAsked' m_askedFruit' m_askedStanding' m_askedHook' m_askedApron' m_picked' m_now') (jY : Nat) (m_length qG uW eY dN aR aE bJ aW gJ : Int32) (rD : Nat → Int32) (h_m_read : jY = 0 ∨ jY = 1 ∨ jY = 2) (h_m_length : 0 ≤ Int32.toInt m_length ∧ Int32.toInt m_length ≤ 80) (h_m_top : 0 ≤ Int32.toInt qG ∧ Int32.toInt qG ≤ 80) (h_m_at : 0 ≤ Int32.toInt uW ∧ Int32.toInt uW ≤ 80) (h_m_wrong : -1 ≤ Int32.toInt eY ∧ Int32.toInt eY ≤ 80) (h_m_isAsked : 0 ≤ Int32.toInt dN ∧ Int32.toInt dN ≤ 0) (h_m_askedFruit : 0 ≤ Int32.toInt aR ∧ Int32.toInt aR ≤ 15) (h_m_askedStanding : 0 ≤ Int32.toInt aE ∧ Int32.toInt aE ≤ 7) (h_m_askedHook : 0 ≤ Int32.toInt bJ ∧ Int32.toInt bJ ≤ 1) (h_m_askedApron : 0 ≤ Int32.toInt aW ∧ Int32.toInt aW ≤ 63) (e0_m_now : ∀ k : Nat, k = 17 → -1 ≤ Int32.toInt (rD k) ∧ Int32.toInt (rD k) ≤ SB) (e1_m_now : ∀ k : Nat, k = 19 → 0 ≤ Int32.toInt (rD k) ∧ Int32.toInt (rD k) ≤ 9) : ws_X10_act_196 post bW aG bU m_x jA pY rW oY pR pX rG rQ jY m_length qG uW eY dN aR aE bJ aW gJ rD := by
  have l0 := li_m1
  have l1 := li_0
  have l2 := li_1
  have l3 := li_17
  have l4 := li_19
  have l5 := li_20
  have l6 := li_9
  have q147 := e1_m_now (19 : Int32).toNatClampNeg (by have e9 : (19 : Int32).toNatClampNeg = (Int32.toInt (19 : Int32)).toNat := rfl; omega)
  intro v148 ev148
  have hv148 := congrArg Int32.toInt ev148
  refine And.intro (fun c150 => ?_) (fun c150 => ?_)
  · skip
    have c150 := mt (fa_eq _ _).mpr c150
    refine t_X10_empty h_m_fruits e0_m_now e1_m_now (by omega) (fun r152 aFY e0_m_now_151 e1_m_now_151 ox153 => ?_)
    have e154 : ∀ k : Nat, k = 17 → -1 ≤ Int32.toInt ((upd aFY (17 : Int32).toNatClampNeg (-1)) k) ∧ Int32.toInt ((upd aFY (17 : Int32).toNatClampNeg (-1)) k) ≤ SB := t_updc (C := fun k => k = 17) e0_m_now_151 (fun hk => by have e9 : (17 : Int32).toNatClampNeg = (Int32.toInt (17 : Int32)).toNat := rfl; have hk : (17 : Int32).toNatClampNeg = 17 := hk; omega)
    have e155 : ∀ k : Nat, k = 19 → 0 ≤ Int32.toInt ((upd aFY (17 : Int32).toNatClampNeg (-1)) k) ∧ Int32.toInt ((upd aFY (17 : Int32).toNatClampNeg (-1)) k) ≤ 9 := t_updc (C := fun k => k = 19) e1_m_now_151 (fun hk => by have e9 : (17 : Int32).toNatClampNeg = (Int32.toInt (17 : Int32)).toNat := rfl; have hk : (17 : Int32).toNatClampNeg = 19 := hk; omega)
    have e156 : ∀ k : Nat, k = 17 → -1 ≤ Int32.toInt ((upd (upd aFY (17 : Int32).toNatClampNeg (-1)) (20 : Int32).toNatClampNeg 0) k) ∧ Int32.toInt ((upd (upd aFY (17 : Int32).toNatClampNeg (-1)) (20 : Int32).toNatClampNeg 0) k) ≤ SB := t_updc (C := fun k => k = 17) e154 (fun hk => by have e9 : (20 : Int32).toNatClampNeg = (Int32.toInt (20 : Int32)).toNat := rfl; have hk : (20 : Int32).toNatClampNeg = 17 := hk; omega)
    have e157 : ∀ k : Nat, k = 19 → 0 ≤ Int32.toInt ((upd (upd aFY (17 : Int32).toNatClampNeg (-1)) (20 : Int32).toNatClampNeg 0) k) ∧ Int32.toInt ((upd (upd aFY (17 : Int32).toNatClampNeg (-1)) (20 : Int32).toNatClampNeg 0) k) ≤ 9 := t_updc (C := fun k => k = 19) e155 (fun hk => by have e9 : (20 : Int32).toNatClampNeg = (Int32.toInt (20 : Int32)).toNat := rfl; have hk : (20 : Int32).toNatClampNeg = 19 := hk; omega)
    have q158 := e157 (19 : Int32).toNatClampNeg (by have e9 : (19 : Int32).toNatClampNeg = (Int32.toInt (19 : Int32)).toNat := rfl; omega)
    intro v159 ev159
    have hv159 := congrArg Int32.toInt ev159
    have j161 : Int32.toInt v159 = Int32.toInt (rD (19 : Int32).toNatClampNeg) := by rw [ev159]; exact congrArg Int32.toInt (gs_19 (by assumption))
    intro v162 ev162
    have f163 : Int32.toInt (v159 + 1) = Int32.toInt v159 + Int32.toInt (1 : Int32) := ta_add _ _ (by omega)
    rw [← ev162] at f163
    have e164 : ∀ k : Nat, k = 17 → -1 ≤ Int32.toInt ((upd (upd (upd aFY (17 : Int32).toNatClampNeg (-1)) (20 : Int32).toNatClampNeg 0) (19 : Int32).toNatClampNeg v162) k) ∧ Int32.toInt ((upd (upd (upd aFY (17 : Int32).toNatClampNeg (-1)) (20 : Int32).toNatClampNeg 0) (19 : Int32).toNatClampNeg v162) k) ≤ SB := t_updc (C := fun k => k = 17) e156 (fun hk => by have e9 : (19 : Int32).toNatClampNeg = (Int32.toInt (19 : Int32)).toNat := rfl; have hk : (19 : Int32).toNatClampNeg = 17 := hk; omega)
    have e165 : ∀ k : Nat, k = 19 → 0 ≤ Int32.toInt ((upd (upd (upd aFY (17 : Int32).toNatClampNeg (-1)) (20 : Int32).toNatClampNeg 0) (19 : Int32).toNatClampNeg v162) k) ∧ Int32.toInt ((upd (upd (upd aFY (17 : Int32).toNatClampNeg (-1)) (20 : Int32).toNatClampNeg 0) (19 : Int32).toNatClampNeg v162) k) ≤ 9 := t_updc (C := fun k => k = 19) e157 (fun hk => by have e9 : (19 : Int32).toNatClampNeg = (Int32.toInt (19 : Int32)).toNat := rfl; have hk : (19 : Int32).toNatClampNeg = 19 := hk; omega)
    have q166 := e165 (19 : Int32).toNatClampNeg (by have e9 : (19 : Int32).toNatClampNeg = (Int32.toInt (19 : Int32)).toNat := rfl; omega)
    intro v167 ev167
    have hv167 := congrArg Int32.toInt ev167
    exact hpost _ _ _ _ _ _ _ _ _ _ _ _ _ (by omega) h_m_read h_m_length h_m_top h_m_at h_m_wrong h_m_isAsked h_m_askedFruit h_m_askedStanding h_m_askedHook h_m_askedApron e164 e165
  · skip
    have c150 := (fa_eq _ _).mp c150
    exact hpost _ _ _ _ _ _ _ _ _ _ _ _ _ (by omega) h_m_read h_m_length h_m_top h_m_at h_m_wrong h_m_isAsked h_m_askedFruit h_m_askedStanding h_m_askedHook h_m_askedApron e0_m_now e1_m_now
set_option maxHeartbeats 8000000 in
set_option maxRecDepth 200000 in
theorem t_X10_act {post : Int32 → Nat → Int32 → Int32 → Int32 → Int32 → Int32 → Int32 → Int32 → Int32 → Int32 → Int32 → (Nat → Int32) → Prop} {SB : Int} {p0 p1 bW aG : Int32} {jY : Nat} {m_length qG uW eY bU dN aR aE bJ aW gJ : Int32} {rD m_x jA pY rW oY pR pX rG rQ : Nat → Int32} (h_p0 : -1 ≤ Int32.toInt p0 ∧ Int32.toInt p0 ≤ 255) (h_p1 : -1 ≤ Int32.toInt p1 ∧ Int32.toInt p1 ≤ 255) (h_m_fruits : 0 ≤ Int32.toInt bW ∧ Int32.toInt bW ≤ 16) (h_m_standings : 0 ≤ Int32.toInt aG ∧ Int32.toInt aG ≤ 8) (h_m_read : jY = 0 ∨ jY = 1 ∨ jY = 2) (h_m_length : 0 ≤ Int32.toInt m_length ∧ Int32.toInt m_length ≤ 80) (h_m_top : 0 ≤ Int32.toInt qG ∧ Int32.toInt qG ≤ 80) (h_m_at : 0 ≤ Int32.toInt uW ∧ Int32.toInt uW ≤ 80) (h_m_wrong : -1 ≤ Int32.toInt eY ∧ Int32.toInt eY ≤ 80) (h_m_ruleSize : 0 ≤ Int32.toInt bU ∧ Int32.toInt bU ≤ 40) (h_m_isAsked : 0 ≤ Int32.toInt dN ∧ Int32.toInt dN ≤ 0) (h_m_askedFruit : 0 ≤ Int32.toInt aR ∧ Int32.toInt aR ≤ 15) (h_m_askedStanding : 0 ≤ Int32.toInt aE ∧ Int32.toInt aE ≤ 7) (h_m_askedHook : 0 ≤ Int32.toInt bJ ∧ Int32.toInt bJ ≤ 1) (h_m_askedApron : 0 ≤ Int32.toInt aW ∧ Int32.toInt aW ≤ 63) (e0_m_now : ∀ k : Nat, k = 17 → -1 ≤ Int32.toInt (rD k) ∧ Int32.toInt (rD k) ≤ SB) (e1_m_now : ∀ k : Nat, k = 19 → 0 ≤ Int32.toInt (rD k) ∧ Int32.toInt (rD k) ≤ 9) (h_m_x : ∀ k : Nat, 0 ≤ Int32.toInt (m_x k) ∧ Int32.toInt (m_x k) ≤ 99) (h_m_height : ∀ k : Nat, 0 ≤ Int32.toInt (jA k) ∧ Int32.toInt (jA k) ≤ 99) (h_m_worth : ∀ k : Nat, 0 ≤ Int32.toInt (pY k) ∧ Int32.toInt (pY k) ≤ 9) (h_m_ripe : ∀ k : Nat, 0 ≤ Int32.toInt (rW k) ∧ Int32.toInt (rW k) ≤ 9) (h_m_foot : ∀ k : Nat, 0 ≤ Int32.toInt (oY k) ∧ Int32.toInt (oY k) ≤ 99) (h_m_fork : ∀ k : Nat, 0 ≤ Int32.toInt (pR k) ∧ Int32.toInt (pR k) ≤ 99) (e0_m_told : ∀ k : Nat, k = 4 → 1 ≤ Int32.toInt (pX k) ∧ Int32.toInt (pX k) ≤ 30) (e1_m_told : ∀ k : Nat, k = 3 → 0 ≤ Int32.toInt (pX k) ∧ Int32.toInt (pX k) ≤ 9) (h_m_text : ∀ k : Nat, -128 ≤ Int32.toInt (rG k) ∧ Int32.toInt (rG k) ≤ 127) (h_m_rule : ∀ k : Nat, -128 ≤ Int32.toInt (rQ k) ∧ Int32.toInt (rQ k) ≤ 127) (hc0 : -1 ≤ SB ∧ SB ≤ 7) (hc1 : (Int32.toInt aG ≤ 0 ∧ SB = 0) ∨ (1 ≤ Int32.toInt aG ∧ SB = Int32.toInt aG - 1)) (hpost : ∀ (r : Int32) (m_read' : Nat) (m_length' : Int32) (m_top' : Int32) (m_at' : Int32) (m_wrong' : Int32) (m_isAsked' : Int32) (m_askedFruit' : Int32) (m_askedStanding' : Int32) (m_askedHook' : Int32) (m_askedApron' : Int32) (m_picked' : Int32) (m_now' : Nat → Int32), (0 ≤ Int32.toInt r ∧ Int32.toInt r ≤ 1) → (m_read' = 0 ∨ m_read' = 1 ∨ m_read' = 2) → (0 ≤ Int32.toInt m_length' ∧ Int32.toInt m_length' ≤ 80) → (0 ≤ Int32.toInt m_top' ∧ Int32.toInt m_top' ≤ 80) → (0 ≤ Int32.toInt m_at' ∧ Int32.toInt m_at' ≤ 80) → (-1 ≤ Int32.toInt m_wrong' ∧ Int32.toInt m_wrong' ≤ 80) → (0 ≤ Int32.toInt m_isAsked' ∧ Int32.toInt m_isAsked' ≤ 0) → (0 ≤ Int32.toInt m_askedFruit' ∧ Int32.toInt m_askedFruit' ≤ 15) → (0 ≤ Int32.toInt m_askedStanding' ∧ Int32.toInt m_askedStanding' ≤ 7) → (0 ≤ Int32.toInt m_askedHook' ∧ Int32.toInt m_askedHook' ≤ 1) → (0 ≤ Int32.toInt m_askedApron' ∧ Int32.toInt m_askedApron' ≤ 63) → (∀ k : Nat, k = 17 → -1 ≤ Int32.toInt (m_now' k) ∧ Int32.toInt (m_now' k) ≤ SB) → (∀ k : Nat, k = 19 → 0 ≤ Int32.toInt (m_now' k) ∧ Int32.toInt (m_now' k) ≤ 9) → post r m_read' m_length' m_top' m_at' m_wrong' m_isAsked' m_askedFruit' m_askedStanding' m_askedHook' m_askedApron' m_picked' m_now') : wp_X10_act post p0 p1 bW aG jY m_length qG uW eY bU dN aR aE bJ aW gJ rD m_x jA pY rW oY pR pX rG rQ := by
  have l0 := li_m1
  have l1 := li_0
  have l2 := li_1
  have l3 := li_100
  have l4 := li_104
  have l5 := li_107
  have l6 := li_109
  have l7 := li_111
  have l8 := li_112
  have l9 := li_17
  have l10 := li_20
  have l11 := li_9
  have l12 := li_97
  have l13 := li_9999
  refine And.intro (fun c169 => ?_) ?_
  · skip
    have c169 := (fa_eq _ _).mp c169
    have f170 := tp_r gJ
    exact ts_X10_act_176 bW aG bU m_x jA pY rW oY pR pX rG rQ h_m_fruits h_m_standings h_m_ruleSize h_m_x h_m_height h_m_worth h_m_ripe h_m_foot h_m_fork e0_m_told e1_m_told h_m_text h_m_rule hc0 hc1 hpost p0 jY m_length qG uW eY dN aR aE bJ aW gJ rD (by omega) h_m_read h_m_length h_m_top h_m_at h_m_wrong h_m_isAsked h_m_askedFruit h_m_askedStanding h_m_askedHook h_m_askedApron e0_m_now e1_m_now
  refine And.intro (fun c171 => ?_) ?_
  · skip
    have c171 := (fa_eq _ _).mp c171
    have q172 := e0_m_now (17 : Int32).toNatClampNeg (by have e9 : (17 : Int32).toNatClampNeg = (Int32.toInt (17 : Int32)).toNat := rfl; omega)
    intro v173 ev173
    have hv173 := congrArg Int32.toInt ev173
    refine And.intro (fun c175 => ?_) (fun c175 => ?_)
    · skip
      have c175 := (fa_eq _ _).mp c175
      refine And.intro (fun h9 => absurd h9 (by decide)) (fun _ => ?_)
      exact hpost _ _ _ _ _ _ _ _ _ _ _ _ _ (by omega) h_m_read h_m_length h_m_top h_m_at h_m_wrong h_m_isAsked h_m_askedFruit h_m_askedStanding h_m_askedHook h_m_askedApron e0_m_now e1_m_now
    · skip
      have c175 := mt (fa_eq _ _).mpr c175
      refine t_X10_which (by omega) h_m_fruits e0_m_now e1_m_now (by omega) (fun r176 h_r176 ox177 => ?_)
      refine And.intro (fun c178 => ?_) (fun c178 => ?_)
      · skip
        have c178 := (fa_eq _ _).mp c178
        refine And.intro (fun h9 => absurd h9 (by decide)) (fun _ => ?_)
        exact hpost _ _ _ _ _ _ _ _ _ _ _ _ _ (by omega) h_m_read h_m_length h_m_top h_m_at h_m_wrong h_m_isAsked h_m_askedFruit h_m_askedStanding h_m_askedHook h_m_askedApron e0_m_now e1_m_now
      · skip
        have c178 := mt (fa_eq _ _).mpr c178
        refine And.intro (fun _ => ?_) (fun h9 => absurd h9 (by decide))
        have q179 := e0_m_now (17 : Int32).toNatClampNeg (by have e9 : (17 : Int32).toNatClampNeg = (Int32.toInt (17 : Int32)).toNat := rfl; omega)
        intro v180 ev180
        have hv180 := congrArg Int32.toInt ev180
        refine And.intro (t_in (by omega)) ?_
        intro v181 ev181
        have f182 := h_m_fork v180.toNatClampNeg
        have hv181 := congrArg Int32.toInt ev181
        intro v183 ev183
        have f184 : Int32.toInt (v181 + 9) = Int32.toInt v181 + Int32.toInt (9 : Int32) := ta_add _ _ (by omega)
        rw [← ev183] at f184
        intro v185 ev185
        have hv185 := congrArg Int32.toInt ev185
        intro v187 ev187
        have hv187 := congrArg Int32.toInt ev187
        intro v189 ev189
        have f190 := tp_r (if v187 < 9999 then v187 else 9999)
        have f192 := tp_r v187
        have f191 := ti_min (9999 : Int32) v187
        have hv189 := congrArg Int32.toInt ev189
        have f194 := tp_r v189
        have e193 : ∀ k : Nat, k = 17 → -1 ≤ Int32.toInt ((upd rD (20 : Int32).toNatClampNeg v189) k) ∧ Int32.toInt ((upd rD (20 : Int32).toNatClampNeg v189) k) ≤ SB := t_updc (C := fun k => k = 17) e0_m_now (fun hk => by have e9 : (20 : Int32).toNatClampNeg = (Int32.toInt (20 : Int32)).toNat := rfl; have hk : (20 : Int32).toNatClampNeg = 17 := hk; omega)
        have e195 : ∀ k : Nat, k = 19 → 0 ≤ Int32.toInt ((upd rD (20 : Int32).toNatClampNeg v189) k) ∧ Int32.toInt ((upd rD (20 : Int32).toNatClampNeg v189) k) ≤ 9 := t_updc (C := fun k => k = 19) e1_m_now (fun hk => by have e9 : (20 : Int32).toNatClampNeg = (Int32.toInt (20 : Int32)).toNat := rfl; have hk : (20 : Int32).toNatClampNeg = 19 := hk; omega)
        refine t_X10_empty h_m_fruits e193 e195 (by omega) (fun r197 m_now_196 e0_m_now_196 e1_m_now_196 ox198 => ?_)
        exact hpost _ _ _ _ _ _ _ _ _ _ _ _ _ (by omega) h_m_read h_m_length h_m_top h_m_at h_m_wrong h_m_isAsked h_m_askedFruit h_m_askedStanding h_m_askedHook h_m_askedApron e0_m_now_196 e1_m_now_196
  refine And.intro (fun c199 => ?_) ?_
  · skip
    have c199 := (fa_eq _ _).mp c199
    have f200 := tp_r gJ
    exact ts_X10_act_98 bW aG bU m_x jA pY rW oY pR pX rG rQ h_m_fruits h_m_standings h_m_ruleSize h_m_x h_m_height h_m_worth h_m_ripe h_m_foot h_m_fork e0_m_told e1_m_told h_m_text h_m_rule hc0 hc1 hpost p0 p1 jY m_length qG uW eY dN aR aE bJ aW gJ rD (by omega) h_p1 h_m_read h_m_length h_m_top h_m_at h_m_wrong h_m_isAsked h_m_askedFruit h_m_askedStanding h_m_askedHook h_m_askedApron e0_m_now e1_m_now
  refine And.intro (fun c201 => ?_) ?_
  · skip
    have c201 := (fa_eq _ _).mp c201
    have q202 := e0_m_now (17 : Int32).toNatClampNeg (by have e9 : (17 : Int32).toNatClampNeg = (Int32.toInt (17 : Int32)).toNat := rfl; omega)
    intro v203 ev203
    have hv203 := congrArg Int32.toInt ev203
    refine And.intro (fun c205 => ?_) (fun c205 => ?_)
    · skip
      have c205 := mt (fa_eq _ _).mpr c205
      refine t_X10_goShake h_m_fruits e0_m_now e1_m_now h_m_x h_m_height h_m_ripe h_m_foot h_m_fork e0_m_told e1_m_told (by omega) (by omega) (fun r207 m_now_206 h_r207 e0_m_now_206 e1_m_now_206 => ?_)
      exact hpost _ _ _ _ _ _ _ _ _ _ _ _ _ (by omega) h_m_read h_m_length h_m_top h_m_at h_m_wrong h_m_isAsked h_m_askedFruit h_m_askedStanding h_m_askedHook h_m_askedApron e0_m_now_206 e1_m_now_206
    · skip
      have c205 := (fa_eq _ _).mp c205
      exact hpost _ _ _ _ _ _ _ _ _ _ _ _ _ (by omega) h_m_read h_m_length h_m_top h_m_at h_m_wrong h_m_isAsked h_m_askedFruit h_m_askedStanding h_m_askedHook h_m_askedApron e0_m_now e1_m_now
  refine And.intro (fun c208 => ?_) ?_
  · skip
    have c208 := (fa_eq _ _).mp c208
    intro v209 ev209
    have f210 : Int32.toInt (aG - 1) = Int32.toInt aG - Int32.toInt (1 : Int32) := ta_sub _ _ (by omega)
    rw [← ev209] at f210
    refine And.intro (fun c211 => ?_) (fun c211 => ?_)
    · skip
      have c211 := (fa_lt _ _).mp c211
      refine And.intro (t_bool (by omega)) ?_
      refine And.intro (fun h9 => absurd h9 (by decide)) (fun _ => ?_)
      refine And.intro (fun h9 => absurd h9 (by decide)) (fun _ => ?_)
      exact hpost _ _ _ _ _ _ _ _ _ _ _ _ _ (by omega) h_m_read h_m_length h_m_top h_m_at h_m_wrong h_m_isAsked h_m_askedFruit h_m_askedStanding h_m_askedHook h_m_askedApron e0_m_now e1_m_now
    · skip
      have c211 := mt (fa_lt _ _).mpr c211
      refine And.intro (fun c212 => ?_) (fun c212 => ?_)
      · skip
        have c212 := (fa_lt _ _).mp c212
        refine And.intro (t_bool (by omega)) ?_
        refine And.intro (fun h9 => absurd h9 (by decide)) (fun _ => ?_)
        refine And.intro (fun h9 => absurd h9 (by decide)) (fun _ => ?_)
        exact hpost _ _ _ _ _ _ _ _ _ _ _ _ _ (by omega) h_m_read h_m_length h_m_top h_m_at h_m_wrong h_m_isAsked h_m_askedFruit h_m_askedStanding h_m_askedHook h_m_askedApron e0_m_now e1_m_now
      · skip
        have c212 := mt (fa_lt _ _).mpr c212
        refine And.intro (t_bool (by omega)) ?_
        refine And.intro (fun _ => ?_) (fun h9 => absurd h9 (by decide))
        have q213 := e0_m_now (17 : Int32).toNatClampNeg (by have e9 : (17 : Int32).toNatClampNeg = (Int32.toInt (17 : Int32)).toNat := rfl; omega)
        intro v214 ev214
        have hv214 := congrArg Int32.toInt ev214
        refine And.intro (fun c216 => ?_) (fun c216 => ?_)
        · skip
          have c216 := mt (fa_eq _ _).mpr c216
          refine And.intro (fun _ => ?_) (fun h9 => absurd h9 (by decide))
          refine t_X10_goMove (by omega) h_m_fruits e0_m_now e1_m_now h_m_foot h_m_fork e0_m_told e1_m_told (by omega) (by omega) (fun r218 m_now_217 h_r218 e0_m_now_217 e1_m_now_217 => ?_)
          exact hpost _ _ _ _ _ _ _ _ _ _ _ _ _ (by omega) h_m_read h_m_length h_m_top h_m_at h_m_wrong h_m_isAsked h_m_askedFruit h_m_askedStanding h_m_askedHook h_m_askedApron e0_m_now_217 e1_m_now_217
        · skip
          have c216 := (fa_eq _ _).mp c216
          refine And.intro (fun h9 => absurd h9 (by decide)) (fun _ => ?_)
          exact hpost _ _ _ _ _ _ _ _ _ _ _ _ _ (by omega) h_m_read h_m_length h_m_top h_m_at h_m_wrong h_m_isAsked h_m_askedFruit h_m_askedStanding h_m_askedHook h_m_askedApron e0_m_now e1_m_now
  refine And.intro (fun c219 => ?_) ?_
  · skip
    have c219 := (fa_eq _ _).mp c219
    have f220 := tp_r gJ
    exact ts_X10_act_176 bW aG bU m_x jA pY rW oY pR pX rG rQ h_m_fruits h_m_standings h_m_ruleSize h_m_x h_m_height h_m_worth h_m_ripe h_m_foot h_m_fork e0_m_told e1_m_told h_m_text h_m_rule hc0 hc1 hpost p0 jY m_length qG uW eY dN aR aE bJ aW gJ rD (by omega) h_m_read h_m_length h_m_top h_m_at h_m_wrong h_m_isAsked h_m_askedFruit h_m_askedStanding h_m_askedHook h_m_askedApron e0_m_now e1_m_now
  refine And.intro (fun c221 => ?_) ?_
  · skip
    have c221 := (fa_eq _ _).mp c221
    have f222 := tp_r gJ
    exact ts_X10_act_98 bW aG bU m_x jA pY rW oY pR pX rG rQ h_m_fruits h_m_standings h_m_ruleSize h_m_x h_m_height h_m_worth h_m_ripe h_m_foot h_m_fork e0_m_told e1_m_told h_m_text h_m_rule hc0 hc1 hpost p0 p1 jY m_length qG uW eY dN aR aE bJ aW gJ rD (by omega) h_p1 h_m_read h_m_length h_m_top h_m_at h_m_wrong h_m_isAsked h_m_askedFruit h_m_askedStanding h_m_askedHook h_m_askedApron e0_m_now e1_m_now
  intro c223 c224 c225 c226 c227 c228 c229
  have c223 := mt (fa_eq _ _).mpr c223
  have c224 := mt (fa_eq _ _).mpr c224
  have c225 := mt (fa_eq _ _).mpr c225
  have c226 := mt (fa_eq _ _).mpr c226
  have c227 := mt (fa_eq _ _).mpr c227
  have c228 := mt (fa_eq _ _).mpr c228
  have c229 := mt (fa_eq _ _).mpr c229
  have f230 := tp_r gJ
  exact ts_X10_act_196 bW aG bU m_x jA pY rW oY pR pX rG rQ h_m_fruits h_m_standings h_m_ruleSize h_m_x h_m_height h_m_worth h_m_ripe h_m_foot h_m_fork e0_m_told e1_m_told h_m_text h_m_rule hc0 hc1 hpost jY m_length qG uW eY dN aR aE bJ aW gJ rD h_m_read h_m_length h_m_top h_m_at h_m_wrong h_m_isAsked h_m_askedFruit h_m_askedStanding h_m_askedHook h_m_askedApron e0_m_now e1_m_now
set_option maxHeartbeats 8000000 in
set_option maxRecDepth 200000 in
theorem ts_X10_lay_b3_2 {post : (Nat → Int32) → Prop} {SB : Int} {next : Int32 → Int32 → (Nat → Int32) → Prop} {n2 : Int} (uZ : Nat → Int32) (e0_m_aside : ∀ k : Nat, k = 17 → -1 ≤ Int32.toInt (uZ k) ∧ Int32.toInt (uZ k) ≤ SB) (e1_m_aside : ∀ k : Nat, k = 19 → 0 ≤ Int32.toInt (uZ k) ∧ Int32.toInt (uZ k) ≤ 9) (hc0 : -1 ≤ SB ∧ SB ≤ 7) (hpost : ∀ (m_undos' : Nat → Int32), (∀ k : Nat, k % 21 = 17 → -1 ≤ Int32.toInt (m_undos' k) ∧ Int32.toInt (m_undos' k) ≤ SB) → (∀ k : Nat, k % 21 = 19 → 0 ≤ Int32.toInt (m_undos' k) ∧ Int32.toInt (m_undos' k) ≤ 9) → post m_undos') (hKn : ∀ (x2 : Int32) (x3 : Int32) (uQ : Nat → Int32), (0 ≤ Int32.toInt x2 ∧ Int32.toInt x2 ≤ 231) → (0 ≤ Int32.toInt x3 ∧ Int32.toInt x3 ≤ 21) → (∀ k : Nat, k % 21 = 17 → -1 ≤ Int32.toInt (uQ k) ∧ Int32.toInt (uQ k) ≤ SB) → (∀ k : Nat, k % 21 = 19 → 0 ≤ Int32.toInt (uQ k) ∧ Int32.toInt (uQ k) ≤ 9) → (Int32.toInt x2 % 21 = 0) → (21 - Int32.toInt x3 < n2) → next x2 x3 uQ) (x2 x3 : Int32) (uQ : Nat → Int32) (h_x2 : 0 ≤ Int32.toInt x2 ∧ Int32.toInt x2 ≤ 231) (h_x3 : 0 ≤ Int32.toInt x3 ∧ Int32.toInt x3 ≤ 21) (e0_m_undos : ∀ k : Nat, k % 21 = 17 → -1 ≤ Int32.toInt (uQ k) ∧ Int32.toInt (uQ k) ≤ SB) (e1_m_undos : ∀ k : Nat, k % 21 = 19 → 0 ≤ Int32.toInt (uQ k) ∧ Int32.toInt (uQ k) ≤ 9) (hx0 : Int32.toInt x2 % 21 = 0) (hn2 : 21 - Int32.toInt x3 ≤ n2) : ws_X10_lay_b3_2 post next uZ x2 x3 uQ := by
  have l0 := li_1
  have l1 := li_21
  refine And.intro (fun c1 => ?_) (fun c1 => ?_)
  · skip
    have c1 := (fa_le _ _).mp c1
    exact hpost _ e0_m_undos e1_m_undos
  · skip
    have c1 := mt (fa_le _ _).mpr c1
    intro v2 ev2
    have f3 : Int32.toInt (x2 + x3) = Int32.toInt x2 + Int32.toInt x3 := ta_add _ _ (by omega)
    rw [← ev2] at f3
    refine And.intro (t_in (by omega)) ?_
    have q4 := e0_m_aside x3.toNatClampNeg
    have q5 := e1_m_aside x3.toNatClampNeg
    have q6 : x3.toNatClampNeg = (Int32.toInt x3).toNat := rfl
    intro v7 ev7
    have hv7 := congrArg Int32.toInt ev7
    refine And.intro (t_in (by omega)) ?_
    have f10 := tp_r v7
    have e9 : ∀ k : Nat, k % 21 = 17 → -1 ≤ Int32.toInt ((upd uQ v2.toNatClampNeg v7) k) ∧ Int32.toInt ((upd uQ v2.toNatClampNeg v7) k) ≤ SB := t_updc (C := fun k => k % 21 = 17) e0_m_undos (fun hk => by have e9 : v2.toNatClampNeg = (Int32.toInt v2).toNat := rfl; have hk : v2.toNatClampNeg % 21 = 17 := hk; omega)
    have e11 : ∀ k : Nat, k % 21 = 19 → 0 ≤ Int32.toInt ((upd uQ v2.toNatClampNeg v7) k) ∧ Int32.toInt ((upd uQ v2.toNatClampNeg v7) k) ≤ 9 := t_updc (C := fun k => k % 21 = 19) e1_m_undos (fun hk => by have e9 : v2.toNatClampNeg = (Int32.toInt v2).toNat := rfl; have hk : v2.toNatClampNeg % 21 = 19 := hk; omega)
    intro v12 ev12
    have f13 : Int32.toInt (x3 + 1) = Int32.toInt x3 + Int32.toInt (1 : Int32) := ta_add _ _ (by omega)
    rw [← ev12] at f13
    exact hKn x2 v12 (upd uQ v2.toNatClampNeg v7) h_x2 (by omega) e9 e11 hx0 (by omega)
set_option maxHeartbeats 8000000 in
set_option maxRecDepth 200000 in
theorem tb_X10_lay_b3_2 {post : (Nat → Int32) → Prop} {SB : Int} (uZ : Nat → Int32) (e0_m_aside : ∀ k : Nat, k = 17 → -1 ≤ Int32.toInt (uZ k) ∧ Int32.toInt (uZ k) ≤ SB) (e1_m_aside : ∀ k : Nat, k = 19 → 0 ≤ Int32.toInt (uZ k) ∧ Int32.toInt (uZ k) ≤ 9) (hc0 : -1 ≤ SB ∧ SB ≤ 7) (hpost : ∀ (m_undos' : Nat → Int32), (∀ k : Nat, k % 21 = 17 → -1 ≤ Int32.toInt (m_undos' k) ∧ Int32.toInt (m_undos' k) ≤ SB) → (∀ k : Nat, k % 21 = 19 → 0 ≤ Int32.toInt (m_undos' k) ∧ Int32.toInt (m_undos' k) ≤ 9) → post m_undos') : ∀ (n : Nat) (x2 x3 : Int32) (uQ : Nat → Int32), (0 ≤ Int32.toInt x2 ∧ Int32.toInt x2 ≤ 231) → (0 ≤ Int32.toInt x3 ∧ Int32.toInt x3 ≤ 21) → (∀ k : Nat, k % 21 = 17 → -1 ≤ Int32.toInt (uQ k) ∧ Int32.toInt (uQ k) ≤ SB) → (∀ k : Nat, k % 21 = 19 → 0 ≤ Int32.toInt (uQ k) ∧ Int32.toInt (uQ k) ≤ 9) → (Int32.toInt x2 % 21 = 0) → (21 - Int32.toInt x3 < (n : Int)) → wb_X10_lay_b3_2 post uZ n x2 x3 uQ := by
  intro n
  induction n with
  | zero =>
    intro x2 x3 uQ h_x2 h_x3 e0_m_undos e1_m_undos hx0 hm
    exfalso; omega
  | succ n ih =>
    intro x2 x3 uQ h_x2 h_x3 e0_m_undos e1_m_undos hx0 hm
    exact ts_X10_lay_b3_2 uZ e0_m_aside e1_m_aside hc0 hpost ih x2 x3 uQ h_x2 h_x3 e0_m_undos e1_m_undos hx0 (by omega)
set_option maxHeartbeats 8000000 in
set_option maxRecDepth 200000 in
theorem t_X10_lay_b3 {post : (Nat → Int32) → Prop} {SB : Int} {p2 : Int32} {uQ uZ : Nat → Int32} (h_p2 : 0 ≤ Int32.toInt p2 ∧ Int32.toInt p2 ≤ 231) (e0_m_undos : ∀ k : Nat, k % 21 = 17 → -1 ≤ Int32.toInt (uQ k) ∧ Int32.toInt (uQ k) ≤ SB) (e1_m_undos : ∀ k : Nat, k % 21 = 19 → 0 ≤ Int32.toInt (uQ k) ∧ Int32.toInt (uQ k) ≤ 9) (e0_m_aside : ∀ k : Nat, k = 17 → -1 ≤ Int32.toInt (uZ k) ∧ Int32.toInt (uZ k) ≤ SB) (e1_m_aside : ∀ k : Nat, k = 19 → 0 ≤ Int32.toInt (uZ k) ∧ Int32.toInt (uZ k) ≤ 9) (hc0 : -1 ≤ SB ∧ SB ≤ 7) (hx0 : Int32.toInt p2 % 21 = 0) (hpost : ∀ (m_undos' : Nat → Int32), (∀ k : Nat, k % 21 = 17 → -1 ≤ Int32.toInt (m_undos' k) ∧ Int32.toInt (m_undos' k) ≤ SB) → (∀ k : Nat, k % 21 = 19 → 0 ≤ Int32.toInt (m_undos' k) ∧ Int32.toInt (m_undos' k) ≤ 9) → post m_undos') : wp_X10_lay_b3 post p2 uQ uZ := by
  have l0 := li_0
  exact ⟨23, tb_X10_lay_b3_2 uZ e0_m_aside e1_m_aside hc0 hpost _ p2 0 uQ h_p2 (by omega) e0_m_undos e1_m_undos (by omega) (by omega)⟩
set_option maxHeartbeats 8000000 in
set_option maxRecDepth 200000 in
theorem ts_X10_remember_b2_49 {post : Int32 → (Nat → Int32) → Prop} {SB : Int} (uZ : Nat → Int32) (e0_m_aside : ∀ k : Nat, k = 17 → -1 ≤ Int32.toInt (uZ k) ∧ Int32.toInt (uZ k) ≤ SB) (e1_m_aside : ∀ k : Nat, k = 19 → 0 ≤ Int32.toInt (uZ k) ∧ Int32.toInt (uZ k) ≤ 9) (hc0 : -1 ≤ SB ∧ SB ≤ 7) (hpost : ∀ (m_undoMany' : Int32) (m_undos' : Nat → Int32), (1 ≤ Int32.toInt m_undoMany' ∧ Int32.toInt m_undoMany' ≤ 12) → (∀ k : Nat, k % 21 = 17 → -1 ≤ Int32.toInt (m_undos' k) ∧ Int32.toInt (m_undos' k) ≤ SB) → (∀ k : Nat, k % 21 = 19 → 0 ≤ Int32.toInt (m_undos' k) ∧ Int32.toInt (m_undos' k) ≤ 9) → post m_undoMany' m_undos') (bT : Int32) (uQ : Nat → Int32) (h_m_undoMany : 0 ≤ Int32.toInt bT ∧ Int32.toInt bT ≤ 11) (e0_m_undos : ∀ k : Nat, k % 21 = 17 → -1 ≤ Int32.toInt (uQ k) ∧ Int32.toInt (uQ k) ≤ SB) (e1_m_undos : ∀ k : Nat, k % 21 = 19 → 0 ≤ Int32.toInt (uQ k) ∧ Int32.toInt (uQ k) ≤ 9) : ws_X10_remember_b2_49 post uZ bT uQ := by
  have l0 := li_1
  have l1 := li_21
  intro v1 ev1
  have f2 : Int32.toInt (21 * bT) = Int32.toInt bT * 21 := ta_cmul _ _ (by decide) (by omega)
  rw [← ev1] at f2
  refine t_X10_lay_b3 (by omega) e0_m_undos e1_m_undos e0_m_aside e1_m_aside (by omega) (by omega) (fun zU e0_m_undos_3 e1_m_undos_3 => ?_)
  intro v4 ev4
  have f5 : Int32.toInt (bT + 1) = Int32.toInt bT + Int32.toInt (1 : Int32) := ta_add _ _ (by omega)
  rw [← ev4] at f5
  exact hpost _ _ (by omega) e0_m_undos_3 e1_m_undos_3
set_option maxHeartbeats 8000000 in
set_option maxRecDepth 200000 in
theorem ts_X10_remember_b2_11 {post : Int32 → (Nat → Int32) → Prop} {SB : Int} {next : Int32 → Int32 → (Nat → Int32) → Prop} {n11 : Int} (uZ : Nat → Int32) (e0_m_aside : ∀ k : Nat, k = 17 → -1 ≤ Int32.toInt (uZ k) ∧ Int32.toInt (uZ k) ≤ SB) (e1_m_aside : ∀ k : Nat, k = 19 → 0 ≤ Int32.toInt (uZ k) ∧ Int32.toInt (uZ k) ≤ 9) (hc0 : -1 ≤ SB ∧ SB ≤ 7) (hpost : ∀ (m_undoMany' : Int32) (m_undos' : Nat → Int32), (1 ≤ Int32.toInt m_undoMany' ∧ Int32.toInt m_undoMany' ≤ 12) → (∀ k : Nat, k % 21 = 17 → -1 ≤ Int32.toInt (m_undos' k) ∧ Int32.toInt (m_undos' k) ≤ SB) → (∀ k : Nat, k % 21 = 19 → 0 ≤ Int32.toInt (m_undos' k) ∧ Int32.toInt (m_undos' k) ≤ 9) → post m_undoMany' m_undos') (hKn : ∀ (x2 : Int32) (bT : Int32) (uQ : Nat → Int32), (0 ≤ Int32.toInt x2 ∧ Int32.toInt x2 ≤ 231) → (12 ≤ Int32.toInt bT ∧ Int32.toInt bT ≤ 12) → (∀ k : Nat, k % 21 = 17 → -1 ≤ Int32.toInt (uQ k) ∧ Int32.toInt (uQ k) ≤ SB) → (∀ k : Nat, k % 21 = 19 → 0 ≤ Int32.toInt (uQ k) ∧ Int32.toInt (uQ k) ≤ 9) → (231 - Int32.toInt x2 < n11) → next x2 bT uQ) (x2 bT : Int32) (uQ : Nat → Int32) (h_x2 : 0 ≤ Int32.toInt x2 ∧ Int32.toInt x2 ≤ 231) (h_m_undoMany : 12 ≤ Int32.toInt bT ∧ Int32.toInt bT ≤ 12) (e0_m_undos : ∀ k : Nat, k % 21 = 17 → -1 ≤ Int32.toInt (uQ k) ∧ Int32.toInt (uQ k) ≤ SB) (e1_m_undos : ∀ k : Nat, k % 21 = 19 → 0 ≤ Int32.toInt (uQ k) ∧ Int32.toInt (uQ k) ≤ 9) (hn11 : 231 - Int32.toInt x2 ≤ n11) : ws_X10_remember_b2_11 post next uZ x2 bT uQ := by
  have l0 := li_1
  have l1 := li_21
  have l2 := li_231
  refine And.intro (fun c6 => ?_) (fun c6 => ?_)
  · skip
    have c6 := (fa_le _ _).mp c6
    intro v7 ev7
    have f8 : Int32.toInt (bT - 1) = Int32.toInt bT - Int32.toInt (1 : Int32) := ta_sub _ _ (by omega)
    rw [← ev7] at f8
    exact ts_X10_remember_b2_49 uZ e0_m_aside e1_m_aside hc0 hpost v7 uQ (by omega) e0_m_undos e1_m_undos
  · skip
    have c6 := mt (fa_le _ _).mpr c6
    intro v9 ev9
    have f10 : Int32.toInt (x2 + 21) = Int32.toInt x2 + Int32.toInt (21 : Int32) := ta_add _ _ (by omega)
    rw [← ev9] at f10
    refine And.intro (t_in (by omega)) ?_
    have q11 := e0_m_undos v9.toNatClampNeg
    have q12 := e1_m_undos v9.toNatClampNeg
    have q13 : v9.toNatClampNeg = (Int32.toInt v9).toNat := rfl
    intro v14 ev14
    have hv14 := congrArg Int32.toInt ev14
    refine And.intro (t_in (by omega)) ?_
    have f17 := tp_r v14
    have e16 : ∀ k : Nat, k % 21 = 17 → -1 ≤ Int32.toInt ((upd uQ x2.toNatClampNeg v14) k) ∧ Int32.toInt ((upd uQ x2.toNatClampNeg v14) k) ≤ SB := t_updc (C := fun k => k % 21 = 17) e0_m_undos (fun hk => by have e9 : x2.toNatClampNeg = (Int32.toInt x2).toNat := rfl; have hk : x2.toNatClampNeg % 21 = 17 := hk; omega)
    have e18 : ∀ k : Nat, k % 21 = 19 → 0 ≤ Int32.toInt ((upd uQ x2.toNatClampNeg v14) k) ∧ Int32.toInt ((upd uQ x2.toNatClampNeg v14) k) ≤ 9 := t_updc (C := fun k => k % 21 = 19) e1_m_undos (fun hk => by have e9 : x2.toNatClampNeg = (Int32.toInt x2).toNat := rfl; have hk : x2.toNatClampNeg % 21 = 19 := hk; omega)
    intro v19 ev19
    have f20 : Int32.toInt (x2 + 1) = Int32.toInt x2 + Int32.toInt (1 : Int32) := ta_add _ _ (by omega)
    rw [← ev19] at f20
    exact hKn v19 bT (upd uQ x2.toNatClampNeg v14) (by omega) h_m_undoMany e16 e18 (by omega)
set_option maxHeartbeats 8000000 in
set_option maxRecDepth 200000 in
theorem tb_X10_remember_b2_11 {post : Int32 → (Nat → Int32) → Prop} {SB : Int} (uZ : Nat → Int32) (e0_m_aside : ∀ k : Nat, k = 17 → -1 ≤ Int32.toInt (uZ k) ∧ Int32.toInt (uZ k) ≤ SB) (e1_m_aside : ∀ k : Nat, k = 19 → 0 ≤ Int32.toInt (uZ k) ∧ Int32.toInt (uZ k) ≤ 9) (hc0 : -1 ≤ SB ∧ SB ≤ 7) (hpost : ∀ (m_undoMany' : Int32) (m_undos' : Nat → Int32), (1 ≤ Int32.toInt m_undoMany' ∧ Int32.toInt m_undoMany' ≤ 12) → (∀ k : Nat, k % 21 = 17 → -1 ≤ Int32.toInt (m_undos' k) ∧ Int32.toInt (m_undos' k) ≤ SB) → (∀ k : Nat, k % 21 = 19 → 0 ≤ Int32.toInt (m_undos' k) ∧ Int32.toInt (m_undos' k) ≤ 9) → post m_undoMany' m_undos') : ∀ (n : Nat) (x2 bT : Int32) (uQ : Nat → Int32), (0 ≤ Int32.toInt x2 ∧ Int32.toInt x2 ≤ 231) → (12 ≤ Int32.toInt bT ∧ Int32.toInt bT ≤ 12) → (∀ k : Nat, k % 21 = 17 → -1 ≤ Int32.toInt (uQ k) ∧ Int32.toInt (uQ k) ≤ SB) → (∀ k : Nat, k % 21 = 19 → 0 ≤ Int32.toInt (uQ k) ∧ Int32.toInt (uQ k) ≤ 9) → (231 - Int32.toInt x2 < (n : Int)) → wb_X10_remember_b2_11 post uZ n x2 bT uQ := by
  intro n
  induction n with
  | zero =>
    intro x2 bT uQ h_x2 h_m_undoMany e0_m_undos e1_m_undos hm
    exfalso; omega
  | succ n ih =>
    intro x2 bT uQ h_x2 h_m_undoMany e0_m_undos e1_m_undos hm
    exact ts_X10_remember_b2_11 uZ e0_m_aside e1_m_aside hc0 hpost ih x2 bT uQ h_x2 h_m_undoMany e0_m_undos e1_m_undos (by omega)
set_option maxHeartbeats 8000000 in
set_option maxRecDepth 200000 in
theorem t_X10_remember_b2 {post : Int32 → (Nat → Int32) → Prop} {SB : Int} {bT : Int32} {uQ uZ : Nat → Int32} (h_m_undoMany : 0 ≤ Int32.toInt bT ∧ Int32.toInt bT ≤ 12) (e0_m_undos : ∀ k : Nat, k % 21 = 17 → -1 ≤ Int32.toInt (uQ k) ∧ Int32.toInt (uQ k) ≤ SB) (e1_m_undos : ∀ k : Nat, k % 21 = 19 → 0 ≤ Int32.toInt (uQ k) ∧ Int32.toInt (uQ k) ≤ 9) (e0_m_aside : ∀ k : Nat, k = 17 → -1 ≤ Int32.toInt (uZ k) ∧ Int32.toInt (uZ k) ≤ SB) (e1_m_aside : ∀ k : Nat, k = 19 → 0 ≤ Int32.toInt (uZ k) ∧ Int32.toInt (uZ k) ≤ 9) (hc0 : -1 ≤ SB ∧ SB ≤ 7) (hpost : ∀ (m_undoMany' : Int32) (m_undos' : Nat → Int32), (1 ≤ Int32.toInt m_undoMany' ∧ Int32.toInt m_undoMany' ≤ 12) → (∀ k : Nat, k % 21 = 17 → -1 ≤ Int32.toInt (m_undos' k) ∧ Int32.toInt (m_undos' k) ≤ SB) → (∀ k : Nat, k % 21 = 19 → 0 ≤ Int32.toInt (m_undos' k) ∧ Int32.toInt (m_undos' k) ≤ 9) → post m_undoMany' m_undos') : wp_X10_remember_b2 post bT uQ uZ := by
  have l0 := li_0
  have l1 := li_12
  refine And.intro (fun c21 => ?_) (fun c21 => ?_)
  · skip
    have c21 := mt (fa_eq _ _).mpr c21
    exact ts_X10_remember_b2_49 uZ e0_m_aside e1_m_aside hc0 hpost bT uQ (by omega) e0_m_undos e1_m_undos
  · skip
    have c21 := (fa_eq _ _).mp c21
    exact ⟨233, tb_X10_remember_b2_11 uZ e0_m_aside e1_m_aside hc0 hpost _ 0 bT uQ (by omega) (by omega) e0_m_undos e1_m_undos (by omega)⟩
set_option maxHeartbeats 8000000 in
set_option maxRecDepth 200000 in
theorem ts_X10_day_186 {post : Int32 → Int32 → Int32 → Int32 → Nat → Int32 → Int32 → Int32 → Int32 → Int32 → Int32 → Int32 → Int32 → Int32 → Int32 → Int32 → (Nat → Int32) → (Nat → Int32) → (Nat → Int32) → (Nat → Int32) → (Nat → Int32) → Prop} {SB : Int} (bW aG bU : Int32) (m_x jA pY rW oY pR pX rG rQ : Nat → Int32) (h_m_fruits : 0 ≤ Int32.toInt bW ∧ Int32.toInt bW ≤ 16) (h_m_standings : 0 ≤ Int32.toInt aG ∧ Int32.toInt aG ≤ 8) (h_m_ruleSize : 0 ≤ Int32.toInt bU ∧ Int32.toInt bU ≤ 40) (h_m_x : ∀ k : Nat, 0 ≤ Int32.toInt (m_x k) ∧ Int32.toInt (m_x k) ≤ 99) (h_m_height : ∀ k : Nat, 0 ≤ Int32.toInt (jA k) ∧ Int32.toInt (jA k) ≤ 99) (h_m_worth : ∀ k : Nat, 0 ≤ Int32.toInt (pY k) ∧ Int32.toInt (pY k) ≤ 9) (h_m_ripe : ∀ k : Nat, 0 ≤ Int32.toInt (rW k) ∧ Int32.toInt (rW k) ≤ 9) (h_m_foot : ∀ k : Nat, 0 ≤ Int32.toInt (oY k) ∧ Int32.toInt (oY k) ≤ 99) (h_m_fork : ∀ k : Nat, 0 ≤ Int32.toInt (pR k) ∧ Int32.toInt (pR k) ≤ 99) (e0_m_told : ∀ k : Nat, k = 4 → 1 ≤ Int32.toInt (pX k) ∧ Int32.toInt (pX k) ≤ 30) (e1_m_told : ∀ k : Nat, k = 3 → 0 ≤ Int32.toInt (pX k) ∧ Int32.toInt (pX k) ≤ 9) (h_m_text : ∀ k : Nat, -128 ≤ Int32.toInt (rG k) ∧ Int32.toInt (rG k) ≤ 127) (h_m_rule : ∀ k : Nat, -128 ≤ Int32.toInt (rQ k) ∧ Int32.toInt (rQ k) ≤ 127) (hc0 : -1 ≤ SB ∧ SB ≤ 7) (hc1 : (Int32.toInt aG ≤ 0 ∧ SB = 0) ∨ (1 ≤ Int32.toInt aG ∧ SB = Int32.toInt aG - 1)) (hpost : ∀ (r : Int32) (m_typed' : Int32) (m_rowMany' : Int32) (m_thrown' : Int32) (m_read' : Nat) (m_length' : Int32) (m_top' : Int32) (m_at' : Int32) (m_wrong' : Int32) (m_isAsked' : Int32) (m_askedFruit' : Int32) (m_askedStanding' : Int32) (m_askedHook' : Int32) (m_askedApron' : Int32) (m_undoMany' : Int32) (m_picked' : Int32) (m_now' : Nat → Int32) (m_row' : Nat → Int32) (m_undos' : Nat → Int32) (m_aside' : Nat → Int32) (m_acts' : Nat → Int32), (-100 ≤ Int32.toInt r ∧ Int32.toInt r ≤ 62) → (0 ≤ Int32.toInt m_typed' ∧ Int32.toInt m_typed' ≤ 0) → (0 ≤ Int32.toInt m_rowMany' ∧ Int32.toInt m_rowMany' ≤ 16) → (0 ≤ Int32.toInt m_thrown' ∧ Int32.toInt m_thrown' ≤ 0) → (m_read' = 0 ∨ m_read' = 1 ∨ m_read' = 2) → (0 ≤ Int32.toInt m_length' ∧ Int32.toInt m_length' ≤ 80) → (0 ≤ Int32.toInt m_top' ∧ Int32.toInt m_top' ≤ 80) → (0 ≤ Int32.toInt m_at' ∧ Int32.toInt m_at' ≤ 80) → (-1 ≤ Int32.toInt m_wrong' ∧ Int32.toInt m_wrong' ≤ 80) → (0 ≤ Int32.toInt m_isAsked' ∧ Int32.toInt m_isAsked' ≤ 0) → (0 ≤ Int32.toInt m_askedFruit' ∧ Int32.toInt m_askedFruit' ≤ 15) → (0 ≤ Int32.toInt m_askedStanding' ∧ Int32.toInt m_askedStanding' ≤ 7) → (0 ≤ Int32.toInt m_askedHook' ∧ Int32.toInt m_askedHook' ≤ 1) → (0 ≤ Int32.toInt m_askedApron' ∧ Int32.toInt m_askedApron' ≤ 63) → (0 ≤ Int32.toInt m_undoMany' ∧ Int32.toInt m_undoMany' ≤ 12) → (∀ k : Nat, k = 17 → -1 ≤ Int32.toInt (m_now' k) ∧ Int32.toInt (m_now' k) ≤ SB) → (∀ k : Nat, k = 19 → 0 ≤ Int32.toInt (m_now' k) ∧ Int32.toInt (m_now' k) ≤ 9) → (∀ k : Nat, k % 21 = 17 → -1 ≤ Int32.toInt (m_undos' k) ∧ Int32.toInt (m_undos' k) ≤ SB) → (∀ k : Nat, k % 21 = 19 → 0 ≤ Int32.toInt (m_undos' k) ∧ Int32.toInt (m_undos' k) ≤ 9) → (∀ k : Nat, k = 17 → -1 ≤ Int32.toInt (m_aside' k) ∧ Int32.toInt (m_aside' k) ≤ SB) → (∀ k : Nat, k = 19 → 0 ≤ Int32.toInt (m_aside' k) ∧ Int32.toInt (m_aside' k) ≤ 9) → (∀ k : Nat, -1 ≤ Int32.toInt (m_acts' k) ∧ Int32.toInt (m_acts' k) ≤ 255) → post r m_typed' m_rowMany' m_thrown' m_read' m_length' m_top' m_at' m_wrong' m_isAsked' m_askedFruit' m_askedStanding' m_askedHook' m_askedApron' m_undoMany' m_picked' m_now' m_row' m_undos' m_aside' m_acts') (x3 k1 jG bQ dG : Int32) (jY : Nat) (m_length qG uW eY dN aR aE bJ aW bT gJ : Int32) (rD uM uQ uZ wE : Nat → Int32) (h_x3 : 0 ≤ Int32.toInt x3 ∧ Int32.toInt x3 ≤ 62) (h_k1 : 0 ≤ Int32.toInt k1 ∧ Int32.toInt k1 ≤ 1) (h_m_typed : 0 ≤ Int32.toInt jG ∧ Int32.toInt jG ≤ 0) (h_m_rowMany : 0 ≤ Int32.toInt bQ ∧ Int32.toInt bQ ≤ 0) (h_m_thrown : 0 ≤ Int32.toInt dG ∧ Int32.toInt dG ≤ 0) (h_m_read : jY = 0 ∨ jY = 1 ∨ jY = 2) (h_m_length : 0 ≤ Int32.toInt m_length ∧ Int32.toInt m_length ≤ 80) (h_m_top : 0 ≤ Int32.toInt qG ∧ Int32.toInt qG ≤ 80) (h_m_at : 0 ≤ Int32.toInt uW ∧ Int32.toInt uW ≤ 80) (h_m_wrong : -1 ≤ Int32.toInt eY ∧ Int32.toInt eY ≤ 80) (h_m_isAsked : 0 ≤ Int32.toInt dN ∧ Int32.toInt dN ≤ 0) (h_m_askedFruit : 0 ≤ Int32.toInt aR ∧ Int32.toInt aR ≤ 15) (h_m_askedStanding : 0 ≤ Int32.toInt aE ∧ Int32.toInt aE ≤ 7) (h_m_askedHook : 0 ≤ Int32.toInt bJ ∧ Int32.toInt bJ ≤ 1) (h_m_askedApron : 0 ≤ Int32.toInt aW ∧ Int32.toInt aW ≤ 63) (h_m_undoMany : 0 ≤ Int32.toInt bT ∧ Int32.toInt bT ≤ 12) (e0_m_now : ∀ k : Nat, k = 17 → -1 ≤ Int32.toInt (rD k) ∧ Int32.toInt (rD k) ≤ SB) (e1_m_now : ∀ k : Nat, k = 19 → 0 ≤ Int32.toInt (rD k) ∧ Int32.toInt (rD k) ≤ 9) (e0_m_undos : ∀ k : Nat, k % 21 = 17 → -1 ≤ Int32.toInt (uQ k) ∧ Int32.toInt (uQ k) ≤ SB) (e1_m_undos : ∀ k : Nat, k % 21 = 19 → 0 ≤ Int32.toInt (uQ k) ∧ Int32.toInt (uQ k) ≤ 9) (e0_m_aside : ∀ k : Nat, k = 17 → -1 ≤ Int32.toInt (uZ k) ∧ Int32.toInt (uZ k) ≤ SB) (e1_m_aside : ∀ k : Nat, k = 19 → 0 ≤ Int32.toInt (uZ k) ∧ Int32.toInt (uZ k) ≤ 9) (h_m_acts : ∀ k : Nat, -1 ≤ Int32.toInt (wE k) ∧ Int32.toInt (wE k) ≤ 255) : ws_X10_day_186 post bW aG bU m_x jA pY rW oY pR pX rG rQ x3 k1 jG bQ dG jY m_length qG uW eY dN aR aE bJ aW bT gJ rD uM uQ uZ wE := by
  have l0 := li_1
  refine And.intro (t_in (by omega)) ?_
  intro v1 ev1
  have f2 : Int32.toInt (bQ + 1) = Int32.toInt bQ + Int32.toInt (1 : Int32) := ta_add _ _ (by omega)
  rw [← ev1] at f2
  refine And.intro (t_in (by omega)) ?_
  intro v3 ev3
  have f4 : Int32.toInt (v1 + 1) = Int32.toInt v1 + Int32.toInt (1 : Int32) := ta_add _ _ (by omega)
  rw [← ev3] at f4
  exact hpost _ _ _ _ _ _ _ _ _ _ _ _ _ _ _ _ _ _ _ _ _ (by omega) h_m_typed (by omega) h_m_thrown h_m_read h_m_length h_m_top h_m_at h_m_wrong h_m_isAsked h_m_askedFruit h_m_askedStanding h_m_askedHook h_m_askedApron h_m_undoMany e0_m_now e1_m_now e0_m_undos e1_m_undos e0_m_aside e1_m_aside h_m_acts
set_option maxHeartbeats 8000000 in
set_option maxRecDepth 200000 in
theorem ts_X10_day_170 {post : Int32 → Int32 → Int32 → Int32 → Nat → Int32 → Int32 → Int32 → Int32 → Int32 → Int32 → Int32 → Int32 → Int32 → Int32 → Int32 → (Nat → Int32) → (Nat → Int32) → (Nat → Int32) → (Nat → Int32) → (Nat → Int32) → Prop} {SB : Int} (bW aG bU : Int32) (m_x jA pY rW oY pR pX rG rQ : Nat → Int32) (h_m_fruits : 0 ≤ Int32.toInt bW ∧ Int32.toInt bW ≤ 16) (h_m_standings : 0 ≤ Int32.toInt aG ∧ Int32.toInt aG ≤ 8) (h_m_ruleSize : 0 ≤ Int32.toInt bU ∧ Int32.toInt bU ≤ 40) (h_m_x : ∀ k : Nat, 0 ≤ Int32.toInt (m_x k) ∧ Int32.toInt (m_x k) ≤ 99) (h_m_height : ∀ k : Nat, 0 ≤ Int32.toInt (jA k) ∧ Int32.toInt (jA k) ≤ 99) (h_m_worth : ∀ k : Nat, 0 ≤ Int32.toInt (pY k) ∧ Int32.toInt (pY k) ≤ 9) (h_m_ripe : ∀ k : Nat, 0 ≤ Int32.toInt (rW k) ∧ Int32.toInt (rW k) ≤ 9) (h_m_foot : ∀ k : Nat, 0 ≤ Int32.toInt (oY k) ∧ Int32.toInt (oY k) ≤ 99) (h_m_fork : ∀ k : Nat, 0 ≤ Int32.toInt (pR k) ∧ Int32.toInt (pR k) ≤ 99) (e0_m_told : ∀ k : Nat, k = 4 → 1 ≤ Int32.toInt (pX k) ∧ Int32.toInt (pX k) ≤ 30) (e1_m_told : ∀ k : Nat, k = 3 → 0 ≤ Int32.toInt (pX k) ∧ Int32.toInt (pX k) ≤ 9) (h_m_text : ∀ k : Nat, -128 ≤ Int32.toInt (rG k) ∧ Int32.toInt (rG k) ≤ 127) (h_m_rule : ∀ k : Nat, -128 ≤ Int32.toInt (rQ k) ∧ Int32.toInt (rQ k) ≤ 127) (hc0 : -1 ≤ SB ∧ SB ≤ 7) (hc1 : (Int32.toInt aG ≤ 0 ∧ SB = 0) ∨ (1 ≤ Int32.toInt aG ∧ SB = Int32.toInt aG - 1)) (hpost : ∀ (r : Int32) (m_typed' : Int32) (m_rowMany' : Int32) (m_thrown' : Int32) (m_read' : Nat) (m_length' : Int32) (m_top' : Int32) (m_at' : Int32) (m_wrong' : Int32) (m_isAsked' : Int32) (m_askedFruit' : Int32) (m_askedStanding' : Int32) (m_askedHook' : Int32) (m_askedApron' : Int32) (m_undoMany' : Int32) (m_picked' : Int32) (m_now' : Nat → Int32) (m_row' : Nat → Int32) (m_undos' : Nat → Int32) (m_aside' : Nat → Int32) (m_acts' : Nat → Int32), (-100 ≤ Int32.toInt r ∧ Int32.toInt r ≤ 62) → (0 ≤ Int32.toInt m_typed' ∧ Int32.toInt m_typed' ≤ 0) → (0 ≤ Int32.toInt m_rowMany' ∧ Int32.toInt m_rowMany' ≤ 16) → (0 ≤ Int32.toInt m_thrown' ∧ Int32.toInt m_thrown' ≤ 0) → (m_read' = 0 ∨ m_read' = 1 ∨ m_read' = 2) → (0 ≤ Int32.toInt m_length' ∧ Int32.toInt m_length' ≤ 80) → (0 ≤ Int32.toInt m_top' ∧ Int32.toInt m_top' ≤ 80) → (0 ≤ Int32.toInt m_at' ∧ Int32.toInt m_at' ≤ 80) → (-1 ≤ Int32.toInt m_wrong' ∧ Int32.toInt m_wrong' ≤ 80) → (0 ≤ Int32.toInt m_isAsked' ∧ Int32.toInt m_isAsked' ≤ 0) → (0 ≤ Int32.toInt m_askedFruit' ∧ Int32.toInt m_askedFruit' ≤ 15) → (0 ≤ Int32.toInt m_askedStanding' ∧ Int32.toInt m_askedStanding' ≤ 7) → (0 ≤ Int32.toInt m_askedHook' ∧ Int32.toInt m_askedHook' ≤ 1) → (0 ≤ Int32.toInt m_askedApron' ∧ Int32.toInt m_askedApron' ≤ 63) → (0 ≤ Int32.toInt m_undoMany' ∧ Int32.toInt m_undoMany' ≤ 12) → (∀ k : Nat, k = 17 → -1 ≤ Int32.toInt (m_now' k) ∧ Int32.toInt (m_now' k) ≤ SB) → (∀ k : Nat, k = 19 → 0 ≤ Int32.toInt (m_now' k) ∧ Int32.toInt (m_now' k) ≤ 9) → (∀ k : Nat, k % 21 = 17 → -1 ≤ Int32.toInt (m_undos' k) ∧ Int32.toInt (m_undos' k) ≤ SB) → (∀ k : Nat, k % 21 = 19 → 0 ≤ Int32.toInt (m_undos' k) ∧ Int32.toInt (m_undos' k) ≤ 9) → (∀ k : Nat, k = 17 → -1 ≤ Int32.toInt (m_aside' k) ∧ Int32.toInt (m_aside' k) ≤ SB) → (∀ k : Nat, k = 19 → 0 ≤ Int32.toInt (m_aside' k) ∧ Int32.toInt (m_aside' k) ≤ 9) → (∀ k : Nat, -1 ≤ Int32.toInt (m_acts' k) ∧ Int32.toInt (m_acts' k) ≤ 255) → post r m_typed' m_rowMany' m_thrown' m_read' m_length' m_top' m_at' m_wrong' m_isAsked' m_askedFruit' m_askedStanding' m_askedHook' m_askedApron' m_undoMany' m_picked' m_now' m_row' m_undos' m_aside' m_acts') (x1 x3 jG bQ dG : Int32) (jY : Nat) (m_length qG uW eY dN aR aE bJ aW bT gJ : Int32) (rD uM uQ uZ wE : Nat → Int32) (h_x1 : 0 ≤ Int32.toInt x1 ∧ Int32.toInt x1 ≤ 62) (h_x3 : 0 ≤ Int32.toInt x3 ∧ Int32.toInt x3 ≤ 62) (h_m_typed : 0 ≤ Int32.toInt jG ∧ Int32.toInt jG ≤ 0) (h_m_rowMany : 0 ≤ Int32.toInt bQ ∧ Int32.toInt bQ ≤ 16) (h_m_thrown : 0 ≤ Int32.toInt dG ∧ Int32.toInt dG ≤ 0) (h_m_read : jY = 0 ∨ jY = 1 ∨ jY = 2) (h_m_length : 0 ≤ Int32.toInt m_length ∧ Int32.toInt m_length ≤ 80) (h_m_top : 0 ≤ Int32.toInt qG ∧ Int32.toInt qG ≤ 80) (h_m_at : 0 ≤ Int32.toInt uW ∧ Int32.toInt uW ≤ 80) (h_m_wrong : -1 ≤ Int32.toInt eY ∧ Int32.toInt eY ≤ 80) (h_m_isAsked : 0 ≤ Int32.toInt dN ∧ Int32.toInt dN ≤ 0) (h_m_askedFruit : 0 ≤ Int32.toInt aR ∧ Int32.toInt aR ≤ 15) (h_m_askedStanding : 0 ≤ Int32.toInt aE ∧ Int32.toInt aE ≤ 7) (h_m_askedHook : 0 ≤ Int32.toInt bJ ∧ Int32.toInt bJ ≤ 1) (h_m_askedApron : 0 ≤ Int32.toInt aW ∧ Int32.toInt aW ≤ 63) (h_m_undoMany : 0 ≤ Int32.toInt bT ∧ Int32.toInt bT ≤ 12) (e0_m_now : ∀ k : Nat, k = 17 → -1 ≤ Int32.toInt (rD k) ∧ Int32.toInt (rD k) ≤ SB) (e1_m_now : ∀ k : Nat, k = 19 → 0 ≤ Int32.toInt (rD k) ∧ Int32.toInt (rD k) ≤ 9) (e0_m_undos : ∀ k : Nat, k % 21 = 17 → -1 ≤ Int32.toInt (uQ k) ∧ Int32.toInt (uQ k) ≤ SB) (e1_m_undos : ∀ k : Nat, k % 21 = 19 → 0 ≤ Int32.toInt (uQ k) ∧ Int32.toInt (uQ k) ≤ 9) (e0_m_aside : ∀ k : Nat, k = 17 → -1 ≤ Int32.toInt (uZ k) ∧ Int32.toInt (uZ k) ≤ SB) (e1_m_aside : ∀ k : Nat, k = 19 → 0 ≤ Int32.toInt (uZ k) ∧ Int32.toInt (uZ k) ≤ 9) (h_m_acts : ∀ k : Nat, -1 ≤ Int32.toInt (wE k) ∧ Int32.toInt (wE k) ≤ 255) : ws_X10_day_170 post bW aG bU m_x jA pY rW oY pR pX rG rQ x1 x3 jG bQ dG jY m_length qG uW eY dN aR aE bJ aW bT gJ rD uM uQ uZ wE := by
  have l0 := li_0
  have l1 := li_1
  refine And.intro (fun c5 => ?_) (fun c5 => ?_)
  · skip
    have c5 := (fa_le _ _).mp c5
    have f6 := tp_r gJ
    exact ts_X10_day_186 bW aG bU m_x jA pY rW oY pR pX rG rQ h_m_fruits h_m_standings h_m_ruleSize h_m_x h_m_height h_m_worth h_m_ripe h_m_foot h_m_fork e0_m_told e1_m_told h_m_text h_m_rule hc0 hc1 hpost x3 0 jG 0 dG jY m_length qG uW eY dN aR aE bJ aW bT gJ rD uM uQ uZ wE h_x3 (by omega) h_m_typed (by omega) h_m_thrown h_m_read h_m_length h_m_top h_m_at h_m_wrong h_m_isAsked h_m_askedFruit h_m_askedStanding h_m_askedHook h_m_askedApron h_m_undoMany e0_m_now e1_m_now e0_m_undos e1_m_undos e0_m_aside e1_m_aside h_m_acts
  · skip
    have c5 := mt (fa_le _ _).mpr c5
    have f7 := tp_r gJ
    exact ts_X10_day_186 bW aG bU m_x jA pY rW oY pR pX rG rQ h_m_fruits h_m_standings h_m_ruleSize h_m_x h_m_height h_m_worth h_m_ripe h_m_foot h_m_fork e0_m_told e1_m_told h_m_text h_m_rule hc0 hc1 hpost x3 1 jG 0 dG jY m_length qG uW eY dN aR aE bJ aW bT gJ rD uM uQ uZ wE h_x3 (by omega) h_m_typed (by omega) h_m_thrown h_m_read h_m_length h_m_top h_m_at h_m_wrong h_m_isAsked h_m_askedFruit h_m_askedStanding h_m_askedHook h_m_askedApron h_m_undoMany e0_m_now e1_m_now e0_m_undos e1_m_undos e0_m_aside e1_m_aside h_m_acts
set_option maxHeartbeats 8000000 in
set_option maxRecDepth 200000 in
theorem ts_X10_day_158 {post : Int32 → Int32 → Int32 → Int32 → Nat → Int32 → Int32 → Int32 → Int32 → Int32 → Int32 → Int32 → Int32 → Int32 → Int32 → Int32 → (Nat → Int32) → (Nat → Int32) → (Nat → Int32) → (Nat → Int32) → (Nat → Int32) → Prop} {SB : Int} (bW aG bU : Int32) (m_x jA pY rW oY pR pX rG rQ : Nat → Int32) (h_m_fruits : 0 ≤ Int32.toInt bW ∧ Int32.toInt bW ≤ 16) (h_m_standings : 0 ≤ Int32.toInt aG ∧ Int32.toInt aG ≤ 8) (h_m_ruleSize : 0 ≤ Int32.toInt bU ∧ Int32.toInt bU ≤ 40) (h_m_x : ∀ k : Nat, 0 ≤ Int32.toInt (m_x k) ∧ Int32.toInt (m_x k) ≤ 99) (h_m_height : ∀ k : Nat, 0 ≤ Int32.toInt (jA k) ∧ Int32.toInt (jA k) ≤ 99) (h_m_worth : ∀ k : Nat, 0 ≤ Int32.toInt (pY k) ∧ Int32.toInt (pY k) ≤ 9) (h_m_ripe : ∀ k : Nat, 0 ≤ Int32.toInt (rW k) ∧ Int32.toInt (rW k) ≤ 9) (h_m_foot : ∀ k : Nat, 0 ≤ Int32.toInt (oY k) ∧ Int32.toInt (oY k) ≤ 99) (h_m_fork : ∀ k : Nat, 0 ≤ Int32.toInt (pR k) ∧ Int32.toInt (pR k) ≤ 99) (e0_m_told : ∀ k : Nat, k = 4 → 1 ≤ Int32.toInt (pX k) ∧ Int32.toInt (pX k) ≤ 30) (e1_m_told : ∀ k : Nat, k = 3 → 0 ≤ Int32.toInt (pX k) ∧ Int32.toInt (pX k) ≤ 9) (h_m_text : ∀ k : Nat, -128 ≤ Int32.toInt (rG k) ∧ Int32.toInt (rG k) ≤ 127) (h_m_rule : ∀ k : Nat, -128 ≤ Int32.toInt (rQ k) ∧ Int32.toInt (rQ k) ≤ 127) (hc0 : -1 ≤ SB ∧ SB ≤ 7) (hc1 : (Int32.toInt aG ≤ 0 ∧ SB = 0) ∨ (1 ≤ Int32.toInt aG ∧ SB = Int32.toInt aG - 1)) (hpost : ∀ (r : Int32) (m_typed' : Int32) (m_rowMany' : Int32) (m_thrown' : Int32) (m_read' : Nat) (m_length' : Int32) (m_top' : Int32) (m_at' : Int32) (m_wrong' : Int32) (m_isAsked' : Int32) (m_askedFruit' : Int32) (m_askedStanding' : Int32) (m_askedHook' : Int32) (m_askedApron' : Int32) (m_undoMany' : Int32) (m_picked' : Int32) (m_now' : Nat → Int32) (m_row' : Nat → Int32) (m_undos' : Nat → Int32) (m_aside' : Nat → Int32) (m_acts' : Nat → Int32), (-100 ≤ Int32.toInt r ∧ Int32.toInt r ≤ 62) → (0 ≤ Int32.toInt m_typed' ∧ Int32.toInt m_typed' ≤ 0) → (0 ≤ Int32.toInt m_rowMany' ∧ Int32.toInt m_rowMany' ≤ 16) → (0 ≤ Int32.toInt m_thrown' ∧ Int32.toInt m_thrown' ≤ 0) → (m_read' = 0 ∨ m_read' = 1 ∨ m_read' = 2) → (0 ≤ Int32.toInt m_length' ∧ Int32.toInt m_length' ≤ 80) → (0 ≤ Int32.toInt m_top' ∧ Int32.toInt m_top' ≤ 80) → (0 ≤ Int32.toInt m_at' ∧ Int32.toInt m_at' ≤ 80) → (-1 ≤ Int32.toInt m_wrong' ∧ Int32.toInt m_wrong' ≤ 80) → (0 ≤ Int32.toInt m_isAsked' ∧ Int32.toInt m_isAsked' ≤ 0) → (0 ≤ Int32.toInt m_askedFruit' ∧ Int32.toInt m_askedFruit' ≤ 15) → (0 ≤ Int32.toInt m_askedStanding' ∧ Int32.toInt m_askedStanding' ≤ 7) → (0 ≤ Int32.toInt m_askedHook' ∧ Int32.toInt m_askedHook' ≤ 1) → (0 ≤ Int32.toInt m_askedApron' ∧ Int32.toInt m_askedApron' ≤ 63) → (0 ≤ Int32.toInt m_undoMany' ∧ Int32.toInt m_undoMany' ≤ 12) → (∀ k : Nat, k = 17 → -1 ≤ Int32.toInt (m_now' k) ∧ Int32.toInt (m_now' k) ≤ SB) → (∀ k : Nat, k = 19 → 0 ≤ Int32.toInt (m_now' k) ∧ Int32.toInt (m_now' k) ≤ 9) → (∀ k : Nat, k % 21 = 17 → -1 ≤ Int32.toInt (m_undos' k) ∧ Int32.toInt (m_undos' k) ≤ SB) → (∀ k : Nat, k % 21 = 19 → 0 ≤ Int32.toInt (m_undos' k) ∧ Int32.toInt (m_undos' k) ≤ 9) → (∀ k : Nat, k = 17 → -1 ≤ Int32.toInt (m_aside' k) ∧ Int32.toInt (m_aside' k) ≤ SB) → (∀ k : Nat, k = 19 → 0 ≤ Int32.toInt (m_aside' k) ∧ Int32.toInt (m_aside' k) ≤ 9) → (∀ k : Nat, -1 ≤ Int32.toInt (m_acts' k) ∧ Int32.toInt (m_acts' k) ≤ 255) → post r m_typed' m_rowMany' m_thrown' m_read' m_length' m_top' m_at' m_wrong' m_isAsked' m_askedFruit' m_askedStanding' m_askedHook' m_askedApron' m_undoMany' m_picked' m_now' m_row' m_undos' m_aside' m_acts') (x1 x3 jG bQ dG : Int32) (jY : Nat) (m_length qG uW eY dN aR aE bJ aW bT gJ : Int32) (rD uM uQ uZ wE : Nat → Int32) (h_x1 : 0 ≤ Int32.toInt x1 ∧ Int32.toInt x1 ≤ 62) (h_x3 : 0 ≤ Int32.toInt x3 ∧ Int32.toInt x3 ≤ 62) (h_m_typed : 0 ≤ Int32.toInt jG ∧ Int32.toInt jG ≤ 0) (h_m_rowMany : 0 ≤ Int32.toInt bQ ∧ Int32.toInt bQ ≤ 16) (h_m_thrown : 0 ≤ Int32.toInt dG ∧ Int32.toInt dG ≤ 0) (h_m_read : jY = 0 ∨ jY = 1 ∨ jY = 2) (h_m_length : 0 ≤ Int32.toInt m_length ∧ Int32.toInt m_length ≤ 80) (h_m_top : 0 ≤ Int32.toInt qG ∧ Int32.toInt qG ≤ 80) (h_m_at : 0 ≤ Int32.toInt uW ∧ Int32.toInt uW ≤ 80) (h_m_wrong : -1 ≤ Int32.toInt eY ∧ Int32.toInt eY ≤ 80) (h_m_isAsked : 0 ≤ Int32.toInt dN ∧ Int32.toInt dN ≤ 0) (h_m_askedFruit : 0 ≤ Int32.toInt aR ∧ Int32.toInt aR ≤ 15) (h_m_askedStanding : 0 ≤ Int32.toInt aE ∧ Int32.toInt aE ≤ 7) (h_m_askedHook : 0 ≤ Int32.toInt bJ ∧ Int32.toInt bJ ≤ 1) (h_m_askedApron : 0 ≤ Int32.toInt aW ∧ Int32.toInt aW ≤ 63) (h_m_undoMany : 0 ≤ Int32.toInt bT ∧ Int32.toInt bT ≤ 12) (e0_m_now : ∀ k : Nat, k = 17 → -1 ≤ Int32.toInt (rD k) ∧ Int32.toInt (rD k) ≤ SB) (e1_m_now : ∀ k : Nat, k = 19 → 0 ≤ Int32.toInt (rD k) ∧ Int32.toInt (rD k) ≤ 9) (e0_m_undos : ∀ k : Nat, k % 21 = 17 → -1 ≤ Int32.toInt (uQ k) ∧ Int32.toInt (uQ k) ≤ SB) (e1_m_undos : ∀ k : Nat, k % 21 = 19 → 0 ≤ Int32.toInt (uQ k) ∧ Int32.toInt (uQ k) ≤ 9) (e0_m_aside : ∀ k : Nat, k = 17 → -1 ≤ Int32.toInt (uZ k) ∧ Int32.toInt (uZ k) ≤ SB) (e1_m_aside : ∀ k : Nat, k = 19 → 0 ≤ Int32.toInt (uZ k) ∧ Int32.toInt (uZ k) ≤ 9) (h_m_acts : ∀ k : Nat, -1 ≤ Int32.toInt (wE k) ∧ Int32.toInt (wE k) ≤ 255) : ws_X10_day_158 post bW aG bU m_x jA pY rW oY pR pX rG rQ x1 x3 jG bQ dG jY m_length qG uW eY dN aR aE bJ aW bT gJ rD uM uQ uZ wE := by
  have l0 := li_0
  refine And.intro (fun c8 => ?_) (fun c8 => ?_)
  · skip
    have c8 := (fa_le _ _).mp c8
    have f9 := tp_r gJ
    exact ts_X10_day_170 bW aG bU m_x jA pY rW oY pR pX rG rQ h_m_fruits h_m_standings h_m_ruleSize h_m_x h_m_height h_m_worth h_m_ripe h_m_foot h_m_fork e0_m_told e1_m_told h_m_text h_m_rule hc0 hc1 hpost x1 x3 jG bQ dG jY m_length qG uW eY dN aR aE bJ aW bT gJ rD uM uQ uZ wE h_x1 h_x3 h_m_typed h_m_rowMany h_m_thrown h_m_read h_m_length h_m_top h_m_at h_m_wrong h_m_isAsked h_m_askedFruit h_m_askedStanding h_m_askedHook h_m_askedApron h_m_undoMany e0_m_now e1_m_now e0_m_undos e1_m_undos e0_m_aside e1_m_aside h_m_acts
  · skip
    have c8 := mt (fa_le _ _).mpr c8
    refine t_X10_remember_b2 h_m_undoMany e0_m_undos e1_m_undos e0_m_aside e1_m_aside (by omega) (fun m_undoMany_10 m_undos_11 h_m_undoMany_10 e0_m_undos_11 e1_m_undos_11 => ?_)
    have f12 := tp_r gJ
    exact ts_X10_day_170 bW aG bU m_x jA pY rW oY pR pX rG rQ h_m_fruits h_m_standings h_m_ruleSize h_m_x h_m_height h_m_worth h_m_ripe h_m_foot h_m_fork e0_m_told e1_m_told h_m_text h_m_rule hc0 hc1 hpost x1 x3 jG bQ dG jY m_length qG uW eY dN aR aE bJ aW m_undoMany_10 gJ rD uM m_undos_11 uZ wE h_x1 h_x3 h_m_typed h_m_rowMany h_m_thrown h_m_read h_m_length h_m_top h_m_at h_m_wrong h_m_isAsked h_m_askedFruit h_m_askedStanding h_m_askedHook h_m_askedApron (by omega) e0_m_now e1_m_now e0_m_undos_11 e1_m_undos_11 e0_m_aside e1_m_aside h_m_acts
set_option maxHeartbeats 8000000 in
set_option maxRecDepth 200000 in
theorem ts_X10_day_122 {post : Int32 → Int32 → Int32 → Int32 → Nat → Int32 → Int32 → Int32 → Int32 → Int32 → Int32 → Int32 → Int32 → Int32 → Int32 → Int32 → (Nat → Int32) → (Nat → Int32) → (Nat → Int32) → (Nat → Int32) → (Nat → Int32) → Prop} {SB : Int} {next : Int32 → Int32 → Int32 → Int32 → Int32 → Nat → Int32 → Int32 → Int32 → Int32 → Int32 → Int32 → Int32 → Int32 → Int32 → Int32 → Int32 → (Nat → Int32) → (Nat → Int32) → (Nat → Int32) → (Nat → Int32) → (Nat → Int32) → Prop} {n122 : Int} (bW aG bU : Int32) (m_x jA pY rW oY pR pX rG rQ : Nat → Int32) (h_m_fruits : 0 ≤ Int32.toInt bW ∧ Int32.toInt bW ≤ 16) (h_m_standings : 0 ≤ Int32.toInt aG ∧ Int32.toInt aG ≤ 8) (h_m_ruleSize : 0 ≤ Int32.toInt bU ∧ Int32.toInt bU ≤ 40) (h_m_x : ∀ k : Nat, 0 ≤ Int32.toInt (m_x k) ∧ Int32.toInt (m_x k) ≤ 99) (h_m_height : ∀ k : Nat, 0 ≤ Int32.toInt (jA k) ∧ Int32.toInt (jA k) ≤ 99) (h_m_worth : ∀ k : Nat, 0 ≤ Int32.toInt (pY k) ∧ Int32.toInt (pY k) ≤ 9) (h_m_ripe : ∀ k : Nat, 0 ≤ Int32.toInt (rW k) ∧ Int32.toInt (rW k) ≤ 9) (h_m_foot : ∀ k : Nat, 0 ≤ Int32.toInt (oY k) ∧ Int32.toInt (oY k) ≤ 99) (h_m_fork : ∀ k : Nat, 0 ≤ Int32.toInt (pR k) ∧ Int32.toInt (pR k) ≤ 99) (e0_m_told : ∀ k : Nat, k = 4 → 1 ≤ Int32.toInt (pX k) ∧ Int32.toInt (pX k) ≤ 30) (e1_m_told : ∀ k : Nat, k = 3 → 0 ≤ Int32.toInt (pX k) ∧ Int32.toInt (pX k) ≤ 9) (h_m_text : ∀ k : Nat, -128 ≤ Int32.toInt (rG k) ∧ Int32.toInt (rG k) ≤ 127) (h_m_rule : ∀ k : Nat, -128 ≤ Int32.toInt (rQ k) ∧ Int32.toInt (rQ k) ≤ 127) (hc0 : -1 ≤ SB ∧ SB ≤ 7) (hc1 : (Int32.toInt aG ≤ 0 ∧ SB = 0) ∨ (1 ≤ Int32.toInt aG ∧ SB = Int32.toInt aG - 1)) (hpost : ∀ (r : Int32) (m_typed' : Int32) (m_rowMany' : Int32) (m_thrown' : Int32) (m_read' : Nat) (m_length' : Int32) (m_top' : Int32) (m_at' : Int32) (m_wrong' : Int32) (m_isAsked' : Int32) (m_askedFruit' : Int32) (m_askedStanding' : Int32) (m_askedHook' : Int32) (m_askedApron' : Int32) (m_undoMany' : Int32) (m_picked' : Int32) (m_now' : Nat → Int32) (m_row' : Nat → Int32) (m_undos' : Nat → Int32) (m_aside' : Nat → Int32) (m_acts' : Nat → Int32), (-100 ≤ Int32.toInt r ∧ Int32.toInt r ≤ 62) → (0 ≤ Int32.toInt m_typed' ∧ Int32.toInt m_typed' ≤ 0) → (0 ≤ Int32.toInt m_rowMany' ∧ Int32.toInt m_rowMany' ≤ 16) → (0 ≤ Int32.toInt m_thrown' ∧ Int32.toInt m_thrown' ≤ 0) → (m_read' = 0 ∨ m_read' = 1 ∨ m_read' = 2) → (0 ≤ Int32.toInt m_length' ∧ Int32.toInt m_length' ≤ 80) → (0 ≤ Int32.toInt m_top' ∧ Int32.toInt m_top' ≤ 80) → (0 ≤ Int32.toInt m_at' ∧ Int32.toInt m_at' ≤ 80) → (-1 ≤ Int32.toInt m_wrong' ∧ Int32.toInt m_wrong' ≤ 80) → (0 ≤ Int32.toInt m_isAsked' ∧ Int32.toInt m_isAsked' ≤ 0) → (0 ≤ Int32.toInt m_askedFruit' ∧ Int32.toInt m_askedFruit' ≤ 15) → (0 ≤ Int32.toInt m_askedStanding' ∧ Int32.toInt m_askedStanding' ≤ 7) → (0 ≤ Int32.toInt m_askedHook' ∧ Int32.toInt m_askedHook' ≤ 1) → (0 ≤ Int32.toInt m_askedApron' ∧ Int32.toInt m_askedApron' ≤ 63) → (0 ≤ Int32.toInt m_undoMany' ∧ Int32.toInt m_undoMany' ≤ 12) → (∀ k : Nat, k = 17 → -1 ≤ Int32.toInt (m_now' k) ∧ Int32.toInt (m_now' k) ≤ SB) → (∀ k : Nat, k = 19 → 0 ≤ Int32.toInt (m_now' k) ∧ Int32.toInt (m_now' k) ≤ 9) → (∀ k : Nat, k % 21 = 17 → -1 ≤ Int32.toInt (m_undos' k) ∧ Int32.toInt (m_undos' k) ≤ SB) → (∀ k : Nat, k % 21 = 19 → 0 ≤ Int32.toInt (m_undos' k) ∧ Int32.toInt (m_undos' k) ≤ 9) → (∀ k : Nat, k = 17 → -1 ≤ Int32.toInt (m_aside' k) ∧ Int32.toInt (m_aside' k) ≤ SB) → (∀ k : Nat, k = 19 → 0 ≤ Int32.toInt (m_aside' k) ∧ Int32.toInt (m_aside' k) ≤ 9) → (∀ k : Nat, -1 ≤ Int32.toInt (m_acts' k) ∧ Int32.toInt (m_acts' k) ≤ 255) → post r m_typed' m_rowMany' m_thrown' m_read' m_length' m_top' m_at' m_wrong' m_isAsked' m_askedFruit' m_askedStanding' m_askedHook' m_askedApron' m_undoMany' m_picked' m_now' m_row' m_undos' m_aside' m_acts') (hKn : ∀ (x1 : Int32) (x3 : Int32) (jG : Int32) (bQ : Int32) (dG : Int32) (jY : Nat) (m_length : Int32) (qG : Int32) (uW : Int32) (eY : Int32) (dN : Int32) (aR : Int32) (aE : Int32) (bJ : Int32) (aW : Int32) (bT : Int32) (gJ : Int32) (rD : Nat → Int32) (uM : Nat → Int32) (uQ : Nat → Int32) (uZ : Nat → Int32) (wE : Nat → Int32), (0 ≤ Int32.toInt x1 ∧ Int32.toInt x1 ≤ 62) → (0 ≤ Int32.toInt x3 ∧ Int32.toInt x3 ≤ 62) → (0 ≤ Int32.toInt jG ∧ Int32.toInt jG ≤ 0) → (0 ≤ Int32.toInt bQ ∧ Int32.toInt bQ ≤ 16) → (0 ≤ Int32.toInt dG ∧ Int32.toInt dG ≤ 0) → (jY = 0 ∨ jY = 1 ∨ jY = 2) → (0 ≤ Int32.toInt m_length ∧ Int32.toInt m_length ≤ 80) → (0 ≤ Int32.toInt qG ∧ Int32.toInt qG ≤ 80) → (0 ≤ Int32.toInt uW ∧ Int32.toInt uW ≤ 80) → (-1 ≤ Int32.toInt eY ∧ Int32.toInt eY ≤ 80) → (0 ≤ Int32.toInt dN ∧ Int32.toInt dN ≤ 0) → (0 ≤ Int32.toInt aR ∧ Int32.toInt aR ≤ 15) → (0 ≤ Int32.toInt aE ∧ Int32.toInt aE ≤ 7) → (0 ≤ Int32.toInt bJ ∧ Int32.toInt bJ ≤ 1) → (0 ≤ Int32.toInt aW ∧ Int32.toInt aW ≤ 63) → (0 ≤ Int32.toInt bT ∧ Int32.toInt bT ≤ 12) → (∀ k : Nat, k = 17 → -1 ≤ Int32.toInt (rD k) ∧ Int32.toInt (rD k) ≤ SB) → (∀ k : Nat, k = 19 → 0 ≤ Int32.toInt (rD k) ∧ Int32.toInt (rD k) ≤ 9) → (∀ k : Nat, k % 21 = 17 → -1 ≤ Int32.toInt (uQ k) ∧ Int32.toInt (uQ k) ≤ SB) → (∀ k : Nat, k % 21 = 19 → 0 ≤ Int32.toInt (uQ k) ∧ Int32.toInt (uQ k) ≤ 9) → (∀ k : Nat, k = 17 → -1 ≤ Int32.toInt (uZ k) ∧ Int32.toInt (uZ k) ≤ SB) → (∀ k : Nat, k = 19 → 0 ≤ Int32.toInt (uZ k) ∧ Int32.toInt (uZ k) ≤ 9) → (∀ k : Nat, -1 ≤ Int32.toInt (wE k) ∧ Int32.toInt (wE k) ≤ 255) → (62 - Int32.toInt x3 < n122) → next x1 x3 jG bQ dG jY m_length qG uW eY dN aR aE bJ aW bT gJ rD uM uQ uZ wE) (x1 x3 jG bQ dG : Int32) (jY : Nat) (m_length qG uW eY dN aR aE bJ aW bT gJ : Int32) (rD uM uQ uZ wE : Nat → Int32) (h_x1 : 0 ≤ Int32.toInt x1 ∧ Int32.toInt x1 ≤ 62) (h_x3 : 0 ≤ Int32.toInt x3 ∧ Int32.toInt x3 ≤ 62) (h_m_typed : 0 ≤ Int32.toInt jG ∧ Int32.toInt jG ≤ 0) (h_m_rowMany : 0 ≤ Int32.toInt bQ ∧ Int32.toInt bQ ≤ 16) (h_m_thrown : 0 ≤ Int32.toInt dG ∧ Int32.toInt dG ≤ 0) (h_m_read : jY = 0 ∨ jY = 1 ∨ jY = 2) (h_m_length : 0 ≤ Int32.toInt m_length ∧ Int32.toInt m_length ≤ 80) (h_m_top : 0 ≤ Int32.toInt qG ∧ Int32.toInt qG ≤ 80) (h_m_at : 0 ≤ Int32.toInt uW ∧ Int32.toInt uW ≤ 80) (h_m_wrong : -1 ≤ Int32.toInt eY ∧ Int32.toInt eY ≤ 80) (h_m_isAsked : 0 ≤ Int32.toInt dN ∧ Int32.toInt dN ≤ 0) (h_m_askedFruit : 0 ≤ Int32.toInt aR ∧ Int32.toInt aR ≤ 15) (h_m_askedStanding : 0 ≤ Int32.toInt aE ∧ Int32.toInt aE ≤ 7) (h_m_askedHook : 0 ≤ Int32.toInt bJ ∧ Int32.toInt bJ ≤ 1) (h_m_askedApron : 0 ≤ Int32.toInt aW ∧ Int32.toInt aW ≤ 63) (h_m_undoMany : 0 ≤ Int32.toInt bT ∧ Int32.toInt bT ≤ 12) (e0_m_now : ∀ k : Nat, k = 17 → -1 ≤ Int32.toInt (rD k) ∧ Int32.toInt (rD k) ≤ SB) (e1_m_now : ∀ k : Nat, k = 19 → 0 ≤ Int32.toInt (rD k) ∧ Int32.toInt (rD k) ≤ 9) (e0_m_undos : ∀ k : Nat, k % 21 = 17 → -1 ≤ Int32.toInt (uQ k) ∧ Int32.toInt (uQ k) ≤ SB) (e1_m_undos : ∀ k : Nat, k % 21 = 19 → 0 ≤ Int32.toInt (uQ k) ∧ Int32.toInt (uQ k) ≤ 9) (e0_m_aside : ∀ k : Nat, k = 17 → -1 ≤ Int32.toInt (uZ k) ∧ Int32.toInt (uZ k) ≤ SB) (e1_m_aside : ∀ k : Nat, k = 19 → 0 ≤ Int32.toInt (uZ k) ∧ Int32.toInt (uZ k) ≤ 9) (h_m_acts : ∀ k : Nat, -1 ≤ Int32.toInt (wE k) ∧ Int32.toInt (wE k) ≤ 255) (hn122 : 62 - Int32.toInt x3 ≤ n122) : ws_X10_day_122 post next bW aG bU m_x jA pY rW oY pR pX rG rQ x1 x3 jG bQ dG jY m_length qG uW eY dN aR aE bJ aW bT gJ rD uM uQ uZ wE := by
  have l0 := li_0
  have l1 := li_1
  have l2 := li_2
  refine And.intro (fun c13 => ?_) (fun c13 => ?_)
  · skip
    have c13 := (fa_le _ _).mp c13
    have f14 := tp_r gJ
    exact ts_X10_day_158 bW aG bU m_x jA pY rW oY pR pX rG rQ h_m_fruits h_m_standings h_m_ruleSize h_m_x h_m_height h_m_worth h_m_ripe h_m_foot h_m_fork e0_m_told e1_m_told h_m_text h_m_rule hc0 hc1 hpost x1 x3 jG bQ dG jY m_length qG uW eY dN aR aE bJ aW bT gJ rD uM uQ uZ wE h_x1 h_x3 h_m_typed h_m_rowMany h_m_thrown h_m_read h_m_length h_m_top h_m_at h_m_wrong h_m_isAsked h_m_askedFruit h_m_askedStanding h_m_askedHook h_m_askedApron h_m_undoMany e0_m_now e1_m_now e0_m_undos e1_m_undos e0_m_aside e1_m_aside h_m_acts
  · skip
    have c13 := mt (fa_le _ _).mpr c13
    intro v15 ev15
    have f16 : Int32.toInt (2 * x3) = Int32.toInt x3 * 2 := ta_cmul _ _ (by decide) (by omega)
    rw [← ev15] at f16
    refine And.intro (t_in (by omega)) ?_
    intro v17 ev17
    have f18 := h_m_acts v15.toNatClampNeg
    have hv17 := congrArg Int32.toInt ev17
    intro v19 ev19
    have hv19 := congrArg Int32.toInt (ev19.trans ev15.symm)
    intro v20 ev20
    have f21 : Int32.toInt (v19 + 1) = Int32.toInt v19 + Int32.toInt (1 : Int32) := ta_add _ _ (by omega)
    rw [← ev20] at f21
    refine And.intro (t_in (by omega)) ?_
    intro v22 ev22
    have f23 := h_m_acts v20.toNatClampNeg
    have hv22 := congrArg Int32.toInt ev22
    refine t_X10_act (by omega) (by omega) h_m_fruits h_m_standings h_m_read h_m_length h_m_top h_m_at h_m_wrong h_m_ruleSize h_m_isAsked h_m_askedFruit h_m_askedStanding h_m_askedHook h_m_askedApron e0_m_now e1_m_now h_m_x h_m_height h_m_worth h_m_ripe h_m_foot h_m_fork e0_m_told e1_m_told h_m_text h_m_rule (by omega) (by omega) (fun r36 m_read_24 m_length_25 m_top_26 m_at_27 aAP m_isAsked_29 m_askedFruit_30 m_askedStanding_31 m_askedHook_32 m_askedApron_33 m_picked_34 m_now_35 h_r36 h_m_read_24 h_m_length_25 h_m_top_26 h_m_at_27 h_m_wrong_28 h_m_isAsked_29 h_m_askedFruit_30 h_m_askedStanding_31 h_m_askedHook_32 h_m_askedApron_33 e0_m_now_35 e1_m_now_35 => ?_)
    refine And.intro (fun c37 => ?_) (fun c37 => ?_)
    · skip
      have c37 := (fa_eq _ _).mp c37
      have f38 := tp_r m_picked_34
      exact ts_X10_day_158 bW aG bU m_x jA pY rW oY pR pX rG rQ h_m_fruits h_m_standings h_m_ruleSize h_m_x h_m_height h_m_worth h_m_ripe h_m_foot h_m_fork e0_m_told e1_m_told h_m_text h_m_rule hc0 hc1 hpost x1 x3 jG bQ dG m_read_24 m_length_25 m_top_26 m_at_27 aAP m_isAsked_29 m_askedFruit_30 m_askedStanding_31 m_askedHook_32 m_askedApron_33 bT m_picked_34 m_now_35 uM uQ uZ wE h_x1 h_x3 h_m_typed h_m_rowMany h_m_thrown h_m_read_24 h_m_length_25 h_m_top_26 h_m_at_27 h_m_wrong_28 h_m_isAsked_29 h_m_askedFruit_30 h_m_askedStanding_31 h_m_askedHook_32 h_m_askedApron_33 h_m_undoMany e0_m_now_35 e1_m_now_35 e0_m_undos e1_m_undos e0_m_aside e1_m_aside h_m_acts
    · skip
      have c37 := mt (fa_eq _ _).mpr c37
      intro v39 ev39
      have f40 : Int32.toInt (x3 + 1) = Int32.toInt x3 + Int32.toInt (1 : Int32) := ta_add _ _ (by omega)
      rw [← ev39] at f40
      have f41 := tp_r m_picked_34
      exact hKn x1 v39 jG bQ dG m_read_24 m_length_25 m_top_26 m_at_27 aAP m_isAsked_29 m_askedFruit_30 m_askedStanding_31 m_askedHook_32 m_askedApron_33 bT m_picked_34 m_now_35 uM uQ uZ wE h_x1 (by omega) h_m_typed h_m_rowMany h_m_thrown h_m_read_24 h_m_length_25 h_m_top_26 h_m_at_27 h_m_wrong_28 h_m_isAsked_29 h_m_askedFruit_30 h_m_askedStanding_31 h_m_askedHook_32 h_m_askedApron_33 h_m_undoMany e0_m_now_35 e1_m_now_35 e0_m_undos e1_m_undos e0_m_aside e1_m_aside h_m_acts (by omega)
set_option maxHeartbeats 8000000 in
set_option maxRecDepth 200000 in
theorem tb_X10_day_122 {post : Int32 → Int32 → Int32 → Int32 → Nat → Int32 → Int32 → Int32 → Int32 → Int32 → Int32 → Int32 → Int32 → Int32 → Int32 → Int32 → (Nat → Int32) → (Nat → Int32) → (Nat → Int32) → (Nat → Int32) → (Nat → Int32) → Prop} {SB : Int} (bW aG bU : Int32) (m_x jA pY rW oY pR pX rG rQ : Nat → Int32) (h_m_fruits : 0 ≤ Int32.toInt bW ∧ Int32.toInt bW ≤ 16) (h_m_standings : 0 ≤ Int32.toInt aG ∧ Int32.toInt aG ≤ 8) (h_m_ruleSize : 0 ≤ Int32.toInt bU ∧ Int32.toInt bU ≤ 40) (h_m_x : ∀ k : Nat, 0 ≤ Int32.toInt (m_x k) ∧ Int32.toInt (m_x k) ≤ 99) (h_m_height : ∀ k : Nat, 0 ≤ Int32.toInt (jA k) ∧ Int32.toInt (jA k) ≤ 99) (h_m_worth : ∀ k : Nat, 0 ≤ Int32.toInt (pY k) ∧ Int32.toInt (pY k) ≤ 9) (h_m_ripe : ∀ k : Nat, 0 ≤ Int32.toInt (rW k) ∧ Int32.toInt (rW k) ≤ 9) (h_m_foot : ∀ k : Nat, 0 ≤ Int32.toInt (oY k) ∧ Int32.toInt (oY k) ≤ 99) (h_m_fork : ∀ k : Nat, 0 ≤ Int32.toInt (pR k) ∧ Int32.toInt (pR k) ≤ 99) (e0_m_told : ∀ k : Nat, k = 4 → 1 ≤ Int32.toInt (pX k) ∧ Int32.toInt (pX k) ≤ 30) (e1_m_told : ∀ k : Nat, k = 3 → 0 ≤ Int32.toInt (pX k) ∧ Int32.toInt (pX k) ≤ 9) (h_m_text : ∀ k : Nat, -128 ≤ Int32.toInt (rG k) ∧ Int32.toInt (rG k) ≤ 127) (h_m_rule : ∀ k : Nat, -128 ≤ Int32.toInt (rQ k) ∧ Int32.toInt (rQ k) ≤ 127) (hc0 : -1 ≤ SB ∧ SB ≤ 7) (hc1 : (Int32.toInt aG ≤ 0 ∧ SB = 0) ∨ (1 ≤ Int32.toInt aG ∧ SB = Int32.toInt aG - 1)) (hpost : ∀ (r : Int32) (m_typed' : Int32) (m_rowMany' : Int32) (m_thrown' : Int32) (m_read' : Nat) (m_length' : Int32) (m_top' : Int32) (m_at' : Int32) (m_wrong' : Int32) (m_isAsked' : Int32) (m_askedFruit' : Int32) (m_askedStanding' : Int32) (m_askedHook' : Int32) (m_askedApron' : Int32) (m_undoMany' : Int32) (m_picked' : Int32) (m_now' : Nat → Int32) (m_row' : Nat → Int32) (m_undos' : Nat → Int32) (m_aside' : Nat → Int32) (m_acts' : Nat → Int32), (-100 ≤ Int32.toInt r ∧ Int32.toInt r ≤ 62) → (0 ≤ Int32.toInt m_typed' ∧ Int32.toInt m_typed' ≤ 0) → (0 ≤ Int32.toInt m_rowMany' ∧ Int32.toInt m_rowMany' ≤ 16) → (0 ≤ Int32.toInt m_thrown' ∧ Int32.toInt m_thrown' ≤ 0) → (m_read' = 0 ∨ m_read' = 1 ∨ m_read' = 2) → (0 ≤ Int32.toInt m_length' ∧ Int32.toInt m_length' ≤ 80) → (0 ≤ Int32.toInt m_top' ∧ Int32.toInt m_top' ≤ 80) → (0 ≤ Int32.toInt m_at' ∧ Int32.toInt m_at' ≤ 80) → (-1 ≤ Int32.toInt m_wrong' ∧ Int32.toInt m_wrong' ≤ 80) → (0 ≤ Int32.toInt m_isAsked' ∧ Int32.toInt m_isAsked' ≤ 0) → (0 ≤ Int32.toInt m_askedFruit' ∧ Int32.toInt m_askedFruit' ≤ 15) → (0 ≤ Int32.toInt m_askedStanding' ∧ Int32.toInt m_askedStanding' ≤ 7) → (0 ≤ Int32.toInt m_askedHook' ∧ Int32.toInt m_askedHook' ≤ 1) → (0 ≤ Int32.toInt m_askedApron' ∧ Int32.toInt m_askedApron' ≤ 63) → (0 ≤ Int32.toInt m_undoMany' ∧ Int32.toInt m_undoMany' ≤ 12) → (∀ k : Nat, k = 17 → -1 ≤ Int32.toInt (m_now' k) ∧ Int32.toInt (m_now' k) ≤ SB) → (∀ k : Nat, k = 19 → 0 ≤ Int32.toInt (m_now' k) ∧ Int32.toInt (m_now' k) ≤ 9) → (∀ k : Nat, k % 21 = 17 → -1 ≤ Int32.toInt (m_undos' k) ∧ Int32.toInt (m_undos' k) ≤ SB) → (∀ k : Nat, k % 21 = 19 → 0 ≤ Int32.toInt (m_undos' k) ∧ Int32.toInt (m_undos' k) ≤ 9) → (∀ k : Nat, k = 17 → -1 ≤ Int32.toInt (m_aside' k) ∧ Int32.toInt (m_aside' k) ≤ SB) → (∀ k : Nat, k = 19 → 0 ≤ Int32.toInt (m_aside' k) ∧ Int32.toInt (m_aside' k) ≤ 9) → (∀ k : Nat, -1 ≤ Int32.toInt (m_acts' k) ∧ Int32.toInt (m_acts' k) ≤ 255) → post r m_typed' m_rowMany' m_thrown' m_read' m_length' m_top' m_at' m_wrong' m_isAsked' m_askedFruit' m_askedStanding' m_askedHook' m_askedApron' m_undoMany' m_picked' m_now' m_row' m_undos' m_aside' m_acts') : ∀ (n : Nat) (x1 x3 jG bQ dG : Int32) (jY : Nat) (m_length qG uW eY dN aR aE bJ aW bT gJ : Int32) (rD uM uQ uZ wE : Nat → Int32), (0 ≤ Int32.toInt x1 ∧ Int32.toInt x1 ≤ 62) → (0 ≤ Int32.toInt x3 ∧ Int32.toInt x3 ≤ 62) → (0 ≤ Int32.toInt jG ∧ Int32.toInt jG ≤ 0) → (0 ≤ Int32.toInt bQ ∧ Int32.toInt bQ ≤ 16) → (0 ≤ Int32.toInt dG ∧ Int32.toInt dG ≤ 0) → (jY = 0 ∨ jY = 1 ∨ jY = 2) → (0 ≤ Int32.toInt m_length ∧ Int32.toInt m_length ≤ 80) → (0 ≤ Int32.toInt qG ∧ Int32.toInt qG ≤ 80) → (0 ≤ Int32.toInt uW ∧ Int32.toInt uW ≤ 80) → (-1 ≤ Int32.toInt eY ∧ Int32.toInt eY ≤ 80) → (0 ≤ Int32.toInt dN ∧ Int32.toInt dN ≤ 0) → (0 ≤ Int32.toInt aR ∧ Int32.toInt aR ≤ 15) → (0 ≤ Int32.toInt aE ∧ Int32.toInt aE ≤ 7) → (0 ≤ Int32.toInt bJ ∧ Int32.toInt bJ ≤ 1) → (0 ≤ Int32.toInt aW ∧ Int32.toInt aW ≤ 63) → (0 ≤ Int32.toInt bT ∧ Int32.toInt bT ≤ 12) → (∀ k : Nat, k = 17 → -1 ≤ Int32.toInt (rD k) ∧ Int32.toInt (rD k) ≤ SB) → (∀ k : Nat, k = 19 → 0 ≤ Int32.toInt (rD k) ∧ Int32.toInt (rD k) ≤ 9) → (∀ k : Nat, k % 21 = 17 → -1 ≤ Int32.toInt (uQ k) ∧ Int32.toInt (uQ k) ≤ SB) → (∀ k : Nat, k % 21 = 19 → 0 ≤ Int32.toInt (uQ k) ∧ Int32.toInt (uQ k) ≤ 9) → (∀ k : Nat, k = 17 → -1 ≤ Int32.toInt (uZ k) ∧ Int32.toInt (uZ k) ≤ SB) → (∀ k : Nat, k = 19 → 0 ≤ Int32.toInt (uZ k) ∧ Int32.toInt (uZ k) ≤ 9) → (∀ k : Nat, -1 ≤ Int32.toInt (wE k) ∧ Int32.toInt (wE k) ≤ 255) → (62 - Int32.toInt x3 < (n : Int)) → wb_X10_day_122 post bW aG bU m_x jA pY rW oY pR pX rG rQ n x1 x3 jG bQ dG jY m_length qG uW eY dN aR aE bJ aW bT gJ rD uM uQ uZ wE := by
  intro n
  induction n with
  | zero =>
    intro x1 x3 jG bQ dG jY m_length qG uW eY dN aR aE bJ aW bT gJ rD uM uQ uZ wE h_x1 h_x3 h_m_typed h_m_rowMany h_m_thrown h_m_read h_m_length h_m_top h_m_at h_m_wrong h_m_isAsked h_m_askedFruit h_m_askedStanding h_m_askedHook h_m_askedApron h_m_undoMany e0_m_now e1_m_now e0_m_undos e1_m_undos e0_m_aside e1_m_aside h_m_acts hm
    exfalso; omega
  | succ n ih =>
    intro x1 x3 jG bQ dG jY m_length qG uW eY dN aR aE bJ aW bT gJ rD uM uQ uZ wE h_x1 h_x3 h_m_typed h_m_rowMany h_m_thrown h_m_read h_m_length h_m_top h_m_at h_m_wrong h_m_isAsked h_m_askedFruit h_m_askedStanding h_m_askedHook h_m_askedApron h_m_undoMany e0_m_now e1_m_now e0_m_undos e1_m_undos e0_m_aside e1_m_aside h_m_acts hm
    exact ts_X10_day_122 bW aG bU m_x jA pY rW oY pR pX rG rQ h_m_fruits h_m_standings h_m_ruleSize h_m_x h_m_height h_m_worth h_m_ripe h_m_foot h_m_fork e0_m_told e1_m_told h_m_text h_m_rule hc0 hc1 hpost ih x1 x3 jG bQ dG jY m_length qG uW eY dN aR aE bJ aW bT gJ rD uM uQ uZ wE h_x1 h_x3 h_m_typed h_m_rowMany h_m_thrown h_m_read h_m_length h_m_top h_m_at h_m_wrong h_m_isAsked h_m_askedFruit h_m_askedStanding h_m_askedHook h_m_askedApron h_m_undoMany e0_m_now e1_m_now e0_m_undos e1_m_undos e0_m_aside e1_m_aside h_m_acts (by omega)
set_option maxHeartbeats 8000000 in
set_option maxRecDepth 200000 in
theorem ts_X10_day_89 {post : Int32 → Int32 → Int32 → Int32 → Nat → Int32 → Int32 → Int32 → Int32 → Int32 → Int32 → Int32 → Int32 → Int32 → Int32 → Int32 → (Nat → Int32) → (Nat → Int32) → (Nat → Int32) → (Nat → Int32) → (Nat → Int32) → Prop} {SB : Int} (bW aG bU : Int32) (m_x jA pY rW oY pR pX rG rQ : Nat → Int32) (h_m_fruits : 0 ≤ Int32.toInt bW ∧ Int32.toInt bW ≤ 16) (h_m_standings : 0 ≤ Int32.toInt aG ∧ Int32.toInt aG ≤ 8) (h_m_ruleSize : 0 ≤ Int32.toInt bU ∧ Int32.toInt bU ≤ 40) (h_m_x : ∀ k : Nat, 0 ≤ Int32.toInt (m_x k) ∧ Int32.toInt (m_x k) ≤ 99) (h_m_height : ∀ k : Nat, 0 ≤ Int32.toInt (jA k) ∧ Int32.toInt (jA k) ≤ 99) (h_m_worth : ∀ k : Nat, 0 ≤ Int32.toInt (pY k) ∧ Int32.toInt (pY k) ≤ 9) (h_m_ripe : ∀ k : Nat, 0 ≤ Int32.toInt (rW k) ∧ Int32.toInt (rW k) ≤ 9) (h_m_foot : ∀ k : Nat, 0 ≤ Int32.toInt (oY k) ∧ Int32.toInt (oY k) ≤ 99) (h_m_fork : ∀ k : Nat, 0 ≤ Int32.toInt (pR k) ∧ Int32.toInt (pR k) ≤ 99) (e0_m_told : ∀ k : Nat, k = 4 → 1 ≤ Int32.toInt (pX k) ∧ Int32.toInt (pX k) ≤ 30) (e1_m_told : ∀ k : Nat, k = 3 → 0 ≤ Int32.toInt (pX k) ∧ Int32.toInt (pX k) ≤ 9) (h_m_text : ∀ k : Nat, -128 ≤ Int32.toInt (rG k) ∧ Int32.toInt (rG k) ≤ 127) (h_m_rule : ∀ k : Nat, -128 ≤ Int32.toInt (rQ k) ∧ Int32.toInt (rQ k) ≤ 127) (hc0 : -1 ≤ SB ∧ SB ≤ 7) (hc1 : (Int32.toInt aG ≤ 0 ∧ SB = 0) ∨ (1 ≤ Int32.toInt aG ∧ SB = Int32.toInt aG - 1)) (hpost : ∀ (r : Int32) (m_typed' : Int32) (m_rowMany' : Int32) (m_thrown' : Int32) (m_read' : Nat) (m_length' : Int32) (m_top' : Int32) (m_at' : Int32) (m_wrong' : Int32) (m_isAsked' : Int32) (m_askedFruit' : Int32) (m_askedStanding' : Int32) (m_askedHook' : Int32) (m_askedApron' : Int32) (m_undoMany' : Int32) (m_picked' : Int32) (m_now' : Nat → Int32) (m_row' : Nat → Int32) (m_undos' : Nat → Int32) (m_aside' : Nat → Int32) (m_acts' : Nat → Int32), (-100 ≤ Int32.toInt r ∧ Int32.toInt r ≤ 62) → (0 ≤ Int32.toInt m_typed' ∧ Int32.toInt m_typed' ≤ 0) → (0 ≤ Int32.toInt m_rowMany' ∧ Int32.toInt m_rowMany' ≤ 16) → (0 ≤ Int32.toInt m_thrown' ∧ Int32.toInt m_thrown' ≤ 0) → (m_read' = 0 ∨ m_read' = 1 ∨ m_read' = 2) → (0 ≤ Int32.toInt m_length' ∧ Int32.toInt m_length' ≤ 80) → (0 ≤ Int32.toInt m_top' ∧ Int32.toInt m_top' ≤ 80) → (0 ≤ Int32.toInt m_at' ∧ Int32.toInt m_at' ≤ 80) → (-1 ≤ Int32.toInt m_wrong' ∧ Int32.toInt m_wrong' ≤ 80) → (0 ≤ Int32.toInt m_isAsked' ∧ Int32.toInt m_isAsked' ≤ 0) → (0 ≤ Int32.toInt m_askedFruit' ∧ Int32.toInt m_askedFruit' ≤ 15) → (0 ≤ Int32.toInt m_askedStanding' ∧ Int32.toInt m_askedStanding' ≤ 7) → (0 ≤ Int32.toInt m_askedHook' ∧ Int32.toInt m_askedHook' ≤ 1) → (0 ≤ Int32.toInt m_askedApron' ∧ Int32.toInt m_askedApron' ≤ 63) → (0 ≤ Int32.toInt m_undoMany' ∧ Int32.toInt m_undoMany' ≤ 12) → (∀ k : Nat, k = 17 → -1 ≤ Int32.toInt (m_now' k) ∧ Int32.toInt (m_now' k) ≤ SB) → (∀ k : Nat, k = 19 → 0 ≤ Int32.toInt (m_now' k) ∧ Int32.toInt (m_now' k) ≤ 9) → (∀ k : Nat, k % 21 = 17 → -1 ≤ Int32.toInt (m_undos' k) ∧ Int32.toInt (m_undos' k) ≤ SB) → (∀ k : Nat, k % 21 = 19 → 0 ≤ Int32.toInt (m_undos' k) ∧ Int32.toInt (m_undos' k) ≤ 9) → (∀ k : Nat, k = 17 → -1 ≤ Int32.toInt (m_aside' k) ∧ Int32.toInt (m_aside' k) ≤ SB) → (∀ k : Nat, k = 19 → 0 ≤ Int32.toInt (m_aside' k) ∧ Int32.toInt (m_aside' k) ≤ 9) → (∀ k : Nat, -1 ≤ Int32.toInt (m_acts' k) ∧ Int32.toInt (m_acts' k) ≤ 255) → post r m_typed' m_rowMany' m_thrown' m_read' m_length' m_top' m_at' m_wrong' m_isAsked' m_askedFruit' m_askedStanding' m_askedHook' m_askedApron' m_undoMany' m_picked' m_now' m_row' m_undos' m_aside' m_acts') (x1 jG bQ dG : Int32) (jY : Nat) (m_length qG uW eY dN aR aE bJ aW bT gJ : Int32) (rD uM uQ uZ wE : Nat → Int32) (h_x1 : 0 ≤ Int32.toInt x1 ∧ Int32.toInt x1 ≤ 62) (h_m_typed : 0 ≤ Int32.toInt jG ∧ Int32.toInt jG ≤ 0) (h_m_rowMany : 0 ≤ Int32.toInt bQ ∧ Int32.toInt bQ ≤ 16) (h_m_thrown : 0 ≤ Int32.toInt dG ∧ Int32.toInt dG ≤ 0) (h_m_read : jY = 1) (h_m_length : 0 ≤ Int32.toInt m_length ∧ Int32.toInt m_length ≤ 80) (h_m_top : 60 ≤ Int32.toInt qG ∧ Int32.toInt qG ≤ 60) (h_m_at : 0 ≤ Int32.toInt uW ∧ Int32.toInt uW ≤ 80) (h_m_wrong : -1 ≤ Int32.toInt eY ∧ Int32.toInt eY ≤ 80) (h_m_isAsked : 0 ≤ Int32.toInt dN ∧ Int32.toInt dN ≤ 0) (h_m_askedFruit : 0 ≤ Int32.toInt aR ∧ Int32.toInt aR ≤ 15) (h_m_askedStanding : 0 ≤ Int32.toInt aE ∧ Int32.toInt aE ≤ 7) (h_m_askedHook : 0 ≤ Int32.toInt bJ ∧ Int32.toInt bJ ≤ 1) (h_m_askedApron : 0 ≤ Int32.toInt aW ∧ Int32.toInt aW ≤ 63) (h_m_undoMany : 0 ≤ Int32.toInt bT ∧ Int32.toInt bT ≤ 12) (e0_m_now : ∀ k : Nat, k = 17 → -1 ≤ Int32.toInt (rD k) ∧ Int32.toInt (rD k) ≤ SB) (e1_m_now : ∀ k : Nat, k = 19 → 0 ≤ Int32.toInt (rD k) ∧ Int32.toInt (rD k) ≤ 9) (e0_m_undos : ∀ k : Nat, k % 21 = 17 → -1 ≤ Int32.toInt (uQ k) ∧ Int32.toInt (uQ k) ≤ SB) (e1_m_undos : ∀ k : Nat, k % 21 = 19 → 0 ≤ Int32.toInt (uQ k) ∧ Int32.toInt (uQ k) ≤ 9) (e0_m_aside : ∀ k : Nat, k = 17 → -1 ≤ Int32.toInt (uZ k) ∧ Int32.toInt (uZ k) ≤ SB) (e1_m_aside : ∀ k : Nat, k = 19 → 0 ≤ Int32.toInt (uZ k) ∧ Int32.toInt (uZ k) ≤ 9) (h_m_acts : ∀ k : Nat, -1 ≤ Int32.toInt (wE k) ∧ Int32.toInt (wE k) ≤ 255) : ws_X10_day_89 post bW aG bU m_x jA pY rW oY pR pX rG rQ x1 jG bQ dG jY m_length qG uW eY dN aR aE bJ aW bT gJ rD uM uQ uZ wE := by
  have l0 := li_m1
  have l1 := li_0
  refine And.intro (fun c42 => ?_) (fun c42 => ?_)
  · skip
    have c42 := mt (fa_eq _ _).mpr c42
    refine And.intro (fun h9 => absurd h9 (by decide)) (fun _ => ?_)
    have f43 : Int32.toInt ((-1) - eY) = Int32.toInt ((-1) : Int32) - Int32.toInt eY := ta_sub _ _ (by omega)
    obtain ⟨w44, ew44⟩ : ∃ w9 : Int32, w9 = (-1) - eY := ⟨_, rfl⟩
    rw [← ew44] at f43
    have key9 := hpost w44 jG bQ dG jY m_length qG uW eY dN aR aE bJ aW bT gJ rD uM uQ uZ wE (by omega) h_m_typed h_m_rowMany h_m_thrown (by first | exact h_m_read | exact Or.inl rfl | exact Or.inr rfl | omega) h_m_length (by omega) h_m_at h_m_wrong h_m_isAsked h_m_askedFruit h_m_askedStanding h_m_askedHook h_m_askedApron h_m_undoMany e0_m_now e1_m_now e0_m_undos e1_m_undos e0_m_aside e1_m_aside h_m_acts
    subst ew44
    exact key9
  · skip
    have c42 := (fa_eq _ _).mp c42
    refine And.intro (fun _ => ?_) (fun h9 => absurd h9 (by decide))
    refine t_X10_lay_b2 (by omega) e0_m_now e1_m_now e0_m_aside e1_m_aside (by omega) (by omega) (fun m_aside_45 e0_m_aside_45 e1_m_aside_45 => ?_)
    exact ⟨64, tb_X10_day_122 bW aG bU m_x jA pY rW oY pR pX rG rQ h_m_fruits h_m_standings h_m_ruleSize h_m_x h_m_height h_m_worth h_m_ripe h_m_foot h_m_fork e0_m_told e1_m_told h_m_text h_m_rule hc0 hc1 hpost _ x1 0 jG bQ dG jY m_length qG uW eY dN aR aE bJ aW bT 0 rD uM uQ m_aside_45 wE h_x1 (by omega) h_m_typed h_m_rowMany h_m_thrown (by first | exact h_m_read | exact Or.inl rfl | exact Or.inr rfl | omega) h_m_length (by omega) h_m_at h_m_wrong h_m_isAsked h_m_askedFruit h_m_askedStanding h_m_askedHook h_m_askedApron h_m_undoMany e0_m_now e1_m_now e0_m_undos e1_m_undos e0_m_aside_45 e1_m_aside_45 h_m_acts (by omega)⟩
set_option maxHeartbeats 8000000 in
set_option maxRecDepth 200000 in
theorem ts_X10_day_70 {post : Int32 → Int32 → Int32 → Int32 → Nat → Int32 → Int32 → Int32 → Int32 → Int32 → Int32 → Int32 → Int32 → Int32 → Int32 → Int32 → (Nat → Int32) → (Nat → Int32) → (Nat → Int32) → (Nat → Int32) → (Nat → Int32) → Prop} {SB : Int} (bW aG bU : Int32) (m_x jA pY rW oY pR pX rG rQ : Nat → Int32) (h_m_fruits : 0 ≤ Int32.toInt bW ∧ Int32.toInt bW ≤ 16) (h_m_standings : 0 ≤ Int32.toInt aG ∧ Int32.toInt aG ≤ 8) (h_m_ruleSize : 0 ≤ Int32.toInt bU ∧ Int32.toInt bU ≤ 40) (h_m_x : ∀ k : Nat, 0 ≤ Int32.toInt (m_x k) ∧ Int32.toInt (m_x k) ≤ 99) (h_m_height : ∀ k : Nat, 0 ≤ Int32.toInt (jA k) ∧ Int32.toInt (jA k) ≤ 99) (h_m_worth : ∀ k : Nat, 0 ≤ Int32.toInt (pY k) ∧ Int32.toInt (pY k) ≤ 9) (h_m_ripe : ∀ k : Nat, 0 ≤ Int32.toInt (rW k) ∧ Int32.toInt (rW k) ≤ 9) (h_m_foot : ∀ k : Nat, 0 ≤ Int32.toInt (oY k) ∧ Int32.toInt (oY k) ≤ 99) (h_m_fork : ∀ k : Nat, 0 ≤ Int32.toInt (pR k) ∧ Int32.toInt (pR k) ≤ 99) (e0_m_told : ∀ k : Nat, k = 4 → 1 ≤ Int32.toInt (pX k) ∧ Int32.toInt (pX k) ≤ 30) (e1_m_told : ∀ k : Nat, k = 3 → 0 ≤ Int32.toInt (pX k) ∧ Int32.toInt (pX k) ≤ 9) (h_m_text : ∀ k : Nat, -128 ≤ Int32.toInt (rG k) ∧ Int32.toInt (rG k) ≤ 127) (h_m_rule : ∀ k : Nat, -128 ≤ Int32.toInt (rQ k) ∧ Int32.toInt (rQ k) ≤ 127) (hc0 : -1 ≤ SB ∧ SB ≤ 7) (hc1 : (Int32.toInt aG ≤ 0 ∧ SB = 0) ∨ (1 ≤ Int32.toInt aG ∧ SB = Int32.toInt aG - 1)) (hpost : ∀ (r : Int32) (m_typed' : Int32) (m_rowMany' : Int32) (m_thrown' : Int32) (m_read' : Nat) (m_length' : Int32) (m_top' : Int32) (m_at' : Int32) (m_wrong' : Int32) (m_isAsked' : Int32) (m_askedFruit' : Int32) (m_askedStanding' : Int32) (m_askedHook' : Int32) (m_askedApron' : Int32) (m_undoMany' : Int32) (m_picked' : Int32) (m_now' : Nat → Int32) (m_row' : Nat → Int32) (m_undos' : Nat → Int32) (m_aside' : Nat → Int32) (m_acts' : Nat → Int32), (-100 ≤ Int32.toInt r ∧ Int32.toInt r ≤ 62) → (0 ≤ Int32.toInt m_typed' ∧ Int32.toInt m_typed' ≤ 0) → (0 ≤ Int32.toInt m_rowMany' ∧ Int32.toInt m_rowMany' ≤ 16) → (0 ≤ Int32.toInt m_thrown' ∧ Int32.toInt m_thrown' ≤ 0) → (m_read' = 0 ∨ m_read' = 1 ∨ m_read' = 2) → (0 ≤ Int32.toInt m_length' ∧ Int32.toInt m_length' ≤ 80) → (0 ≤ Int32.toInt m_top' ∧ Int32.toInt m_top' ≤ 80) → (0 ≤ Int32.toInt m_at' ∧ Int32.toInt m_at' ≤ 80) → (-1 ≤ Int32.toInt m_wrong' ∧ Int32.toInt m_wrong' ≤ 80) → (0 ≤ Int32.toInt m_isAsked' ∧ Int32.toInt m_isAsked' ≤ 0) → (0 ≤ Int32.toInt m_askedFruit' ∧ Int32.toInt m_askedFruit' ≤ 15) → (0 ≤ Int32.toInt m_askedStanding' ∧ Int32.toInt m_askedStanding' ≤ 7) → (0 ≤ Int32.toInt m_askedHook' ∧ Int32.toInt m_askedHook' ≤ 1) → (0 ≤ Int32.toInt m_askedApron' ∧ Int32.toInt m_askedApron' ≤ 63) → (0 ≤ Int32.toInt m_undoMany' ∧ Int32.toInt m_undoMany' ≤ 12) → (∀ k : Nat, k = 17 → -1 ≤ Int32.toInt (m_now' k) ∧ Int32.toInt (m_now' k) ≤ SB) → (∀ k : Nat, k = 19 → 0 ≤ Int32.toInt (m_now' k) ∧ Int32.toInt (m_now' k) ≤ 9) → (∀ k : Nat, k % 21 = 17 → -1 ≤ Int32.toInt (m_undos' k) ∧ Int32.toInt (m_undos' k) ≤ SB) → (∀ k : Nat, k % 21 = 19 → 0 ≤ Int32.toInt (m_undos' k) ∧ Int32.toInt (m_undos' k) ≤ 9) → (∀ k : Nat, k = 17 → -1 ≤ Int32.toInt (m_aside' k) ∧ Int32.toInt (m_aside' k) ≤ SB) → (∀ k : Nat, k = 19 → 0 ≤ Int32.toInt (m_aside' k) ∧ Int32.toInt (m_aside' k) ≤ 9) → (∀ k : Nat, -1 ≤ Int32.toInt (m_acts' k) ∧ Int32.toInt (m_acts' k) ≤ 255) → post r m_typed' m_rowMany' m_thrown' m_read' m_length' m_top' m_at' m_wrong' m_isAsked' m_askedFruit' m_askedStanding' m_askedHook' m_askedApron' m_undoMany' m_picked' m_now' m_row' m_undos' m_aside' m_acts') (x1 jG bQ dG : Int32) (jY : Nat) (m_length qG uW eY dN aR aE bJ aW bT gJ : Int32) (rD uM uQ uZ wE : Nat → Int32) (h_x1 : 0 ≤ Int32.toInt x1 ∧ Int32.toInt x1 ≤ 62) (h_m_typed : 0 ≤ Int32.toInt jG ∧ Int32.toInt jG ≤ 0) (h_m_rowMany : 0 ≤ Int32.toInt bQ ∧ Int32.toInt bQ ≤ 16) (h_m_thrown : 0 ≤ Int32.toInt dG ∧ Int32.toInt dG ≤ 0) (h_m_read : jY = 1) (h_m_length : 0 ≤ Int32.toInt m_length ∧ Int32.toInt m_length ≤ 80) (h_m_top : 60 ≤ Int32.toInt qG ∧ Int32.toInt qG ≤ 60) (h_m_at : 0 ≤ Int32.toInt uW ∧ Int32.toInt uW ≤ 80) (h_m_wrong : -1 ≤ Int32.toInt eY ∧ Int32.toInt eY ≤ 80) (h_m_isAsked : 0 ≤ Int32.toInt dN ∧ Int32.toInt dN ≤ 0) (h_m_askedFruit : 0 ≤ Int32.toInt aR ∧ Int32.toInt aR ≤ 15) (h_m_askedStanding : 0 ≤ Int32.toInt aE ∧ Int32.toInt aE ≤ 7) (h_m_askedHook : 0 ≤ Int32.toInt bJ ∧ Int32.toInt bJ ≤ 1) (h_m_askedApron : 0 ≤ Int32.toInt aW ∧ Int32.toInt aW ≤ 63) (h_m_undoMany : 0 ≤ Int32.toInt bT ∧ Int32.toInt bT ≤ 12) (e0_m_now : ∀ k : Nat, k = 17 → -1 ≤ Int32.toInt (rD k) ∧ Int32.toInt (rD k) ≤ SB) (e1_m_now : ∀ k : Nat, k = 19 → 0 ≤ Int32.toInt (rD k) ∧ Int32.toInt (rD k) ≤ 9) (e0_m_undos : ∀ k : Nat, k % 21 = 17 → -1 ≤ Int32.toInt (uQ k) ∧ Int32.toInt (uQ k) ≤ SB) (e1_m_undos : ∀ k : Nat, k % 21 = 19 → 0 ≤ Int32.toInt (uQ k) ∧ Int32.toInt (uQ k) ≤ 9) (e0_m_aside : ∀ k : Nat, k = 17 → -1 ≤ Int32.toInt (uZ k) ∧ Int32.toInt (uZ k) ≤ SB) (e1_m_aside : ∀ k : Nat, k = 19 → 0 ≤ Int32.toInt (uZ k) ∧ Int32.toInt (uZ k) ≤ 9) (h_m_acts : ∀ k : Nat, -1 ≤ Int32.toInt (wE k) ∧ Int32.toInt (wE k) ≤ 255) : ws_X10_day_70 post bW aG bU m_x jA pY rW oY pR pX rG rQ x1 jG bQ dG jY m_length qG uW eY dN aR aE bJ aW bT gJ rD uM uQ uZ wE := by
  have l0 := li_m1
  refine And.intro (fun c46 => ?_) (fun c46 => ?_)
  · skip
    have c46 := (fa_le _ _).mp c46
    have f47 := tp_r gJ
    exact ts_X10_day_89 bW aG bU m_x jA pY rW oY pR pX rG rQ h_m_fruits h_m_standings h_m_ruleSize h_m_x h_m_height h_m_worth h_m_ripe h_m_foot h_m_fork e0_m_told e1_m_told h_m_text h_m_rule hc0 hc1 hpost x1 jG bQ dG jY m_length qG uW eY dN aR aE bJ aW bT gJ rD uM uQ uZ wE h_x1 h_m_typed h_m_rowMany h_m_thrown h_m_read h_m_length h_m_top h_m_at h_m_wrong h_m_isAsked h_m_askedFruit h_m_askedStanding h_m_askedHook h_m_askedApron h_m_undoMany e0_m_now e1_m_now e0_m_undos e1_m_undos e0_m_aside e1_m_aside h_m_acts
  · skip
    have c46 := mt (fa_le _ _).mpr c46
    refine And.intro (fun c48 => ?_) (fun c48 => ?_)
    · skip
      have c48 := mt (fa_eq _ _).mpr c48
      refine And.intro (fun _ => ?_) (fun h9 => absurd h9 (by decide))
      have f49 := tp_r gJ
      exact ts_X10_day_89 bW aG bU m_x jA pY rW oY pR pX rG rQ h_m_fruits h_m_standings h_m_ruleSize h_m_x h_m_height h_m_worth h_m_ripe h_m_foot h_m_fork e0_m_told e1_m_told h_m_text h_m_rule hc0 hc1 hpost x1 jG bQ dG jY m_length qG uW eY dN aR aE bJ aW bT gJ rD uM uQ uZ wE h_x1 h_m_typed h_m_rowMany h_m_thrown h_m_read h_m_length h_m_top h_m_at h_m_wrong h_m_isAsked h_m_askedFruit h_m_askedStanding h_m_askedHook h_m_askedApron h_m_undoMany e0_m_now e1_m_now e0_m_undos e1_m_undos e0_m_aside e1_m_aside h_m_acts
    · skip
      have c48 := (fa_eq _ _).mp c48
      refine And.intro (fun h9 => absurd h9 (by decide)) (fun _ => ?_)
      have f50 := tp_r gJ
      exact ts_X10_day_89 bW aG bU m_x jA pY rW oY pR pX rG rQ h_m_fruits h_m_standings h_m_ruleSize h_m_x h_m_height h_m_worth h_m_ripe h_m_foot h_m_fork e0_m_told e1_m_told h_m_text h_m_rule hc0 hc1 hpost x1 jG bQ dG jY m_length qG uW uW dN aR aE bJ aW bT gJ rD uM uQ uZ wE h_x1 h_m_typed h_m_rowMany h_m_thrown h_m_read h_m_length h_m_top h_m_at (by omega) h_m_isAsked h_m_askedFruit h_m_askedStanding h_m_askedHook h_m_askedApron h_m_undoMany e0_m_now e1_m_now e0_m_undos e1_m_undos e0_m_aside e1_m_aside h_m_acts
set_option maxHeartbeats 8000000 in
set_option maxRecDepth 200000 in
theorem ts_X10_day_39 {post : Int32 → Int32 → Int32 → Int32 → Nat → Int32 → Int32 → Int32 → Int32 → Int32 → Int32 → Int32 → Int32 → Int32 → Int32 → Int32 → (Nat → Int32) → (Nat → Int32) → (Nat → Int32) → (Nat → Int32) → (Nat → Int32) → Prop} {SB : Int} {next : Int32 → Int32 → Int32 → Int32 → Int32 → Nat → Int32 → Int32 → Int32 → Int32 → Int32 → Int32 → Int32 → Int32 → Int32 → Int32 → Int32 → (Nat → Int32) → (Nat → Int32) → (Nat → Int32) → (Nat → Int32) → (Nat → Int32) → Prop} {n39 : Int} (bW aG bU : Int32) (m_x jA pY rW oY pR pX rG rQ : Nat → Int32) (h_m_fruits : 0 ≤ Int32.toInt bW ∧ Int32.toInt bW ≤ 16) (h_m_standings : 0 ≤ Int32.toInt aG ∧ Int32.toInt aG ≤ 8) (h_m_ruleSize : 0 ≤ Int32.toInt bU ∧ Int32.toInt bU ≤ 40) (h_m_x : ∀ k : Nat, 0 ≤ Int32.toInt (m_x k) ∧ Int32.toInt (m_x k) ≤ 99) (h_m_height : ∀ k : Nat, 0 ≤ Int32.toInt (jA k) ∧ Int32.toInt (jA k) ≤ 99) (h_m_worth : ∀ k : Nat, 0 ≤ Int32.toInt (pY k) ∧ Int32.toInt (pY k) ≤ 9) (h_m_ripe : ∀ k : Nat, 0 ≤ Int32.toInt (rW k) ∧ Int32.toInt (rW k) ≤ 9) (h_m_foot : ∀ k : Nat, 0 ≤ Int32.toInt (oY k) ∧ Int32.toInt (oY k) ≤ 99) (h_m_fork : ∀ k : Nat, 0 ≤ Int32.toInt (pR k) ∧ Int32.toInt (pR k) ≤ 99) (e0_m_told : ∀ k : Nat, k = 4 → 1 ≤ Int32.toInt (pX k) ∧ Int32.toInt (pX k) ≤ 30) (e1_m_told : ∀ k : Nat, k = 3 → 0 ≤ Int32.toInt (pX k) ∧ Int32.toInt (pX k) ≤ 9) (h_m_text : ∀ k : Nat, -128 ≤ Int32.toInt (rG k) ∧ Int32.toInt (rG k) ≤ 127) (h_m_rule : ∀ k : Nat, -128 ≤ Int32.toInt (rQ k) ∧ Int32.toInt (rQ k) ≤ 127) (hc0 : -1 ≤ SB ∧ SB ≤ 7) (hc1 : (Int32.toInt aG ≤ 0 ∧ SB = 0) ∨ (1 ≤ Int32.toInt aG ∧ SB = Int32.toInt aG - 1)) (hpost : ∀ (r : Int32) (m_typed' : Int32) (m_rowMany' : Int32) (m_thrown' : Int32) (m_read' : Nat) (m_length' : Int32) (m_top' : Int32) (m_at' : Int32) (m_wrong' : Int32) (m_isAsked' : Int32) (m_askedFruit' : Int32) (m_askedStanding' : Int32) (m_askedHook' : Int32) (m_askedApron' : Int32) (m_undoMany' : Int32) (m_picked' : Int32) (m_now' : Nat → Int32) (m_row' : Nat → Int32) (m_undos' : Nat → Int32) (m_aside' : Nat → Int32) (m_acts' : Nat → Int32), (-100 ≤ Int32.toInt r ∧ Int32.toInt r ≤ 62) → (0 ≤ Int32.toInt m_typed' ∧ Int32.toInt m_typed' ≤ 0) → (0 ≤ Int32.toInt m_rowMany' ∧ Int32.toInt m_rowMany' ≤ 16) → (0 ≤ Int32.toInt m_thrown' ∧ Int32.toInt m_thrown' ≤ 0) → (m_read' = 0 ∨ m_read' = 1 ∨ m_read' = 2) → (0 ≤ Int32.toInt m_length' ∧ Int32.toInt m_length' ≤ 80) → (0 ≤ Int32.toInt m_top' ∧ Int32.toInt m_top' ≤ 80) → (0 ≤ Int32.toInt m_at' ∧ Int32.toInt m_at' ≤ 80) → (-1 ≤ Int32.toInt m_wrong' ∧ Int32.toInt m_wrong' ≤ 80) → (0 ≤ Int32.toInt m_isAsked' ∧ Int32.toInt m_isAsked' ≤ 0) → (0 ≤ Int32.toInt m_askedFruit' ∧ Int32.toInt m_askedFruit' ≤ 15) → (0 ≤ Int32.toInt m_askedStanding' ∧ Int32.toInt m_askedStanding' ≤ 7) → (0 ≤ Int32.toInt m_askedHook' ∧ Int32.toInt m_askedHook' ≤ 1) → (0 ≤ Int32.toInt m_askedApron' ∧ Int32.toInt m_askedApron' ≤ 63) → (0 ≤ Int32.toInt m_undoMany' ∧ Int32.toInt m_undoMany' ≤ 12) → (∀ k : Nat, k = 17 → -1 ≤ Int32.toInt (m_now' k) ∧ Int32.toInt (m_now' k) ≤ SB) → (∀ k : Nat, k = 19 → 0 ≤ Int32.toInt (m_now' k) ∧ Int32.toInt (m_now' k) ≤ 9) → (∀ k : Nat, k % 21 = 17 → -1 ≤ Int32.toInt (m_undos' k) ∧ Int32.toInt (m_undos' k) ≤ SB) → (∀ k : Nat, k % 21 = 19 → 0 ≤ Int32.toInt (m_undos' k) ∧ Int32.toInt (m_undos' k) ≤ 9) → (∀ k : Nat, k = 17 → -1 ≤ Int32.toInt (m_aside' k) ∧ Int32.toInt (m_aside' k) ≤ SB) → (∀ k : Nat, k = 19 → 0 ≤ Int32.toInt (m_aside' k) ∧ Int32.toInt (m_aside' k) ≤ 9) → (∀ k : Nat, -1 ≤ Int32.toInt (m_acts' k) ∧ Int32.toInt (m_acts' k) ≤ 255) → post r m_typed' m_rowMany' m_thrown' m_read' m_length' m_top' m_at' m_wrong' m_isAsked' m_askedFruit' m_askedStanding' m_askedHook' m_askedApron' m_undoMany' m_picked' m_now' m_row' m_undos' m_aside' m_acts') (hKn : ∀ (x1 : Int32) (x2 : Int32) (jG : Int32) (bQ : Int32) (dG : Int32) (jY : Nat) (m_length : Int32) (qG : Int32) (uW : Int32) (eY : Int32) (dN : Int32) (aR : Int32) (aE : Int32) (bJ : Int32) (aW : Int32) (bT : Int32) (gJ : Int32) (rD : Nat → Int32) (uM : Nat → Int32) (uQ : Nat → Int32) (uZ : Nat → Int32) (wE : Nat → Int32), (0 ≤ Int32.toInt x1 ∧ Int32.toInt x1 ≤ 62) → (0 ≤ Int32.toInt x2 ∧ Int32.toInt x2 ≤ 1) → (0 ≤ Int32.toInt jG ∧ Int32.toInt jG ≤ 0) → (0 ≤ Int32.toInt bQ ∧ Int32.toInt bQ ≤ 16) → (0 ≤ Int32.toInt dG ∧ Int32.toInt dG ≤ 0) → (jY = 1) → (0 ≤ Int32.toInt m_length ∧ Int32.toInt m_length ≤ 80) → (60 ≤ Int32.toInt qG ∧ Int32.toInt qG ≤ 60) → (0 ≤ Int32.toInt uW ∧ Int32.toInt uW ≤ 80) → (-1 ≤ Int32.toInt eY ∧ Int32.toInt eY ≤ 80) → (0 ≤ Int32.toInt dN ∧ Int32.toInt dN ≤ 0) → (0 ≤ Int32.toInt aR ∧ Int32.toInt aR ≤ 15) → (0 ≤ Int32.toInt aE ∧ Int32.toInt aE ≤ 7) → (0 ≤ Int32.toInt bJ ∧ Int32.toInt bJ ≤ 1) → (0 ≤ Int32.toInt aW ∧ Int32.toInt aW ≤ 63) → (0 ≤ Int32.toInt bT ∧ Int32.toInt bT ≤ 12) → (∀ k : Nat, k = 17 → -1 ≤ Int32.toInt (rD k) ∧ Int32.toInt (rD k) ≤ SB) → (∀ k : Nat, k = 19 → 0 ≤ Int32.toInt (rD k) ∧ Int32.toInt (rD k) ≤ 9) → (∀ k : Nat, k % 21 = 17 → -1 ≤ Int32.toInt (uQ k) ∧ Int32.toInt (uQ k) ≤ SB) → (∀ k : Nat, k % 21 = 19 → 0 ≤ Int32.toInt (uQ k) ∧ Int32.toInt (uQ k) ≤ 9) → (∀ k : Nat, k = 17 → -1 ≤ Int32.toInt (uZ k) ∧ Int32.toInt (uZ k) ≤ SB) → (∀ k : Nat, k = 19 → 0 ≤ Int32.toInt (uZ k) ∧ Int32.toInt (uZ k) ≤ 9) → (∀ k : Nat, -1 ≤ Int32.toInt (wE k) ∧ Int32.toInt (wE k) ≤ 255) → (Int32.toInt x1 ≤ Int32.toInt uW) → (Int32.toInt uW ≤ 61 - Int32.toInt x2) → (80 - Int32.toInt uW + Int32.toInt x2 < n39) → next x1 x2 jG bQ dG jY m_length qG uW eY dN aR aE bJ aW bT gJ rD uM uQ uZ wE) (x1 x2 jG bQ dG : Int32) (jY : Nat) (m_length qG uW eY dN aR aE bJ aW bT gJ : Int32) (rD uM uQ uZ wE : Nat → Int32) (h_x1 : 0 ≤ Int32.toInt x1 ∧ Int32.toInt x1 ≤ 62) (h_x2 : 0 ≤ Int32.toInt x2 ∧ Int32.toInt x2 ≤ 1) (h_m_typed : 0 ≤ Int32.toInt jG ∧ Int32.toInt jG ≤ 0) (h_m_rowMany : 0 ≤ Int32.toInt bQ ∧ Int32.toInt bQ ≤ 16) (h_m_thrown : 0 ≤ Int32.toInt dG ∧ Int32.toInt dG ≤ 0) (h_m_read : jY = 1) (h_m_length : 0 ≤ Int32.toInt m_length ∧ Int32.toInt m_length ≤ 80) (h_m_top : 60 ≤ Int32.toInt qG ∧ Int32.toInt qG ≤ 60) (h_m_at : 0 ≤ Int32.toInt uW ∧ Int32.toInt uW ≤ 80) (h_m_wrong : -1 ≤ Int32.toInt eY ∧ Int32.toInt eY ≤ 80) (h_m_isAsked : 0 ≤ Int32.toInt dN ∧ Int32.toInt dN ≤ 0) (h_m_askedFruit : 0 ≤ Int32.toInt aR ∧ Int32.toInt aR ≤ 15) (h_m_askedStanding : 0 ≤ Int32.toInt aE ∧ Int32.toInt aE ≤ 7) (h_m_askedHook : 0 ≤ Int32.toInt bJ ∧ Int32.toInt bJ ≤ 1) (h_m_askedApron : 0 ≤ Int32.toInt aW ∧ Int32.toInt aW ≤ 63) (h_m_undoMany : 0 ≤ Int32.toInt bT ∧ Int32.toInt bT ≤ 12) (e0_m_now : ∀ k : Nat, k = 17 → -1 ≤ Int32.toInt (rD k) ∧ Int32.toInt (rD k) ≤ SB) (e1_m_now : ∀ k : Nat, k = 19 → 0 ≤ Int32.toInt (rD k) ∧ Int32.toInt (rD k) ≤ 9) (e0_m_undos : ∀ k : Nat, k % 21 = 17 → -1 ≤ Int32.toInt (uQ k) ∧ Int32.toInt (uQ k) ≤ SB) (e1_m_undos : ∀ k : Nat, k % 21 = 19 → 0 ≤ Int32.toInt (uQ k) ∧ Int32.toInt (uQ k) ≤ 9) (e0_m_aside : ∀ k : Nat, k = 17 → -1 ≤ Int32.toInt (uZ k) ∧ Int32.toInt (uZ k) ≤ SB) (e1_m_aside : ∀ k : Nat, k = 19 → 0 ≤ Int32.toInt (uZ k) ∧ Int32.toInt (uZ k) ≤ 9) (h_m_acts : ∀ k : Nat, -1 ≤ Int32.toInt (wE k) ∧ Int32.toInt (wE k) ≤ 255) (hx0 : Int32.toInt x1 ≤ Int32.toInt uW) (hx1 : Int32.toInt uW ≤ 61 - Int32.toInt x2) (hn39 : 80 - Int32.toInt uW + Int32.toInt x2 ≤ n39) : ws_X10_day_39 post next bW aG bU m_x jA pY rW oY pR pX rG rQ x1 x2 jG bQ dG jY m_length qG uW eY dN aR aE bJ aW bT gJ rD uM uQ uZ wE := by
  have l0 := li_m1
  have l1 := li_0
  have l2 := li_1
  have l3 := li_2
  have l4 := li_59
  refine And.intro (fun c51 => ?_) (fun c51 => ?_)
  · skip
    have c51 := (fa_eq _ _).mp c51
    have f52 := tp_r gJ
    exact ts_X10_day_70 bW aG bU m_x jA pY rW oY pR pX rG rQ h_m_fruits h_m_standings h_m_ruleSize h_m_x h_m_height h_m_worth h_m_ripe h_m_foot h_m_fork e0_m_told e1_m_told h_m_text h_m_rule hc0 hc1 hpost x1 jG bQ dG jY m_length qG uW eY dN aR aE bJ aW bT gJ rD uM uQ uZ wE h_x1 h_m_typed h_m_rowMany h_m_thrown h_m_read h_m_length h_m_top h_m_at h_m_wrong h_m_isAsked h_m_askedFruit h_m_askedStanding h_m_askedHook h_m_askedApron h_m_undoMany e0_m_now e1_m_now e0_m_undos e1_m_undos e0_m_aside e1_m_aside h_m_acts
  · skip
    have c51 := mt (fa_eq _ _).mpr c51
    refine And.intro (fun c53 => ?_) (fun c53 => ?_)
    · skip
      have c53 := mt (fa_eq _ _).mpr c53
      refine And.intro (fun _ => ?_) (fun h9 => absurd h9 (by decide))
      have f54 := tp_r gJ
      exact ts_X10_day_70 bW aG bU m_x jA pY rW oY pR pX rG rQ h_m_fruits h_m_standings h_m_ruleSize h_m_x h_m_height h_m_worth h_m_ripe h_m_foot h_m_fork e0_m_told e1_m_told h_m_text h_m_rule hc0 hc1 hpost x1 jG bQ dG jY m_length qG uW eY dN aR aE bJ aW bT gJ rD uM uQ uZ wE h_x1 h_m_typed h_m_rowMany h_m_thrown h_m_read h_m_length h_m_top h_m_at h_m_wrong h_m_isAsked h_m_askedFruit h_m_askedStanding h_m_askedHook h_m_askedApron h_m_undoMany e0_m_now e1_m_now e0_m_undos e1_m_undos e0_m_aside e1_m_aside h_m_acts
    · skip
      have c53 := (fa_eq _ _).mp c53
      refine And.intro (fun h9 => absurd h9 (by decide)) (fun _ => ?_)
      intro v55 ev55
      have f56 : Int32.toInt (2 * x1) = Int32.toInt x1 * 2 := ta_cmul _ _ (by decide) (by omega)
      rw [← ev55] at f56
      refine t_X10_readAct (by omega) h_m_read h_m_length h_m_top h_m_at (by omega) h_m_text h_m_rule h_m_acts (by omega) (fun m_at_57 m_wrong_58 m_acts_59 h_m_at_57 h_m_wrong_58 h_m_acts_59 ox60 ox61 => ?_)
      intro v62 ev62
      have f63 : Int32.toInt (x1 + 1) = Int32.toInt x1 + Int32.toInt (1 : Int32) := ta_add _ _ (by omega)
      rw [← ev62] at f63
      refine And.intro (fun c64 => ?_) (fun c64 => ?_)
      · skip
        have c64 := mt (fa_eq _ _).mpr c64
        refine And.intro (fun _ => ?_) (fun h9 => absurd h9 (by decide))
        have f65 := tp_r gJ
        exact hKn v62 0 jG bQ dG jY m_length qG m_at_57 m_wrong_58 dN aR aE bJ aW bT gJ rD uM uQ uZ m_acts_59 (by omega) (by omega) h_m_typed h_m_rowMany h_m_thrown h_m_read h_m_length h_m_top h_m_at_57 h_m_wrong_58 h_m_isAsked h_m_askedFruit h_m_askedStanding h_m_askedHook h_m_askedApron h_m_undoMany e0_m_now e1_m_now e0_m_undos e1_m_undos e0_m_aside e1_m_aside h_m_acts_59 (by omega) (by omega) (by omega)
      · skip
        have c64 := (fa_eq _ _).mp c64
        refine And.intro (fun h9 => absurd h9 (by decide)) (fun _ => ?_)
        refine t_X10_here (by first | exact h_m_read | exact Or.inl rfl | exact Or.inr rfl | omega) h_m_length (by omega) h_m_at_57 h_m_text h_m_rule (by omega) (fun r66 h_r66 ox67 ox68 => ?_)
        refine And.intro (fun c69 => ?_) (fun c69 => ?_)
        · skip
          have c69 := (fa_eq _ _).mp c69
          intro v70 ev70
          have f71 : Int32.toInt (m_at_57 + 1) = Int32.toInt m_at_57 + Int32.toInt (1 : Int32) := ta_add _ _ (by omega)
          rw [← ev70] at f71
          have f72 := tp_r gJ
          exact hKn v62 1 jG bQ dG jY m_length qG v70 m_wrong_58 dN aR aE bJ aW bT gJ rD uM uQ uZ m_acts_59 (by omega) (by omega) h_m_typed h_m_rowMany h_m_thrown h_m_read h_m_length h_m_top (by omega) h_m_wrong_58 h_m_isAsked h_m_askedFruit h_m_askedStanding h_m_askedHook h_m_askedApron h_m_undoMany e0_m_now e1_m_now e0_m_undos e1_m_undos e0_m_aside e1_m_aside h_m_acts_59 (by omega) (by omega) (by omega)
        · skip
          have c69 := mt (fa_eq _ _).mpr c69
          have f73 := tp_r gJ
          exact hKn v62 0 jG bQ dG jY m_length qG m_at_57 m_wrong_58 dN aR aE bJ aW bT gJ rD uM uQ uZ m_acts_59 (by omega) (by omega) h_m_typed h_m_rowMany h_m_thrown h_m_read h_m_length h_m_top h_m_at_57 h_m_wrong_58 h_m_isAsked h_m_askedFruit h_m_askedStanding h_m_askedHook h_m_askedApron h_m_undoMany e0_m_now e1_m_now e0_m_undos e1_m_undos e0_m_aside e1_m_aside h_m_acts_59 (by omega) (by omega) (by omega)
set_option maxHeartbeats 8000000 in
set_option maxRecDepth 200000 in
theorem tb_X10_day_39 {post : Int32 → Int32 → Int32 → Int32 → Nat → Int32 → Int32 → Int32 → Int32 → Int32 → Int32 → Int32 → Int32 → Int32 → Int32 → Int32 → (Nat → Int32) → (Nat → Int32) → (Nat → Int32) → (Nat → Int32) → (Nat → Int32) → Prop} {SB : Int} (bW aG bU : Int32) (m_x jA pY rW oY pR pX rG rQ : Nat → Int32) (h_m_fruits : 0 ≤ Int32.toInt bW ∧ Int32.toInt bW ≤ 16) (h_m_standings : 0 ≤ Int32.toInt aG ∧ Int32.toInt aG ≤ 8) (h_m_ruleSize : 0 ≤ Int32.toInt bU ∧ Int32.toInt bU ≤ 40) (h_m_x : ∀ k : Nat, 0 ≤ Int32.toInt (m_x k) ∧ Int32.toInt (m_x k) ≤ 99) (h_m_height : ∀ k : Nat, 0 ≤ Int32.toInt (jA k) ∧ Int32.toInt (jA k) ≤ 99) (h_m_worth : ∀ k : Nat, 0 ≤ Int32.toInt (pY k) ∧ Int32.toInt (pY k) ≤ 9) (h_m_ripe : ∀ k : Nat, 0 ≤ Int32.toInt (rW k) ∧ Int32.toInt (rW k) ≤ 9) (h_m_foot : ∀ k : Nat, 0 ≤ Int32.toInt (oY k) ∧ Int32.toInt (oY k) ≤ 99) (h_m_fork : ∀ k : Nat, 0 ≤ Int32.toInt (pR k) ∧ Int32.toInt (pR k) ≤ 99) (e0_m_told : ∀ k : Nat, k = 4 → 1 ≤ Int32.toInt (pX k) ∧ Int32.toInt (pX k) ≤ 30) (e1_m_told : ∀ k : Nat, k = 3 → 0 ≤ Int32.toInt (pX k) ∧ Int32.toInt (pX k) ≤ 9) (h_m_text : ∀ k : Nat, -128 ≤ Int32.toInt (rG k) ∧ Int32.toInt (rG k) ≤ 127) (h_m_rule : ∀ k : Nat, -128 ≤ Int32.toInt (rQ k) ∧ Int32.toInt (rQ k) ≤ 127) (hc0 : -1 ≤ SB ∧ SB ≤ 7) (hc1 : (Int32.toInt aG ≤ 0 ∧ SB = 0) ∨ (1 ≤ Int32.toInt aG ∧ SB = Int32.toInt aG - 1)) (hpost : ∀ (r : Int32) (m_typed' : Int32) (m_rowMany' : Int32) (m_thrown' : Int32) (m_read' : Nat) (m_length' : Int32) (m_top' : Int32) (m_at' : Int32) (m_wrong' : Int32) (m_isAsked' : Int32) (m_askedFruit' : Int32) (m_askedStanding' : Int32) (m_askedHook' : Int32) (m_askedApron' : Int32) (m_undoMany' : Int32) (m_picked' : Int32) (m_now' : Nat → Int32) (m_row' : Nat → Int32) (m_undos' : Nat → Int32) (m_aside' : Nat → Int32) (m_acts' : Nat → Int32), (-100 ≤ Int32.toInt r ∧ Int32.toInt r ≤ 62) → (0 ≤ Int32.toInt m_typed' ∧ Int32.toInt m_typed' ≤ 0) → (0 ≤ Int32.toInt m_rowMany' ∧ Int32.toInt m_rowMany' ≤ 16) → (0 ≤ Int32.toInt m_thrown' ∧ Int32.toInt m_thrown' ≤ 0) → (m_read' = 0 ∨ m_read' = 1 ∨ m_read' = 2) → (0 ≤ Int32.toInt m_length' ∧ Int32.toInt m_length' ≤ 80) → (0 ≤ Int32.toInt m_top' ∧ Int32.toInt m_top' ≤ 80) → (0 ≤ Int32.toInt m_at' ∧ Int32.toInt m_at' ≤ 80) → (-1 ≤ Int32.toInt m_wrong' ∧ Int32.toInt m_wrong' ≤ 80) → (0 ≤ Int32.toInt m_isAsked' ∧ Int32.toInt m_isAsked' ≤ 0) → (0 ≤ Int32.toInt m_askedFruit' ∧ Int32.toInt m_askedFruit' ≤ 15) → (0 ≤ Int32.toInt m_askedStanding' ∧ Int32.toInt m_askedStanding' ≤ 7) → (0 ≤ Int32.toInt m_askedHook' ∧ Int32.toInt m_askedHook' ≤ 1) → (0 ≤ Int32.toInt m_askedApron' ∧ Int32.toInt m_askedApron' ≤ 63) → (0 ≤ Int32.toInt m_undoMany' ∧ Int32.toInt m_undoMany' ≤ 12) → (∀ k : Nat, k = 17 → -1 ≤ Int32.toInt (m_now' k) ∧ Int32.toInt (m_now' k) ≤ SB) → (∀ k : Nat, k = 19 → 0 ≤ Int32.toInt (m_now' k) ∧ Int32.toInt (m_now' k) ≤ 9) → (∀ k : Nat, k % 21 = 17 → -1 ≤ Int32.toInt (m_undos' k) ∧ Int32.toInt (m_undos' k) ≤ SB) → (∀ k : Nat, k % 21 = 19 → 0 ≤ Int32.toInt (m_undos' k) ∧ Int32.toInt (m_undos' k) ≤ 9) → (∀ k : Nat, k = 17 → -1 ≤ Int32.toInt (m_aside' k) ∧ Int32.toInt (m_aside' k) ≤ SB) → (∀ k : Nat, k = 19 → 0 ≤ Int32.toInt (m_aside' k) ∧ Int32.toInt (m_aside' k) ≤ 9) → (∀ k : Nat, -1 ≤ Int32.toInt (m_acts' k) ∧ Int32.toInt (m_acts' k) ≤ 255) → post r m_typed' m_rowMany' m_thrown' m_read' m_length' m_top' m_at' m_wrong' m_isAsked' m_askedFruit' m_askedStanding' m_askedHook' m_askedApron' m_undoMany' m_picked' m_now' m_row' m_undos' m_aside' m_acts') : ∀ (n : Nat) (x1 x2 jG bQ dG : Int32) (jY : Nat) (m_length qG uW eY dN aR aE bJ aW bT gJ : Int32) (rD uM uQ uZ wE : Nat → Int32), (0 ≤ Int32.toInt x1 ∧ Int32.toInt x1 ≤ 62) → (0 ≤ Int32.toInt x2 ∧ Int32.toInt x2 ≤ 1) → (0 ≤ Int32.toInt jG ∧ Int32.toInt jG ≤ 0) → (0 ≤ Int32.toInt bQ ∧ Int32.toInt bQ ≤ 16) → (0 ≤ Int32.toInt dG ∧ Int32.toInt dG ≤ 0) → (jY = 1) → (0 ≤ Int32.toInt m_length ∧ Int32.toInt m_length ≤ 80) → (60 ≤ Int32.toInt qG ∧ Int32.toInt qG ≤ 60) → (0 ≤ Int32.toInt uW ∧ Int32.toInt uW ≤ 80) → (-1 ≤ Int32.toInt eY ∧ Int32.toInt eY ≤ 80) → (0 ≤ Int32.toInt dN ∧ Int32.toInt dN ≤ 0) → (0 ≤ Int32.toInt aR ∧ Int32.toInt aR ≤ 15) → (0 ≤ Int32.toInt aE ∧ Int32.toInt aE ≤ 7) → (0 ≤ Int32.toInt bJ ∧ Int32.toInt bJ ≤ 1) → (0 ≤ Int32.toInt aW ∧ Int32.toInt aW ≤ 63) → (0 ≤ Int32.toInt bT ∧ Int32.toInt bT ≤ 12) → (∀ k : Nat, k = 17 → -1 ≤ Int32.toInt (rD k) ∧ Int32.toInt (rD k) ≤ SB) → (∀ k : Nat, k = 19 → 0 ≤ Int32.toInt (rD k) ∧ Int32.toInt (rD k) ≤ 9) → (∀ k : Nat, k % 21 = 17 → -1 ≤ Int32.toInt (uQ k) ∧ Int32.toInt (uQ k) ≤ SB) → (∀ k : Nat, k % 21 = 19 → 0 ≤ Int32.toInt (uQ k) ∧ Int32.toInt (uQ k) ≤ 9) → (∀ k : Nat, k = 17 → -1 ≤ Int32.toInt (uZ k) ∧ Int32.toInt (uZ k) ≤ SB) → (∀ k : Nat, k = 19 → 0 ≤ Int32.toInt (uZ k) ∧ Int32.toInt (uZ k) ≤ 9) → (∀ k : Nat, -1 ≤ Int32.toInt (wE k) ∧ Int32.toInt (wE k) ≤ 255) → (Int32.toInt x1 ≤ Int32.toInt uW) → (Int32.toInt uW ≤ 61 - Int32.toInt x2) → (80 - Int32.toInt uW + Int32.toInt x2 < (n : Int)) → wb_X10_day_39 post bW aG bU m_x jA pY rW oY pR pX rG rQ n x1 x2 jG bQ dG jY m_length qG uW eY dN aR aE bJ aW bT gJ rD uM uQ uZ wE := by
  intro n
  induction n with
  | zero =>
    intro x1 x2 jG bQ dG jY m_length qG uW eY dN aR aE bJ aW bT gJ rD uM uQ uZ wE h_x1 h_x2 h_m_typed h_m_rowMany h_m_thrown h_m_read h_m_length h_m_top h_m_at h_m_wrong h_m_isAsked h_m_askedFruit h_m_askedStanding h_m_askedHook h_m_askedApron h_m_undoMany e0_m_now e1_m_now e0_m_undos e1_m_undos e0_m_aside e1_m_aside h_m_acts hx0 hx1 hm
    exfalso; omega
  | succ n ih =>
    intro x1 x2 jG bQ dG jY m_length qG uW eY dN aR aE bJ aW bT gJ rD uM uQ uZ wE h_x1 h_x2 h_m_typed h_m_rowMany h_m_thrown h_m_read h_m_length h_m_top h_m_at h_m_wrong h_m_isAsked h_m_askedFruit h_m_askedStanding h_m_askedHook h_m_askedApron h_m_undoMany e0_m_now e1_m_now e0_m_undos e1_m_undos e0_m_aside e1_m_aside h_m_acts hx0 hx1 hm
    exact ts_X10_day_39 bW aG bU m_x jA pY rW oY pR pX rG rQ h_m_fruits h_m_standings h_m_ruleSize h_m_x h_m_height h_m_worth h_m_ripe h_m_foot h_m_fork e0_m_told e1_m_told h_m_text h_m_rule hc0 hc1 hpost ih x1 x2 jG bQ dG jY m_length qG uW eY dN aR aE bJ aW bT gJ rD uM uQ uZ wE h_x1 h_x2 h_m_typed h_m_rowMany h_m_thrown h_m_read h_m_length h_m_top h_m_at h_m_wrong h_m_isAsked h_m_askedFruit h_m_askedStanding h_m_askedHook h_m_askedApron h_m_undoMany e0_m_now e1_m_now e0_m_undos e1_m_undos e0_m_aside e1_m_aside h_m_acts hx0 hx1 (by omega)
set_option maxHeartbeats 8000000 in
set_option maxRecDepth 200000 in
theorem ts_X10_day_38 {post : Int32 → Int32 → Int32 → Int32 → Nat → Int32 → Int32 → Int32 → Int32 → Int32 → Int32 → Int32 → Int32 → Int32 → Int32 → Int32 → (Nat → Int32) → (Nat → Int32) → (Nat → Int32) → (Nat → Int32) → (Nat → Int32) → Prop} {SB : Int} (bW aG bU : Int32) (m_x jA pY rW oY pR pX rG rQ : Nat → Int32) (h_m_fruits : 0 ≤ Int32.toInt bW ∧ Int32.toInt bW ≤ 16) (h_m_standings : 0 ≤ Int32.toInt aG ∧ Int32.toInt aG ≤ 8) (h_m_ruleSize : 0 ≤ Int32.toInt bU ∧ Int32.toInt bU ≤ 40) (h_m_x : ∀ k : Nat, 0 ≤ Int32.toInt (m_x k) ∧ Int32.toInt (m_x k) ≤ 99) (h_m_height : ∀ k : Nat, 0 ≤ Int32.toInt (jA k) ∧ Int32.toInt (jA k) ≤ 99) (h_m_worth : ∀ k : Nat, 0 ≤ Int32.toInt (pY k) ∧ Int32.toInt (pY k) ≤ 9) (h_m_ripe : ∀ k : Nat, 0 ≤ Int32.toInt (rW k) ∧ Int32.toInt (rW k) ≤ 9) (h_m_foot : ∀ k : Nat, 0 ≤ Int32.toInt (oY k) ∧ Int32.toInt (oY k) ≤ 99) (h_m_fork : ∀ k : Nat, 0 ≤ Int32.toInt (pR k) ∧ Int32.toInt (pR k) ≤ 99) (e0_m_told : ∀ k : Nat, k = 4 → 1 ≤ Int32.toInt (pX k) ∧ Int32.toInt (pX k) ≤ 30) (e1_m_told : ∀ k : Nat, k = 3 → 0 ≤ Int32.toInt (pX k) ∧ Int32.toInt (pX k) ≤ 9) (h_m_text : ∀ k : Nat, -128 ≤ Int32.toInt (rG k) ∧ Int32.toInt (rG k) ≤ 127) (h_m_rule : ∀ k : Nat, -128 ≤ Int32.toInt (rQ k) ∧ Int32.toInt (rQ k) ≤ 127) (hc0 : -1 ≤ SB ∧ SB ≤ 7) (hc1 : (Int32.toInt aG ≤ 0 ∧ SB = 0) ∨ (1 ≤ Int32.toInt aG ∧ SB = Int32.toInt aG - 1)) (hpost : ∀ (r : Int32) (m_typed' : Int32) (m_rowMany' : Int32) (m_thrown' : Int32) (m_read' : Nat) (m_length' : Int32) (m_top' : Int32) (m_at' : Int32) (m_wrong' : Int32) (m_isAsked' : Int32) (m_askedFruit' : Int32) (m_askedStanding' : Int32) (m_askedHook' : Int32) (m_askedApron' : Int32) (m_undoMany' : Int32) (m_picked' : Int32) (m_now' : Nat → Int32) (m_row' : Nat → Int32) (m_undos' : Nat → Int32) (m_aside' : Nat → Int32) (m_acts' : Nat → Int32), (-100 ≤ Int32.toInt r ∧ Int32.toInt r ≤ 62) → (0 ≤ Int32.toInt m_typed' ∧ Int32.toInt m_typed' ≤ 0) → (0 ≤ Int32.toInt m_rowMany' ∧ Int32.toInt m_rowMany' ≤ 16) → (0 ≤ Int32.toInt m_thrown' ∧ Int32.toInt m_thrown' ≤ 0) → (m_read' = 0 ∨ m_read' = 1 ∨ m_read' = 2) → (0 ≤ Int32.toInt m_length' ∧ Int32.toInt m_length' ≤ 80) → (0 ≤ Int32.toInt m_top' ∧ Int32.toInt m_top' ≤ 80) → (0 ≤ Int32.toInt m_at' ∧ Int32.toInt m_at' ≤ 80) → (-1 ≤ Int32.toInt m_wrong' ∧ Int32.toInt m_wrong' ≤ 80) → (0 ≤ Int32.toInt m_isAsked' ∧ Int32.toInt m_isAsked' ≤ 0) → (0 ≤ Int32.toInt m_askedFruit' ∧ Int32.toInt m_askedFruit' ≤ 15) → (0 ≤ Int32.toInt m_askedStanding' ∧ Int32.toInt m_askedStanding' ≤ 7) → (0 ≤ Int32.toInt m_askedHook' ∧ Int32.toInt m_askedHook' ≤ 1) → (0 ≤ Int32.toInt m_askedApron' ∧ Int32.toInt m_askedApron' ≤ 63) → (0 ≤ Int32.toInt m_undoMany' ∧ Int32.toInt m_undoMany' ≤ 12) → (∀ k : Nat, k = 17 → -1 ≤ Int32.toInt (m_now' k) ∧ Int32.toInt (m_now' k) ≤ SB) → (∀ k : Nat, k = 19 → 0 ≤ Int32.toInt (m_now' k) ∧ Int32.toInt (m_now' k) ≤ 9) → (∀ k : Nat, k % 21 = 17 → -1 ≤ Int32.toInt (m_undos' k) ∧ Int32.toInt (m_undos' k) ≤ SB) → (∀ k : Nat, k % 21 = 19 → 0 ≤ Int32.toInt (m_undos' k) ∧ Int32.toInt (m_undos' k) ≤ 9) → (∀ k : Nat, k = 17 → -1 ≤ Int32.toInt (m_aside' k) ∧ Int32.toInt (m_aside' k) ≤ SB) → (∀ k : Nat, k = 19 → 0 ≤ Int32.toInt (m_aside' k) ∧ Int32.toInt (m_aside' k) ≤ 9) → (∀ k : Nat, -1 ≤ Int32.toInt (m_acts' k) ∧ Int32.toInt (m_acts' k) ≤ 255) → post r m_typed' m_rowMany' m_thrown' m_read' m_length' m_top' m_at' m_wrong' m_isAsked' m_askedFruit' m_askedStanding' m_askedHook' m_askedApron' m_undoMany' m_picked' m_now' m_row' m_undos' m_aside' m_acts') (x1 k0 jG bQ dG : Int32) (jY : Nat) (m_length qG uW eY dN aR aE bJ aW bT gJ : Int32) (rD uM uQ uZ wE : Nat → Int32) (h_x1 : 0 ≤ Int32.toInt x1 ∧ Int32.toInt x1 ≤ 0) (h_k0 : 0 ≤ Int32.toInt k0 ∧ Int32.toInt k0 ≤ 1) (h_m_typed : 0 ≤ Int32.toInt jG ∧ Int32.toInt jG ≤ 0) (h_m_rowMany : 0 ≤ Int32.toInt bQ ∧ Int32.toInt bQ ≤ 16) (h_m_thrown : 0 ≤ Int32.toInt dG ∧ Int32.toInt dG ≤ 0) (h_m_read : jY = 1) (h_m_length : 0 ≤ Int32.toInt m_length ∧ Int32.toInt m_length ≤ 80) (h_m_top : 60 ≤ Int32.toInt qG ∧ Int32.toInt qG ≤ 60) (h_m_at : 0 ≤ Int32.toInt uW ∧ Int32.toInt uW ≤ 0) (h_m_wrong : -1 ≤ Int32.toInt eY ∧ Int32.toInt eY ≤ -1) (h_m_isAsked : 0 ≤ Int32.toInt dN ∧ Int32.toInt dN ≤ 0) (h_m_askedFruit : 0 ≤ Int32.toInt aR ∧ Int32.toInt aR ≤ 15) (h_m_askedStanding : 0 ≤ Int32.toInt aE ∧ Int32.toInt aE ≤ 7) (h_m_askedHook : 0 ≤ Int32.toInt bJ ∧ Int32.toInt bJ ≤ 1) (h_m_askedApron : 0 ≤ Int32.toInt aW ∧ Int32.toInt aW ≤ 63) (h_m_undoMany : 0 ≤ Int32.toInt bT ∧ Int32.toInt bT ≤ 12) (e0_m_now : ∀ k : Nat, k = 17 → -1 ≤ Int32.toInt (rD k) ∧ Int32.toInt (rD k) ≤ SB) (e1_m_now : ∀ k : Nat, k = 19 → 0 ≤ Int32.toInt (rD k) ∧ Int32.toInt (rD k) ≤ 9) (e0_m_undos : ∀ k : Nat, k % 21 = 17 → -1 ≤ Int32.toInt (uQ k) ∧ Int32.toInt (uQ k) ≤ SB) (e1_m_undos : ∀ k : Nat, k % 21 = 19 → 0 ≤ Int32.toInt (uQ k) ∧ Int32.toInt (uQ k) ≤ 9) (e0_m_aside : ∀ k : Nat, k = 17 → -1 ≤ Int32.toInt (uZ k) ∧ Int32.toInt (uZ k) ≤ SB) (e1_m_aside : ∀ k : Nat, k = 19 → 0 ≤ Int32.toInt (uZ k) ∧ Int32.toInt (uZ k) ≤ 9) (h_m_acts : ∀ k : Nat, -1 ≤ Int32.toInt (wE k) ∧ Int32.toInt (wE k) ≤ 255) : ws_X10_day_38 post bW aG bU m_x jA pY rW oY pR pX rG rQ x1 k0 jG bQ dG jY m_length qG uW eY dN aR aE bJ aW bT gJ rD uM uQ uZ wE := by
  have f74 := tp_r gJ
  exact ⟨83, tb_X10_day_39 bW aG bU m_x jA pY rW oY pR pX rG rQ h_m_fruits h_m_standings h_m_ruleSize h_m_x h_m_height h_m_worth h_m_ripe h_m_foot h_m_fork e0_m_told e1_m_told h_m_text h_m_rule hc0 hc1 hpost _ x1 k0 jG bQ dG jY m_length qG uW eY dN aR aE bJ aW bT gJ rD uM uQ uZ wE (by omega) h_k0 h_m_typed h_m_rowMany h_m_thrown h_m_read h_m_length h_m_top (by omega) (by omega) h_m_isAsked h_m_askedFruit h_m_askedStanding h_m_askedHook h_m_askedApron h_m_undoMany e0_m_now e1_m_now e0_m_undos e1_m_undos e0_m_aside e1_m_aside h_m_acts (by omega) (by omega) (by omega)⟩
set_option maxHeartbeats 8000000 in
set_option maxRecDepth 200000 in
theorem t_X10_day {post : Int32 → Int32 → Int32 → Int32 → Nat → Int32 → Int32 → Int32 → Int32 → Int32 → Int32 → Int32 → Int32 → Int32 → Int32 → Int32 → (Nat → Int32) → (Nat → Int32) → (Nat → Int32) → (Nat → Int32) → (Nat → Int32) → Prop} {SB : Int} {bW aG jG bQ dG : Int32} {jY : Nat} {m_length qG uW eY bU dN aR aE bJ aW bT gJ : Int32} {rD m_x jA pY rW oY pR pX rG uM rQ uQ uZ wE : Nat → Int32} (h_m_fruits : 0 ≤ Int32.toInt bW ∧ Int32.toInt bW ≤ 16) (h_m_standings : 0 ≤ Int32.toInt aG ∧ Int32.toInt aG ≤ 8) (h_m_typed : 0 ≤ Int32.toInt jG ∧ Int32.toInt jG ≤ 80) (h_m_rowMany : 0 ≤ Int32.toInt bQ ∧ Int32.toInt bQ ≤ 16) (h_m_thrown : 0 ≤ Int32.toInt dG ∧ Int32.toInt dG ≤ 1) (h_m_read : jY = 0 ∨ jY = 1 ∨ jY = 2) (h_m_length : 0 ≤ Int32.toInt m_length ∧ Int32.toInt m_length ≤ 80) (h_m_top : 0 ≤ Int32.toInt qG ∧ Int32.toInt qG ≤ 80) (h_m_at : 0 ≤ Int32.toInt uW ∧ Int32.toInt uW ≤ 80) (h_m_wrong : -1 ≤ Int32.toInt eY ∧ Int32.toInt eY ≤ 80) (h_m_ruleSize : 0 ≤ Int32.toInt bU ∧ Int32.toInt bU ≤ 40) (h_m_isAsked : 0 ≤ Int32.toInt dN ∧ Int32.toInt dN ≤ 0) (h_m_askedFruit : 0 ≤ Int32.toInt aR ∧ Int32.toInt aR ≤ 15) (h_m_askedStanding : 0 ≤ Int32.toInt aE ∧ Int32.toInt aE ≤ 7) (h_m_askedHook : 0 ≤ Int32.toInt bJ ∧ Int32.toInt bJ ≤ 1) (h_m_askedApron : 0 ≤ Int32.toInt aW ∧ Int32.toInt aW ≤ 63) (h_m_undoMany : 0 ≤ Int32.toInt bT ∧ Int32.toInt bT ≤ 12) (e0_m_now : ∀ k : Nat, k = 17 → -1 ≤ Int32.toInt (rD k) ∧ Int32.toInt (rD k) ≤ SB) (e1_m_now : ∀ k : Nat, k = 19 → 0 ≤ Int32.toInt (rD k) ∧ Int32.toInt (rD k) ≤ 9) (h_m_x : ∀ k : Nat, 0 ≤ Int32.toInt (m_x k) ∧ Int32.toInt (m_x k) ≤ 99) (h_m_height : ∀ k : Nat, 0 ≤ Int32.toInt (jA k) ∧ Int32.toInt (jA k) ≤ 99) (h_m_worth : ∀ k : Nat, 0 ≤ Int32.toInt (pY k) ∧ Int32.toInt (pY k) ≤ 9) (h_m_ripe : ∀ k : Nat, 0 ≤ Int32.toInt (rW k) ∧ Int32.toInt (rW k) ≤ 9) (h_m_foot : ∀ k : Nat, 0 ≤ Int32.toInt (oY k) ∧ Int32.toInt (oY k) ≤ 99) (h_m_fork : ∀ k : Nat, 0 ≤ Int32.toInt (pR k) ∧ Int32.toInt (pR k) ≤ 99) (e0_m_told : ∀ k : Nat, k = 4 → 1 ≤ Int32.toInt (pX k) ∧ Int32.toInt (pX k) ≤ 30) (e1_m_told : ∀ k : Nat, k = 3 → 0 ≤ Int32.toInt (pX k) ∧ Int32.toInt (pX k) ≤ 9) (h_m_text : ∀ k : Nat, -128 ≤ Int32.toInt (rG k) ∧ Int32.toInt (rG k) ≤ 127) (h_m_rule : ∀ k : Nat, -128 ≤ Int32.toInt (rQ k) ∧ Int32.toInt (rQ k) ≤ 127) (e0_m_undos : ∀ k : Nat, k % 21 = 17 → -1 ≤ Int32.toInt (uQ k) ∧ Int32.toInt (uQ k) ≤ SB) (e1_m_undos : ∀ k : Nat, k % 21 = 19 → 0 ≤ Int32.toInt (uQ k) ∧ Int32.toInt (uQ k) ≤ 9) (e0_m_aside : ∀ k : Nat, k = 17 → -1 ≤ Int32.toInt (uZ k) ∧ Int32.toInt (uZ k) ≤ SB) (e1_m_aside : ∀ k : Nat, k = 19 → 0 ≤ Int32.toInt (uZ k) ∧ Int32.toInt (uZ k) ≤ 9) (h_m_acts : ∀ k : Nat, -1 ≤ Int32.toInt (wE k) ∧ Int32.toInt (wE k) ≤ 255) (hc0 : -1 ≤ SB ∧ SB ≤ 7) (hc1 : (Int32.toInt aG ≤ 0 ∧ SB = 0) ∨ (1 ≤ Int32.toInt aG ∧ SB = Int32.toInt aG - 1)) (hpost : ∀ (r : Int32) (m_typed' : Int32) (m_rowMany' : Int32) (m_thrown' : Int32) (m_read' : Nat) (m_length' : Int32) (m_top' : Int32) (m_at' : Int32) (m_wrong' : Int32) (m_isAsked' : Int32) (m_askedFruit' : Int32) (m_askedStanding' : Int32) (m_askedHook' : Int32) (m_askedApron' : Int32) (m_undoMany' : Int32) (m_picked' : Int32) (m_now' : Nat → Int32) (m_row' : Nat → Int32) (m_undos' : Nat → Int32) (m_aside' : Nat → Int32) (m_acts' : Nat → Int32), (-100 ≤ Int32.toInt r ∧ Int32.toInt r ≤ 62) → (0 ≤ Int32.toInt m_typed' ∧ Int32.toInt m_typed' ≤ 0) → (0 ≤ Int32.toInt m_rowMany' ∧ Int32.toInt m_rowMany' ≤ 16) → (0 ≤ Int32.toInt m_thrown' ∧ Int32.toInt m_thrown' ≤ 0) → (m_read' = 0 ∨ m_read' = 1 ∨ m_read' = 2) → (0 ≤ Int32.toInt m_length' ∧ Int32.toInt m_length' ≤ 80) → (0 ≤ Int32.toInt m_top' ∧ Int32.toInt m_top' ≤ 80) → (0 ≤ Int32.toInt m_at' ∧ Int32.toInt m_at' ≤ 80) → (-1 ≤ Int32.toInt m_wrong' ∧ Int32.toInt m_wrong' ≤ 80) → (0 ≤ Int32.toInt m_isAsked' ∧ Int32.toInt m_isAsked' ≤ 0) → (0 ≤ Int32.toInt m_askedFruit' ∧ Int32.toInt m_askedFruit' ≤ 15) → (0 ≤ Int32.toInt m_askedStanding' ∧ Int32.toInt m_askedStanding' ≤ 7) → (0 ≤ Int32.toInt m_askedHook' ∧ Int32.toInt m_askedHook' ≤ 1) → (0 ≤ Int32.toInt m_askedApron' ∧ Int32.toInt m_askedApron' ≤ 63) → (0 ≤ Int32.toInt m_undoMany' ∧ Int32.toInt m_undoMany' ≤ 12) → (∀ k : Nat, k = 17 → -1 ≤ Int32.toInt (m_now' k) ∧ Int32.toInt (m_now' k) ≤ SB) → (∀ k : Nat, k = 19 → 0 ≤ Int32.toInt (m_now' k) ∧ Int32.toInt (m_now' k) ≤ 9) → (∀ k : Nat, k % 21 = 17 → -1 ≤ Int32.toInt (m_undos' k) ∧ Int32.toInt (m_undos' k) ≤ SB) → (∀ k : Nat, k % 21 = 19 → 0 ≤ Int32.toInt (m_undos' k) ∧ Int32.toInt (m_undos' k) ≤ 9) → (∀ k : Nat, k = 17 → -1 ≤ Int32.toInt (m_aside' k) ∧ Int32.toInt (m_aside' k) ≤ SB) → (∀ k : Nat, k = 19 → 0 ≤ Int32.toInt (m_aside' k) ∧ Int32.toInt (m_aside' k) ≤ 9) → (∀ k : Nat, -1 ≤ Int32.toInt (m_acts' k) ∧ Int32.toInt (m_acts' k) ≤ 255) → post r m_typed' m_rowMany' m_thrown' m_read' m_length' m_top' m_at' m_wrong' m_isAsked' m_askedFruit' m_askedStanding' m_askedHook' m_askedApron' m_undoMany' m_picked' m_now' m_row' m_undos' m_aside' m_acts') : wp_X10_day post bW aG jG bQ dG jY m_length qG uW eY bU dN aR aE bJ aW bT gJ rD m_x jA pY rW oY pR pX rG uM rQ uQ uZ wE := by
  have l0 := li_m1
  have l1 := li_0
  have l2 := li_1
  have l3 := li_60
  refine And.intro (fun c75 => ?_) (fun c75 => ?_)
  · skip
    have c75 := (fa_le _ _).mp c75
    have f76 := tp_r gJ
    exact ts_X10_day_38 bW aG bU m_x jA pY rW oY pR pX rG rQ h_m_fruits h_m_standings h_m_ruleSize h_m_x h_m_height h_m_worth h_m_ripe h_m_foot h_m_fork e0_m_told e1_m_told h_m_text h_m_rule hc0 hc1 hpost 0 0 0 bQ 0 1 jG 60 0 (-1) dN aR aE bJ aW bT gJ rD uM uQ uZ wE (by omega) (by omega) (by omega) h_m_rowMany (by omega) (by first | exact h_m_read | exact Or.inl rfl | exact Or.inr rfl | omega) h_m_typed (by omega) (by omega) (by omega) h_m_isAsked h_m_askedFruit h_m_askedStanding h_m_askedHook h_m_askedApron h_m_undoMany e0_m_now e1_m_now e0_m_undos e1_m_undos e0_m_aside e1_m_aside h_m_acts
  · skip
    have c75 := mt (fa_le _ _).mpr c75
    have f77 := tp_r gJ
    exact ts_X10_day_38 bW aG bU m_x jA pY rW oY pR pX rG rQ h_m_fruits h_m_standings h_m_ruleSize h_m_x h_m_height h_m_worth h_m_ripe h_m_foot h_m_fork e0_m_told e1_m_told h_m_text h_m_rule hc0 hc1 hpost 0 1 0 bQ 0 1 jG 60 0 (-1) dN aR aE bJ aW bT gJ rD uM uQ uZ wE (by omega) (by omega) (by omega) h_m_rowMany (by omega) (by first | exact h_m_read | exact Or.inl rfl | exact Or.inr rfl | omega) h_m_typed (by omega) (by omega) (by omega) h_m_isAsked h_m_askedFruit h_m_askedStanding h_m_askedHook h_m_askedApron h_m_undoMany e0_m_now e1_m_now e0_m_undos e1_m_undos e0_m_aside e1_m_aside h_m_acts
set_option maxHeartbeats 8000000 in
set_option maxRecDepth 200000 in
theorem ts_X10_undo_26 {post : Int32 → Int32 → Int32 → (Nat → Int32) → Prop} {SB : Int} {next : Int32 → Int32 → Int32 → (Nat → Int32) → Prop} {n26 : Int} (uQ : Nat → Int32) (e0_m_undos : ∀ k : Nat, k % 21 = 17 → -1 ≤ Int32.toInt (uQ k) ∧ Int32.toInt (uQ k) ≤ SB) (e1_m_undos : ∀ k : Nat, k % 21 = 19 → 0 ≤ Int32.toInt (uQ k) ∧ Int32.toInt (uQ k) ≤ 9) (hc0 : -1 ≤ SB ∧ SB ≤ 7) (hpost : ∀ (r : Int32) (m_thrown' : Int32) (m_undoMany' : Int32) (m_now' : Nat → Int32), (-1 ≤ Int32.toInt r ∧ Int32.toInt r ≤ 11) → (0 ≤ Int32.toInt m_thrown' ∧ Int32.toInt m_thrown' ≤ 0) → (0 ≤ Int32.toInt m_undoMany' ∧ Int32.toInt m_undoMany' ≤ 11) → (∀ k : Nat, k = 17 → -1 ≤ Int32.toInt (m_now' k) ∧ Int32.toInt (m_now' k) ≤ SB) → (∀ k : Nat, k = 19 → 0 ≤ Int32.toInt (m_now' k) ∧ Int32.toInt (m_now' k) ≤ 9) → post r m_thrown' m_undoMany' m_now') (hKn : ∀ (x1 : Int32) (dG : Int32) (bT : Int32) (rD : Nat → Int32), (0 ≤ Int32.toInt x1 ∧ Int32.toInt x1 ≤ 21) → (0 ≤ Int32.toInt dG ∧ Int32.toInt dG ≤ 0) → (0 ≤ Int32.toInt bT ∧ Int32.toInt bT ≤ 11) → (∀ k : Nat, k = 17 → -1 ≤ Int32.toInt (rD k) ∧ Int32.toInt (rD k) ≤ SB) → (∀ k : Nat, k = 19 → 0 ≤ Int32.toInt (rD k) ∧ Int32.toInt (rD k) ≤ 9) → (21 - Int32.toInt x1 < n26) → next x1 dG bT rD) (x1 dG bT : Int32) (rD : Nat → Int32) (h_x1 : 0 ≤ Int32.toInt x1 ∧ Int32.toInt x1 ≤ 21) (h_m_thrown : 0 ≤ Int32.toInt dG ∧ Int32.toInt dG ≤ 0) (h_m_undoMany : 0 ≤ Int32.toInt bT ∧ Int32.toInt bT ≤ 11) (e0_m_now : ∀ k : Nat, k = 17 → -1 ≤ Int32.toInt (rD k) ∧ Int32.toInt (rD k) ≤ SB) (e1_m_now : ∀ k : Nat, k = 19 → 0 ≤ Int32.toInt (rD k) ∧ Int32.toInt (rD k) ≤ 9) (hn26 : 21 - Int32.toInt x1 ≤ n26) : ws_X10_undo_26 post next uQ x1 dG bT rD := by
  have l0 := li_1
  have l1 := li_21
  refine And.intro (fun c1 => ?_) (fun c1 => ?_)
  · skip
    have c1 := (fa_le _ _).mp c1
    exact hpost _ _ _ _ (by omega) h_m_thrown h_m_undoMany e0_m_now e1_m_now
  · skip
    have c1 := mt (fa_le _ _).mpr c1
    intro v2 ev2
    have f3 : Int32.toInt (21 * bT) = Int32.toInt bT * 21 := ta_cmul _ _ (by decide) (by omega)
    rw [← ev2] at f3
    intro v4 ev4
    have f5 : Int32.toInt (v2 + x1) = Int32.toInt v2 + Int32.toInt x1 := ta_add _ _ (by omega)
    rw [← ev4] at f5
    refine And.intro (t_in (by omega)) ?_
    have q6 := e0_m_undos v4.toNatClampNeg
    have q7 := e1_m_undos v4.toNatClampNeg
    have q8 : v4.toNatClampNeg = (Int32.toInt v4).toNat := rfl
    intro v9 ev9
    have hv9 := congrArg Int32.toInt ev9
    refine And.intro (t_in (by omega)) ?_
    have f12 := tp_r v9
    have e11 : ∀ k : Nat, k = 17 → -1 ≤ Int32.toInt ((upd rD x1.toNatClampNeg v9) k) ∧ Int32.toInt ((upd rD x1.toNatClampNeg v9) k) ≤ SB := t_updc (C := fun k => k = 17) e0_m_now (fun hk => by have e9 : x1.toNatClampNeg = (Int32.toInt x1).toNat := rfl; have hk : x1.toNatClampNeg = 17 := hk; omega)
    have e13 : ∀ k : Nat, k = 19 → 0 ≤ Int32.toInt ((upd rD x1.toNatClampNeg v9) k) ∧ Int32.toInt ((upd rD x1.toNatClampNeg v9) k) ≤ 9 := t_updc (C := fun k => k = 19) e1_m_now (fun hk => by have e9 : x1.toNatClampNeg = (Int32.toInt x1).toNat := rfl; have hk : x1.toNatClampNeg = 19 := hk; omega)
    intro v14 ev14
    have f15 : Int32.toInt (x1 + 1) = Int32.toInt x1 + Int32.toInt (1 : Int32) := ta_add _ _ (by omega)
    rw [← ev14] at f15
    exact hKn v14 dG bT (upd rD x1.toNatClampNeg v9) (by omega) h_m_thrown h_m_undoMany e11 e13 (by omega)
set_option maxHeartbeats 8000000 in
set_option maxRecDepth 200000 in
theorem tb_X10_undo_26 {post : Int32 → Int32 → Int32 → (Nat → Int32) → Prop} {SB : Int} (uQ : Nat → Int32) (e0_m_undos : ∀ k : Nat, k % 21 = 17 → -1 ≤ Int32.toInt (uQ k) ∧ Int32.toInt (uQ k) ≤ SB) (e1_m_undos : ∀ k : Nat, k % 21 = 19 → 0 ≤ Int32.toInt (uQ k) ∧ Int32.toInt (uQ k) ≤ 9) (hc0 : -1 ≤ SB ∧ SB ≤ 7) (hpost : ∀ (r : Int32) (m_thrown' : Int32) (m_undoMany' : Int32) (m_now' : Nat → Int32), (-1 ≤ Int32.toInt r ∧ Int32.toInt r ≤ 11) → (0 ≤ Int32.toInt m_thrown' ∧ Int32.toInt m_thrown' ≤ 0) → (0 ≤ Int32.toInt m_undoMany' ∧ Int32.toInt m_undoMany' ≤ 11) → (∀ k : Nat, k = 17 → -1 ≤ Int32.toInt (m_now' k) ∧ Int32.toInt (m_now' k) ≤ SB) → (∀ k : Nat, k = 19 → 0 ≤ Int32.toInt (m_now' k) ∧ Int32.toInt (m_now' k) ≤ 9) → post r m_thrown' m_undoMany' m_now') : ∀ (n : Nat) (x1 dG bT : Int32) (rD : Nat → Int32), (0 ≤ Int32.toInt x1 ∧ Int32.toInt x1 ≤ 21) → (0 ≤ Int32.toInt dG ∧ Int32.toInt dG ≤ 0) → (0 ≤ Int32.toInt bT ∧ Int32.toInt bT ≤ 11) → (∀ k : Nat, k = 17 → -1 ≤ Int32.toInt (rD k) ∧ Int32.toInt (rD k) ≤ SB) → (∀ k : Nat, k = 19 → 0 ≤ Int32.toInt (rD k) ∧ Int32.toInt (rD k) ≤ 9) → (21 - Int32.toInt x1 < (n : Int)) → wb_X10_undo_26 post uQ n x1 dG bT rD := by
  intro n
  induction n with
  | zero =>
    intro x1 dG bT rD h_x1 h_m_thrown h_m_undoMany e0_m_now e1_m_now hm
    exfalso; omega
  | succ n ih =>
    intro x1 dG bT rD h_x1 h_m_thrown h_m_undoMany e0_m_now e1_m_now hm
    exact ts_X10_undo_26 uQ e0_m_undos e1_m_undos hc0 hpost ih x1 dG bT rD h_x1 h_m_thrown h_m_undoMany e0_m_now e1_m_now (by omega)
set_option maxHeartbeats 8000000 in
set_option maxRecDepth 200000 in
theorem t_X10_undo {post : Int32 → Int32 → Int32 → (Nat → Int32) → Prop} {SB : Int} {dG bT : Int32} {rD uQ : Nat → Int32} (h_m_thrown : 0 ≤ Int32.toInt dG ∧ Int32.toInt dG ≤ 1) (h_m_undoMany : 0 ≤ Int32.toInt bT ∧ Int32.toInt bT ≤ 12) (e0_m_now : ∀ k : Nat, k = 17 → -1 ≤ Int32.toInt (rD k) ∧ Int32.toInt (rD k) ≤ SB) (e1_m_now : ∀ k : Nat, k = 19 → 0 ≤ Int32.toInt (rD k) ∧ Int32.toInt (rD k) ≤ 9) (e0_m_undos : ∀ k : Nat, k % 21 = 17 → -1 ≤ Int32.toInt (uQ k) ∧ Int32.toInt (uQ k) ≤ SB) (e1_m_undos : ∀ k : Nat, k % 21 = 19 → 0 ≤ Int32.toInt (uQ k) ∧ Int32.toInt (uQ k) ≤ 9) (hc0 : -1 ≤ SB ∧ SB ≤ 7) (hpost : ∀ (r : Int32) (m_thrown' : Int32) (m_undoMany' : Int32) (m_now' : Nat → Int32), (-1 ≤ Int32.toInt r ∧ Int32.toInt r ≤ 11) → (0 ≤ Int32.toInt m_thrown' ∧ Int32.toInt m_thrown' ≤ 0) → (0 ≤ Int32.toInt m_undoMany' ∧ Int32.toInt m_undoMany' ≤ 11) → (∀ k : Nat, k = 17 → -1 ≤ Int32.toInt (m_now' k) ∧ Int32.toInt (m_now' k) ≤ SB) → (∀ k : Nat, k = 19 → 0 ≤ Int32.toInt (m_now' k) ∧ Int32.toInt (m_now' k) ≤ 9) → post r m_thrown' m_undoMany' m_now') : wp_X10_undo post dG bT rD uQ := by
  have l0 := li_m1
  have l1 := li_0
  have l2 := li_1
  refine And.intro (fun c16 => ?_) (fun c16 => ?_)
  · skip
    have c16 := mt (fa_eq _ _).mpr c16
    intro v17 ev17
    have f18 : Int32.toInt (bT - 1) = Int32.toInt bT - Int32.toInt (1 : Int32) := ta_sub _ _ (by omega)
    rw [← ev17] at f18
    exact ⟨23, tb_X10_undo_26 uQ e0_m_undos e1_m_undos hc0 hpost _ 0 0 v17 rD (by omega) (by omega) (by omega) e0_m_now e1_m_now (by omega)⟩
  · skip
    have c16 := (fa_eq _ _).mp c16
    exact hpost _ _ _ _ (by omega) (by omega) (by omega) e0_m_now e1_m_now
set_option maxHeartbeats 8000000 in
set_option maxRecDepth 200000 in
theorem t_X10_reached {post : Int32 → Int32 → Int32 → (Nat → Int32) → Prop} {p0 bW aG bQ dG : Int32} {m_x jA oY pR pX uM : Nat → Int32} (h_m_fruits : 0 ≤ Int32.toInt bW ∧ Int32.toInt bW ≤ 16) (h_m_standings : 0 ≤ Int32.toInt aG ∧ Int32.toInt aG ≤ 8) (h_m_rowMany : 0 ≤ Int32.toInt bQ ∧ Int32.toInt bQ ≤ 16) (h_m_thrown : 0 ≤ Int32.toInt dG ∧ Int32.toInt dG ≤ 1) (h_m_x : ∀ k : Nat, 0 ≤ Int32.toInt (m_x k) ∧ Int32.toInt (m_x k) ≤ 99) (h_m_height : ∀ k : Nat, 0 ≤ Int32.toInt (jA k) ∧ Int32.toInt (jA k) ≤ 99) (h_m_foot : ∀ k : Nat, 0 ≤ Int32.toInt (oY k) ∧ Int32.toInt (oY k) ≤ 99) (h_m_fork : ∀ k : Nat, 0 ≤ Int32.toInt (pR k) ∧ Int32.toInt (pR k) ≤ 99) (e0_m_told : ∀ k : Nat, k = 4 → 1 ≤ Int32.toInt (pX k) ∧ Int32.toInt (pX k) ≤ 30) (e1_m_told : ∀ k : Nat, k = 3 → 0 ≤ Int32.toInt (pX k) ∧ Int32.toInt (pX k) ≤ 9) (hpost : ∀ (r : Int32) (m_rowMany' : Int32) (m_thrown' : Int32) (m_row' : Nat → Int32), (-1 ≤ Int32.toInt r ∧ Int32.toInt r ≤ 65535) → (0 ≤ Int32.toInt m_rowMany' ∧ Int32.toInt m_rowMany' ≤ 16) → (0 ≤ Int32.toInt m_thrown' ∧ Int32.toInt m_thrown' ≤ 0) → post r m_rowMany' m_thrown' m_row') : wp_X10_reached post p0 bW aG bQ dG m_x jA oY pR pX uM := by
  have l0 := li_m1
  have l1 := li_0
  have l2 := li_1
  intro v1 ev1
  have f2 : Int32.toInt (aG - 1) = Int32.toInt aG - Int32.toInt (1 : Int32) := ta_sub _ _ (by omega)
  rw [← ev1] at f2
  have f4 := tp_r p0
  refine And.intro (fun c3 => ?_) (fun c3 => ?_)
  · skip
    have c3 := (fa_lt _ _).mp c3
    refine And.intro (t_bool (by omega)) ?_
    refine And.intro (fun h9 => absurd h9 (by decide)) (fun _ => ?_)
    exact hpost _ _ _ _ (by omega) h_m_rowMany (by omega)
  · skip
    have c3 := mt (fa_lt _ _).mpr c3
    refine And.intro (fun c5 => ?_) (fun c5 => ?_)
    · skip
      have c5 := (fa_lt _ _).mp c5
      refine And.intro (t_bool (by omega)) ?_
      refine And.intro (fun h9 => absurd h9 (by decide)) (fun _ => ?_)
      exact hpost _ _ _ _ (by omega) h_m_rowMany (by omega)
    · skip
      have c5 := mt (fa_lt _ _).mpr c5
      refine And.intro (t_bool (by omega)) ?_
      refine And.intro (fun _ => ?_) (fun h9 => absurd h9 (by decide))
      refine t_X10_reachedFrom (by omega) (by omega) h_m_fruits h_m_x h_m_height h_m_foot h_m_fork e0_m_told e1_m_told (fun r6 h_r6 => ?_)
      refine And.intro (t_in (by omega)) ?_
      intro v7 ev7
      have f8 : Int32.toInt (0 + 1) = Int32.toInt (0 : Int32) + Int32.toInt (1 : Int32) := ta_add _ _ (by omega)
      rw [← ev7] at f8
      refine t_X10_reachedFrom (by omega) (by omega) h_m_fruits h_m_x h_m_height h_m_foot h_m_fork e0_m_told e1_m_told (fun r9 h_r9 => ?_)
      refine And.intro (t_in (by omega)) ?_
      intro v10 ev10
      have f11 : Int32.toInt (v7 + 1) = Int32.toInt v7 + Int32.toInt (1 : Int32) := ta_add _ _ (by omega)
      rw [← ev10] at f11
      refine t_X10_reachedFrom (by omega) (by omega) h_m_fruits h_m_x h_m_height h_m_foot h_m_fork e0_m_told e1_m_told (fun r12 h_r12 => ?_)
      exact hpost _ _ _ _ (by omega) (by omega) (by omega)
set_option maxHeartbeats 8000000 in
set_option maxRecDepth 200000 in
theorem ts_X10_from_69 {post : Int32 → Int32 → Prop} {SB : Int} {K29 : Int32 → Int32 → Int32 → Int32 → Int32 → Prop} {n29 : Int} (bW aG : Int32) (rD m_x jA oY pR pX : Nat → Int32) (h_m_fruits : 0 ≤ Int32.toInt bW ∧ Int32.toInt bW ≤ 16) (h_m_standings : 0 ≤ Int32.toInt aG ∧ Int32.toInt aG ≤ 8) (e0_m_now : ∀ k : Nat, k = 17 → -1 ≤ Int32.toInt (rD k) ∧ Int32.toInt (rD k) ≤ SB) (e1_m_now : ∀ k : Nat, k = 19 → 0 ≤ Int32.toInt (rD k) ∧ Int32.toInt (rD k) ≤ 9) (h_m_x : ∀ k : Nat, 0 ≤ Int32.toInt (m_x k) ∧ Int32.toInt (m_x k) ≤ 99) (h_m_height : ∀ k : Nat, 0 ≤ Int32.toInt (jA k) ∧ Int32.toInt (jA k) ≤ 99) (h_m_foot : ∀ k : Nat, 0 ≤ Int32.toInt (oY k) ∧ Int32.toInt (oY k) ≤ 99) (h_m_fork : ∀ k : Nat, 0 ≤ Int32.toInt (pR k) ∧ Int32.toInt (pR k) ≤ 99) (e0_m_told : ∀ k : Nat, k = 4 → 1 ≤ Int32.toInt (pX k) ∧ Int32.toInt (pX k) ≤ 30) (e1_m_told : ∀ k : Nat, k = 3 → 0 ≤ Int32.toInt (pX k) ∧ Int32.toInt (pX k) ≤ 9) (hc0 : -1 ≤ SB ∧ SB ≤ 7) (hc1 : (Int32.toInt aG ≤ 0 ∧ SB = 0) ∨ (1 ≤ Int32.toInt aG ∧ SB = Int32.toInt aG - 1)) (hpost : ∀ (r : Int32) (m_thrown' : Int32), (-1 ≤ Int32.toInt r ∧ Int32.toInt r ≤ 255) → (0 ≤ Int32.toInt m_thrown' ∧ Int32.toInt m_thrown' ≤ 0) → post r m_thrown') (hK29 : ∀ (x1 : Int32) (x2 : Int32) (x3 : Int32) (x4 : Int32) (dG : Int32), (0 ≤ Int32.toInt x1 ∧ Int32.toInt x1 ≤ 15) → (0 ≤ Int32.toInt x2 ∧ Int32.toInt x2 ≤ 1) → (0 ≤ Int32.toInt x3 ∧ Int32.toInt x3 ≤ 255) → (0 ≤ Int32.toInt x4 ∧ Int32.toInt x4 ≤ 8) → (0 ≤ Int32.toInt dG ∧ Int32.toInt dG ≤ 0) → (8 - Int32.toInt x4 < n29) → K29 x1 x2 x3 x4 dG) (x1 x2 x4 k0 k1 dG : Int32) (h_x1 : 0 ≤ Int32.toInt x1 ∧ Int32.toInt x1 ≤ 15) (h_x2 : 0 ≤ Int32.toInt x2 ∧ Int32.toInt x2 ≤ 1) (h_x4 : 0 ≤ Int32.toInt x4 ∧ Int32.toInt x4 ≤ 7) (h_k0 : 0 ≤ Int32.toInt k0 ∧ Int32.toInt k0 ≤ 255) (h_k1 : 0 ≤ Int32.toInt k1 ∧ Int32.toInt k1 ≤ 128) (h_m_thrown : 0 ≤ Int32.toInt dG ∧ Int32.toInt dG ≤ 0) (hn29 : 8 - Int32.toInt x4 ≤ n29) : ws_X10_from_69 post K29 bW aG rD m_x jA oY pR pX x1 x2 x4 k0 k1 dG := by
  have l0 := li_1
  intro v1 ev1
  have f2 := ti_or 8 256 k0 k1 (by decide) (by omega) (by omega)
  have hv1 := congrArg Int32.toInt ev1
  intro v3 ev3
  have f4 : Int32.toInt (x4 + 1) = Int32.toInt x4 + Int32.toInt (1 : Int32) := ta_add _ _ (by omega)
  rw [← ev3] at f4
  exact hK29 x1 x2 v1 v3 dG h_x1 h_x2 (by omega) (by omega) h_m_thrown (by omega)
set_option maxHeartbeats 8000000 in
set_option maxRecDepth 200000 in
theorem ts_X10_from_29 {post : Int32 → Int32 → Prop} {SB : Int} {next : Int32 → Int32 → Int32 → Int32 → Int32 → Prop} {n29 : Int} (bW aG : Int32) (rD m_x jA oY pR pX : Nat → Int32) (h_m_fruits : 0 ≤ Int32.toInt bW ∧ Int32.toInt bW ≤ 16) (h_m_standings : 0 ≤ Int32.toInt aG ∧ Int32.toInt aG ≤ 8) (e0_m_now : ∀ k : Nat, k = 17 → -1 ≤ Int32.toInt (rD k) ∧ Int32.toInt (rD k) ≤ SB) (e1_m_now : ∀ k : Nat, k = 19 → 0 ≤ Int32.toInt (rD k) ∧ Int32.toInt (rD k) ≤ 9) (h_m_x : ∀ k : Nat, 0 ≤ Int32.toInt (m_x k) ∧ Int32.toInt (m_x k) ≤ 99) (h_m_height : ∀ k : Nat, 0 ≤ Int32.toInt (jA k) ∧ Int32.toInt (jA k) ≤ 99) (h_m_foot : ∀ k : Nat, 0 ≤ Int32.toInt (oY k) ∧ Int32.toInt (oY k) ≤ 99) (h_m_fork : ∀ k : Nat, 0 ≤ Int32.toInt (pR k) ∧ Int32.toInt (pR k) ≤ 99) (e0_m_told : ∀ k : Nat, k = 4 → 1 ≤ Int32.toInt (pX k) ∧ Int32.toInt (pX k) ≤ 30) (e1_m_told : ∀ k : Nat, k = 3 → 0 ≤ Int32.toInt (pX k) ∧ Int32.toInt (pX k) ≤ 9) (hc0 : -1 ≤ SB ∧ SB ≤ 7) (hc1 : (Int32.toInt aG ≤ 0 ∧ SB = 0) ∨ (1 ≤ Int32.toInt aG ∧ SB = Int32.toInt aG - 1)) (hpost : ∀ (r : Int32) (m_thrown' : Int32), (-1 ≤ Int32.toInt r ∧ Int32.toInt r ≤ 255) → (0 ≤ Int32.toInt m_thrown' ∧ Int32.toInt m_thrown' ≤ 0) → post r m_thrown') (hKn : ∀ (x1 : Int32) (x2 : Int32) (x3 : Int32) (x4 : Int32) (dG : Int32), (0 ≤ Int32.toInt x1 ∧ Int32.toInt x1 ≤ 15) → (0 ≤ Int32.toInt x2 ∧ Int32.toInt x2 ≤ 1) → (0 ≤ Int32.toInt x3 ∧ Int32.toInt x3 ≤ 255) → (0 ≤ Int32.toInt x4 ∧ Int32.toInt x4 ≤ 8) → (0 ≤ Int32.toInt dG ∧ Int32.toInt dG ≤ 0) → (8 - Int32.toInt x4 < n29) → next x1 x2 x3 x4 dG) (x1 x2 x3 x4 dG : Int32) (h_x1 : 0 ≤ Int32.toInt x1 ∧ Int32.toInt x1 ≤ 15) (h_x2 : 0 ≤ Int32.toInt x2 ∧ Int32.toInt x2 ≤ 1) (h_x3 : 0 ≤ Int32.toInt x3 ∧ Int32.toInt x3 ≤ 255) (h_x4 : 0 ≤ Int32.toInt x4 ∧ Int32.toInt x4 ≤ 8) (h_m_thrown : 0 ≤ Int32.toInt dG ∧ Int32.toInt dG ≤ 0) (hn29 : 8 - Int32.toInt x4 ≤ n29) : ws_X10_from_29 post next bW aG rD m_x jA oY pR pX x1 x2 x3 x4 dG := by
  have l0 := li_0
  have l1 := li_1
  have l2 := li_18
  have l3 := li_2
  refine And.intro (fun c5 => ?_) (fun c5 => ?_)
  · skip
    have c5 := (fa_le _ _).mp c5
    exact hpost _ _ (by omega) h_m_thrown
  · skip
    have c5 := mt (fa_le _ _).mpr c5
    intro v6 ev6
    have hv6 := congrArg Int32.toInt ev6
    intro v8 ev8
    have hv8 := congrArg Int32.toInt ev8
    intro v10 ev10
    have hv10 := congrArg Int32.toInt ev10
    refine And.intro (t_in (by omega)) ?_
    intro v12 ev12
    have f13 := h_m_x x1.toNatClampNeg
    have hv12 := congrArg Int32.toInt ev12
    refine And.intro (t_in (by omega)) ?_
    intro v14 ev14
    have f16 := h_m_foot x4.toNatClampNeg
    have f15 : Int32.toInt (v12 - (oY x4.toNatClampNeg)) = Int32.toInt v12 - Int32.toInt (oY x4.toNatClampNeg) := ta_sub _ _ (by omega)
    rw [← ev14] at f15
    intro v17 ev17
    have f18 := ti_abs v14 (by omega)
    have hv17 := congrArg Int32.toInt ev17
    refine And.intro (t_in (by omega)) ?_
    intro v19 ev19
    have hv19 := congrArg Int32.toInt ev19
    refine And.intro (t_in (by omega)) ?_
    intro v20 ev20
    have f21 : Int32.toInt (v19 - (oY x4.toNatClampNeg)) = Int32.toInt v19 - Int32.toInt (oY x4.toNatClampNeg) := ta_sub _ _ (by omega)
    rw [← ev20] at f21
    intro v22 ev22
    have f23 := ti_abs v20 (by omega)
    have hv22 := congrArg Int32.toInt ev22
    intro v24 ev24
    have hv24 := congrArg Int32.toInt ev24
    refine And.intro (t_in (by omega)) ?_
    intro v26 ev26
    have f27 := h_m_height x1.toNatClampNeg
    have hv26 := congrArg Int32.toInt ev26
    refine And.intro (t_in (by omega)) ?_
    intro v28 ev28
    have f30 := h_m_fork x4.toNatClampNeg
    have f29 : Int32.toInt (v26 - (pR x4.toNatClampNeg)) = Int32.toInt v26 - Int32.toInt (pR x4.toNatClampNeg) := ta_sub _ _ (by omega)
    rw [← ev28] at f29
    intro v31 ev31
    have f32 := ti_max (0 : Int32) v28
    have hv31 := congrArg Int32.toInt ev31
    refine And.intro (t_in (by omega)) ?_
    intro v33 ev33
    have hv33 := congrArg Int32.toInt ev33
    refine And.intro (t_in (by omega)) ?_
    intro v34 ev34
    have f35 : Int32.toInt (v33 - (pR x4.toNatClampNeg)) = Int32.toInt v33 - Int32.toInt (pR x4.toNatClampNeg) := ta_sub _ _ (by omega)
    rw [← ev34] at f35
    intro v36 ev36
    have f37 := ti_max (0 : Int32) v34
    have hv36 := congrArg Int32.toInt ev36
    intro v38 ev38
    have hv38 := congrArg Int32.toInt ev38
    have f41 := tp_r v38
    refine And.intro (fun c40 => ?_) (fun c40 => ?_)
    · skip
      have c40 := (fa_lt _ _).mp c40
      refine And.intro (fun _ => ?_) (fun h9 => absurd h9 (by decide))
      exact ts_X10_from_69 bW aG rD m_x jA oY pR pX h_m_fruits h_m_standings e0_m_now e1_m_now h_m_x h_m_height h_m_foot h_m_fork e0_m_told e1_m_told hc0 hc1 hpost hKn x1 x2 x4 x3 0 dG h_x1 h_x2 (by omega) h_x3 (by omega) h_m_thrown hn29
    · skip
      have c40 := mt (fa_lt _ _).mpr c40
      refine And.intro (fun h9 => absurd h9 (by decide)) (fun _ => ?_)
      intro v43 ev43
      have f44 := ti_shl1 7 128 x4 (by decide) (by omega)
      have hv43 := congrArg Int32.toInt ev43
      exact ts_X10_from_69 bW aG rD m_x jA oY pR pX h_m_fruits h_m_standings e0_m_now e1_m_now h_m_x h_m_height h_m_foot h_m_fork e0_m_told e1_m_told hc0 hc1 hpost hKn x1 x2 x4 x3 v43 dG h_x1 h_x2 (by omega) h_x3 (by omega) h_m_thrown hn29
set_option maxHeartbeats 8000000 in
set_option maxRecDepth 200000 in
theorem tb_X10_from_29 {post : Int32 → Int32 → Prop} {SB : Int} (bW aG : Int32) (rD m_x jA oY pR pX : Nat → Int32) (h_m_fruits : 0 ≤ Int32.toInt bW ∧ Int32.toInt bW ≤ 16) (h_m_standings : 0 ≤ Int32.toInt aG ∧ Int32.toInt aG ≤ 8) (e0_m_now : ∀ k : Nat, k = 17 → -1 ≤ Int32.toInt (rD k) ∧ Int32.toInt (rD k) ≤ SB) (e1_m_now : ∀ k : Nat, k = 19 → 0 ≤ Int32.toInt (rD k) ∧ Int32.toInt (rD k) ≤ 9) (h_m_x : ∀ k : Nat, 0 ≤ Int32.toInt (m_x k) ∧ Int32.toInt (m_x k) ≤ 99) (h_m_height : ∀ k : Nat, 0 ≤ Int32.toInt (jA k) ∧ Int32.toInt (jA k) ≤ 99) (h_m_foot : ∀ k : Nat, 0 ≤ Int32.toInt (oY k) ∧ Int32.toInt (oY k) ≤ 99) (h_m_fork : ∀ k : Nat, 0 ≤ Int32.toInt (pR k) ∧ Int32.toInt (pR k) ≤ 99) (e0_m_told : ∀ k : Nat, k = 4 → 1 ≤ Int32.toInt (pX k) ∧ Int32.toInt (pX k) ≤ 30) (e1_m_told : ∀ k : Nat, k = 3 → 0 ≤ Int32.toInt (pX k) ∧ Int32.toInt (pX k) ≤ 9) (hc0 : -1 ≤ SB ∧ SB ≤ 7) (hc1 : (Int32.toInt aG ≤ 0 ∧ SB = 0) ∨ (1 ≤ Int32.toInt aG ∧ SB = Int32.toInt aG - 1)) (hpost : ∀ (r : Int32) (m_thrown' : Int32), (-1 ≤ Int32.toInt r ∧ Int32.toInt r ≤ 255) → (0 ≤ Int32.toInt m_thrown' ∧ Int32.toInt m_thrown' ≤ 0) → post r m_thrown') : ∀ (n : Nat) (x1 x2 x3 x4 dG : Int32), (0 ≤ Int32.toInt x1 ∧ Int32.toInt x1 ≤ 15) → (0 ≤ Int32.toInt x2 ∧ Int32.toInt x2 ≤ 1) → (0 ≤ Int32.toInt x3 ∧ Int32.toInt x3 ≤ 255) → (0 ≤ Int32.toInt x4 ∧ Int32.toInt x4 ≤ 8) → (0 ≤ Int32.toInt dG ∧ Int32.toInt dG ≤ 0) → (8 - Int32.toInt x4 < (n : Int)) → wb_X10_from_29 post bW aG rD m_x jA oY pR pX n x1 x2 x3 x4 dG := by
  intro n
  induction n with
  | zero =>
    intro x1 x2 x3 x4 dG h_x1 h_x2 h_x3 h_x4 h_m_thrown hm
    exfalso; omega
  | succ n ih =>
    intro x1 x2 x3 x4 dG h_x1 h_x2 h_x3 h_x4 h_m_thrown hm
    exact ts_X10_from_29 bW aG rD m_x jA oY pR pX h_m_fruits h_m_standings e0_m_now e1_m_now h_m_x h_m_height h_m_foot h_m_fork e0_m_told e1_m_told hc0 hc1 hpost ih x1 x2 x3 x4 dG h_x1 h_x2 h_x3 h_x4 h_m_thrown (by omega)
set_option maxHeartbeats 8000000 in
set_option maxRecDepth 200000 in
theorem t_X10_from {post : Int32 → Int32 → Prop} {SB : Int} {p0 p1 bW aG dG : Int32} {rD m_x jA oY pR pX : Nat → Int32} (h_m_fruits : 0 ≤ Int32.toInt bW ∧ Int32.toInt bW ≤ 16) (h_m_standings : 0 ≤ Int32.toInt aG ∧ Int32.toInt aG ≤ 8) (h_m_thrown : 0 ≤ Int32.toInt dG ∧ Int32.toInt dG ≤ 1) (e0_m_now : ∀ k : Nat, k = 17 → -1 ≤ Int32.toInt (rD k) ∧ Int32.toInt (rD k) ≤ SB) (e1_m_now : ∀ k : Nat, k = 19 → 0 ≤ Int32.toInt (rD k) ∧ Int32.toInt (rD k) ≤ 9) (h_m_x : ∀ k : Nat, 0 ≤ Int32.toInt (m_x k) ∧ Int32.toInt (m_x k) ≤ 99) (h_m_height : ∀ k : Nat, 0 ≤ Int32.toInt (jA k) ∧ Int32.toInt (jA k) ≤ 99) (h_m_foot : ∀ k : Nat, 0 ≤ Int32.toInt (oY k) ∧ Int32.toInt (oY k) ≤ 99) (h_m_fork : ∀ k : Nat, 0 ≤ Int32.toInt (pR k) ∧ Int32.toInt (pR k) ≤ 99) (e0_m_told : ∀ k : Nat, k = 4 → 1 ≤ Int32.toInt (pX k) ∧ Int32.toInt (pX k) ≤ 30) (e1_m_told : ∀ k : Nat, k = 3 → 0 ≤ Int32.toInt (pX k) ∧ Int32.toInt (pX k) ≤ 9) (hc0 : -1 ≤ SB ∧ SB ≤ 7) (hc1 : (Int32.toInt aG ≤ 0 ∧ SB = 0) ∨ (1 ≤ Int32.toInt aG ∧ SB = Int32.toInt aG - 1)) (hpost : ∀ (r : Int32) (m_thrown' : Int32), (-1 ≤ Int32.toInt r ∧ Int32.toInt r ≤ 255) → (0 ≤ Int32.toInt m_thrown' ∧ Int32.toInt m_thrown' ≤ 0) → post r m_thrown') : wp_X10_from post p0 p1 bW aG dG rD m_x jA oY pR pX := by
  have l0 := li_m1
  have l1 := li_0
  have l2 := li_1
  intro v45 ev45
  have f46 : Int32.toInt (bW - 1) = Int32.toInt bW - Int32.toInt (1 : Int32) := ta_sub _ _ (by omega)
  rw [← ev45] at f46
  have f48 := tp_r p0
  refine And.intro (fun c47 => ?_) (fun c47 => ?_)
  · skip
    have c47 := (fa_lt _ _).mp c47
    refine And.intro (t_bool (by omega)) ?_
    refine And.intro (fun _ => ?_) (fun h9 => absurd h9 (by decide))
    exact hpost _ _ (by omega) (by omega)
  · skip
    have c47 := mt (fa_lt _ _).mpr c47
    refine And.intro (fun c49 => ?_) (fun c49 => ?_)
    · skip
      have c49 := (fa_lt _ _).mp c49
      refine And.intro (t_bool (by omega)) ?_
      refine And.intro (fun _ => ?_) (fun h9 => absurd h9 (by decide))
      exact hpost _ _ (by omega) (by omega)
    · skip
      have c49 := mt (fa_lt _ _).mpr c49
      refine And.intro (t_bool (by omega)) ?_
      refine And.intro (fun h9 => absurd h9 (by decide)) (fun _ => ?_)
      have f51 := tp_r p1
      refine And.intro (fun c50 => ?_) (fun c50 => ?_)
      · skip
        have c50 := (fa_lt _ _).mp c50
        refine And.intro (fun h9 => absurd h9 (by decide)) (fun _ => ?_)
        exact hpost _ _ (by omega) (by omega)
      · skip
        have c50 := mt (fa_lt _ _).mpr c50
        refine And.intro (fun c52 => ?_) (fun c52 => ?_)
        · skip
          have c52 := (fa_lt _ _).mp c52
          refine And.intro (fun h9 => absurd h9 (by decide)) (fun _ => ?_)
          exact hpost _ _ (by omega) (by omega)
        · skip
          have c52 := mt (fa_lt _ _).mpr c52
          refine And.intro (fun _ => ?_) (fun h9 => absurd h9 (by decide))
          exact ⟨10, tb_X10_from_29 bW aG rD m_x jA oY pR pX h_m_fruits h_m_standings e0_m_now e1_m_now h_m_x h_m_height h_m_foot h_m_fork e0_m_told e1_m_told hc0 hc1 hpost _ p0 p1 0 0 0 (by omega) (by omega) (by omega) (by omega) (by omega) (by omega)⟩
set_option maxHeartbeats 8000000 in
set_option maxRecDepth 200000 in
theorem ts_X10_worthOfAll_35 {post : Int32 → Prop} {K5 : Int32 → Int32 → Int32 → Int32 → Prop} {n5 : Int} (bW : Int32) (pY : Nat → Int32) (h_m_fruits : 0 ≤ Int32.toInt bW ∧ Int32.toInt bW ≤ 16) (h_m_worth : ∀ k : Nat, 0 ≤ Int32.toInt (pY k) ∧ Int32.toInt (pY k) ≤ 9) (hpost : ∀ (r : Int32) , post r) (hK5 : ∀ (x1 : Int32) (x2 : Int32) (x3 : Int32) (x4 : Int32), (0 ≤ Int32.toInt x1 ∧ Int32.toInt x1 ≤ 65535) → (0 ≤ Int32.toInt x4 ∧ Int32.toInt x4 ≤ 16) → (16 - Int32.toInt x4 < n5) → K5 x1 x2 x3 x4) (x1 x2 x4 k0 k1 : Int32) (h_x1 : 0 ≤ Int32.toInt x1 ∧ Int32.toInt x1 ≤ 65535) (h_x4 : 0 ≤ Int32.toInt x4 ∧ Int32.toInt x4 ≤ 15) (h_k1 : 0 ≤ Int32.toInt k1 ∧ Int32.toInt k1 ≤ 9) (hn5 : 16 - Int32.toInt x4 ≤ n5) : ws_X10_worthOfAll_35 post K5 bW pY x1 x2 x4 k0 k1 := by
  have l0 := li_1
  intro v1 ev1
  have hv1 := congrArg Int32.toInt ev1
  intro v3 ev3
  have f4 : Int32.toInt (x4 + 1) = Int32.toInt x4 + Int32.toInt (1 : Int32) := ta_add _ _ (by omega)
  rw [← ev3] at f4
  have f5 := tp_r x2
  have f6 := tp_r v1
  exact hK5 x1 x2 v1 v3 h_x1 (by omega) (by omega)
set_option maxHeartbeats 8000000 in
set_option maxRecDepth 200000 in
theorem ts_X10_worthOfAll_5 {post : Int32 → Prop} {next : Int32 → Int32 → Int32 → Int32 → Prop} {n5 : Int} (bW : Int32) (pY : Nat → Int32) (h_m_fruits : 0 ≤ Int32.toInt bW ∧ Int32.toInt bW ≤ 16) (h_m_worth : ∀ k : Nat, 0 ≤ Int32.toInt (pY k) ∧ Int32.toInt (pY k) ≤ 9) (hpost : ∀ (r : Int32) , post r) (hKn : ∀ (x1 : Int32) (x2 : Int32) (x3 : Int32) (x4 : Int32), (0 ≤ Int32.toInt x1 ∧ Int32.toInt x1 ≤ 65535) → (0 ≤ Int32.toInt x4 ∧ Int32.toInt x4 ≤ 16) → (16 - Int32.toInt x4 < n5) → next x1 x2 x3 x4) (x1 x2 x3 x4 : Int32) (h_x1 : 0 ≤ Int32.toInt x1 ∧ Int32.toInt x1 ≤ 65535) (h_x4 : 0 ≤ Int32.toInt x4 ∧ Int32.toInt x4 ≤ 16) (hn5 : 16 - Int32.toInt x4 ≤ n5) : ws_X10_worthOfAll_5 post next bW pY x1 x2 x3 x4 := by
  have l0 := li_0
  have l1 := li_1
  have l2 := li_2
  refine And.intro (fun c7 => ?_) (fun c7 => ?_)
  · skip
    have c7 := (fa_le _ _).mp c7
    exact hpost _ 
  · skip
    have c7 := mt (fa_le _ _).mpr c7
    intro v8 ev8
    have f9 := ti_shr x1 x4 (by omega)
    have hv8 := congrArg Int32.toInt ev8
    intro v10 ev10
    have f11 := ti_andr v8 1 (by omega)
    have f12 := ti_andl v8 1 (by omega)
    have hv10 := congrArg Int32.toInt ev10
    refine And.intro (fun c13 => ?_) (fun c13 => ?_)
    · skip
      have c13 := mt (fa_eq _ _).mpr c13
      refine And.intro (fun _ => ?_) (fun h9 => absurd h9 (by decide))
      have f14 := tp_r x2
      have f15 := tp_r x3
      exact ts_X10_worthOfAll_35 bW pY h_m_fruits h_m_worth hpost hKn x1 x2 x4 x3 0 h_x1 (by omega) (by omega) hn5
    · skip
      have c13 := (fa_eq _ _).mp c13
      refine And.intro (fun h9 => absurd h9 (by decide)) (fun _ => ?_)
      intro v16 ev16
      intro v17 ev17
      have f18 := ti_andr v16 1 (by omega)
      have hv17 := congrArg Int32.toInt ev17
      refine And.intro (fun c19 => ?_) (fun c19 => ?_)
      · skip
        have c19 := mt (fa_eq _ _).mpr c19
        refine And.intro (fun _ => ?_) (fun h9 => absurd h9 (by decide))
        refine And.intro (t_in (by omega)) ?_
        have f20 := h_m_worth x4.toNatClampNeg
        have f21 := tp_r x2
        have f22 := tp_r x3
        exact ts_X10_worthOfAll_35 bW pY h_m_fruits h_m_worth hpost hKn x1 x2 x4 x3 (pY x4.toNatClampNeg) h_x1 (by omega) (by omega) hn5
      · skip
        have c19 := (fa_eq _ _).mp c19
        refine And.intro (fun h9 => absurd h9 (by decide)) (fun _ => ?_)
        refine And.intro (t_in (by omega)) ?_
        intro v23 ev23
        have f24 := h_m_worth x4.toNatClampNeg
        have hv23 := congrArg Int32.toInt ev23
        intro v25 ev25
        have f26 : Int32.toInt (v23 / 2) = Int32.toInt v23 / 2 := ti_div _ _ (by decide) (by omega) (by decide)
        rw [← ev25] at f26
        have f27 := tp_r x2
        have f28 := tp_r x3
        exact ts_X10_worthOfAll_35 bW pY h_m_fruits h_m_worth hpost hKn x1 x2 x4 x3 v25 h_x1 (by omega) (by omega) hn5
set_option maxHeartbeats 8000000 in
set_option maxRecDepth 200000 in
theorem tb_X10_worthOfAll_5 {post : Int32 → Prop} (bW : Int32) (pY : Nat → Int32) (h_m_fruits : 0 ≤ Int32.toInt bW ∧ Int32.toInt bW ≤ 16) (h_m_worth : ∀ k : Nat, 0 ≤ Int32.toInt (pY k) ∧ Int32.toInt (pY k) ≤ 9) (hpost : ∀ (r : Int32) , post r) : ∀ (n : Nat) (x1 x2 x3 x4 : Int32), (0 ≤ Int32.toInt x1 ∧ Int32.toInt x1 ≤ 65535) → (0 ≤ Int32.toInt x4 ∧ Int32.toInt x4 ≤ 16) → (16 - Int32.toInt x4 < (n : Int)) → wb_X10_worthOfAll_5 post bW pY n x1 x2 x3 x4 := by
  intro n
  induction n with
  | zero =>
    intro x1 x2 x3 x4 h_x1 h_x4 hm
    exfalso; omega
  | succ n ih =>
    intro x1 x2 x3 x4 h_x1 h_x4 hm
    exact ts_X10_worthOfAll_5 bW pY h_m_fruits h_m_worth hpost ih x1 x2 x3 x4 h_x1 h_x4 (by omega)
set_option maxHeartbeats 8000000 in
set_option maxRecDepth 200000 in
theorem t_X10_worthOfAll {post : Int32 → Prop} {p0 p1 bW : Int32} {pY : Nat → Int32} (h_p0 : 0 ≤ Int32.toInt p0 ∧ Int32.toInt p0 ≤ 65535) (h_m_fruits : 0 ≤ Int32.toInt bW ∧ Int32.toInt bW ≤ 16) (h_m_worth : ∀ k : Nat, 0 ≤ Int32.toInt (pY k) ∧ Int32.toInt (pY k) ≤ 9) (hpost : ∀ (r : Int32) , post r) : wp_X10_worthOfAll post p0 p1 bW pY := by
  have l0 := li_0
  have f29 := tp_r p1
  exact ⟨18, tb_X10_worthOfAll_5 bW pY h_m_fruits h_m_worth hpost _ p0 p1 0 0 h_p0 (by omega) (by omega)⟩
set_option maxHeartbeats 8000000 in
set_option maxRecDepth 200000 in
theorem ts_X10_never_17 {post : Int32 → Int32 → Int32 → (Nat → Int32) → Prop} {SB : Int} {next : Int32 → Int32 → Int32 → Int32 → (Nat → Int32) → Prop} {n17 : Int} (bW aG : Int32) (rD m_x jA pY oY pR pX : Nat → Int32) (h_m_fruits : 0 ≤ Int32.toInt bW ∧ Int32.toInt bW ≤ 16) (h_m_standings : 0 ≤ Int32.toInt aG ∧ Int32.toInt aG ≤ 8) (e0_m_now : ∀ k : Nat, k = 17 → -1 ≤ Int32.toInt (rD k) ∧ Int32.toInt (rD k) ≤ SB) (e1_m_now : ∀ k : Nat, k = 19 → 0 ≤ Int32.toInt (rD k) ∧ Int32.toInt (rD k) ≤ 9) (h_m_x : ∀ k : Nat, 0 ≤ Int32.toInt (m_x k) ∧ Int32.toInt (m_x k) ≤ 99) (h_m_height : ∀ k : Nat, 0 ≤ Int32.toInt (jA k) ∧ Int32.toInt (jA k) ≤ 99) (h_m_worth : ∀ k : Nat, 0 ≤ Int32.toInt (pY k) ∧ Int32.toInt (pY k) ≤ 9) (h_m_foot : ∀ k : Nat, 0 ≤ Int32.toInt (oY k) ∧ Int32.toInt (oY k) ≤ 99) (h_m_fork : ∀ k : Nat, 0 ≤ Int32.toInt (pR k) ∧ Int32.toInt (pR k) ≤ 99) (e0_m_told : ∀ k : Nat, k = 4 → 1 ≤ Int32.toInt (pX k) ∧ Int32.toInt (pX k) ≤ 30) (e1_m_told : ∀ k : Nat, k = 3 → 0 ≤ Int32.toInt (pX k) ∧ Int32.toInt (pX k) ≤ 9) (hc0 : -1 ≤ SB ∧ SB ≤ 7) (hc1 : (Int32.toInt aG ≤ 0 ∧ SB = 0) ∨ (1 ≤ Int32.toInt aG ∧ SB = Int32.toInt aG - 1)) (hpost : ∀ (r : Int32) (m_rowMany' : Int32) (m_thrown' : Int32) (m_row' : Nat → Int32), (0 ≤ Int32.toInt r ∧ Int32.toInt r ≤ 65535) → (1 ≤ Int32.toInt m_rowMany' ∧ Int32.toInt m_rowMany' ≤ 1) → (0 ≤ Int32.toInt m_thrown' ∧ Int32.toInt m_thrown' ≤ 0) → post r m_rowMany' m_thrown' m_row') (hKn : ∀ (x1 : Int32) (x2 : Int32) (bQ : Int32) (dG : Int32) (uM : Nat → Int32), (0 ≤ Int32.toInt x1 ∧ Int32.toInt x1 ≤ 65535) → (0 ≤ Int32.toInt x2 ∧ Int32.toInt x2 ≤ 8) → (0 ≤ Int32.toInt bQ ∧ Int32.toInt bQ ≤ 16) → (0 ≤ Int32.toInt dG ∧ Int32.toInt dG ≤ 0) → (8 - Int32.toInt x2 < n17) → next x1 x2 bQ dG uM) (x1 x2 bQ dG : Int32) (uM : Nat → Int32) (h_x1 : 0 ≤ Int32.toInt x1 ∧ Int32.toInt x1 ≤ 65535) (h_x2 : 0 ≤ Int32.toInt x2 ∧ Int32.toInt x2 ≤ 8) (h_m_rowMany : 0 ≤ Int32.toInt bQ ∧ Int32.toInt bQ ≤ 16) (h_m_thrown : 0 ≤ Int32.toInt dG ∧ Int32.toInt dG ≤ 0) (hn17 : 8 - Int32.toInt x2 ≤ n17) : ws_X10_never_17 post next bW aG rD m_x jA pY oY pR pX x1 x2 bQ dG uM := by
  have l0 := li_0
  have l1 := li_1
  have l2 := li_16
  refine And.intro (fun c1 => ?_) (fun c1 => ?_)
  · skip
    have c1 := (fa_le _ _).mp c1
    intro v2 ev2
    have hv2 := congrArg Int32.toInt ev2
    refine t_X10_worthOfAll h_x1 h_m_fruits h_m_worth (fun r4 => ?_)
    refine And.intro (t_in (by omega)) ?_
    intro v5 ev5
    have f6 : Int32.toInt (0 + 1) = Int32.toInt (0 : Int32) + Int32.toInt (1 : Int32) := ta_add _ _ (by omega)
    rw [← ev5] at f6
    exact hpost _ _ _ _ h_x1 (by omega) h_m_thrown
  · skip
    have c1 := mt (fa_le _ _).mpr c1
    refine t_X10_reachedFrom (by omega) (by omega) h_m_fruits h_m_x h_m_height h_m_foot h_m_fork e0_m_told e1_m_told (fun r7 h_r7 => ?_)
    intro v8 ev8
    have f10 := ti_andl x1 (r7 ^^^ (-1)) (by omega)
    have hv8 := congrArg Int32.toInt ev8
    intro v11 ev11
    have f12 : Int32.toInt (x2 + 1) = Int32.toInt x2 + Int32.toInt (1 : Int32) := ta_add _ _ (by omega)
    rw [← ev11] at f12
    exact hKn v8 v11 bQ dG uM (by omega) (by omega) h_m_rowMany h_m_thrown (by omega)
set_option maxHeartbeats 8000000 in
set_option maxRecDepth 200000 in
theorem tb_X10_never_17 {post : Int32 → Int32 → Int32 → (Nat → Int32) → Prop} {SB : Int} (bW aG : Int32) (rD m_x jA pY oY pR pX : Nat → Int32) (h_m_fruits : 0 ≤ Int32.toInt bW ∧ Int32.toInt bW ≤ 16) (h_m_standings : 0 ≤ Int32.toInt aG ∧ Int32.toInt aG ≤ 8) (e0_m_now : ∀ k : Nat, k = 17 → -1 ≤ Int32.toInt (rD k) ∧ Int32.toInt (rD k) ≤ SB) (e1_m_now : ∀ k : Nat, k = 19 → 0 ≤ Int32.toInt (rD k) ∧ Int32.toInt (rD k) ≤ 9) (h_m_x : ∀ k : Nat, 0 ≤ Int32.toInt (m_x k) ∧ Int32.toInt (m_x k) ≤ 99) (h_m_height : ∀ k : Nat, 0 ≤ Int32.toInt (jA k) ∧ Int32.toInt (jA k) ≤ 99) (h_m_worth : ∀ k : Nat, 0 ≤ Int32.toInt (pY k) ∧ Int32.toInt (pY k) ≤ 9) (h_m_foot : ∀ k : Nat, 0 ≤ Int32.toInt (oY k) ∧ Int32.toInt (oY k) ≤ 99) (h_m_fork : ∀ k : Nat, 0 ≤ Int32.toInt (pR k) ∧ Int32.toInt (pR k) ≤ 99) (e0_m_told : ∀ k : Nat, k = 4 → 1 ≤ Int32.toInt (pX k) ∧ Int32.toInt (pX k) ≤ 30) (e1_m_told : ∀ k : Nat, k = 3 → 0 ≤ Int32.toInt (pX k) ∧ Int32.toInt (pX k) ≤ 9) (hc0 : -1 ≤ SB ∧ SB ≤ 7) (hc1 : (Int32.toInt aG ≤ 0 ∧ SB = 0) ∨ (1 ≤ Int32.toInt aG ∧ SB = Int32.toInt aG - 1)) (hpost : ∀ (r : Int32) (m_rowMany' : Int32) (m_thrown' : Int32) (m_row' : Nat → Int32), (0 ≤ Int32.toInt r ∧ Int32.toInt r ≤ 65535) → (1 ≤ Int32.toInt m_rowMany' ∧ Int32.toInt m_rowMany' ≤ 1) → (0 ≤ Int32.toInt m_thrown' ∧ Int32.toInt m_thrown' ≤ 0) → post r m_rowMany' m_thrown' m_row') : ∀ (n : Nat) (x1 x2 bQ dG : Int32) (uM : Nat → Int32), (0 ≤ Int32.toInt x1 ∧ Int32.toInt x1 ≤ 65535) → (0 ≤ Int32.toInt x2 ∧ Int32.toInt x2 ≤ 8) → (0 ≤ Int32.toInt bQ ∧ Int32.toInt bQ ≤ 16) → (0 ≤ Int32.toInt dG ∧ Int32.toInt dG ≤ 0) → (8 - Int32.toInt x2 < (n : Int)) → wb_X10_never_17 post bW aG rD m_x jA pY oY pR pX n x1 x2 bQ dG uM := by
  intro n
  induction n with
  | zero =>
    intro x1 x2 bQ dG uM h_x1 h_x2 h_m_rowMany h_m_thrown hm
    exfalso; omega
  | succ n ih =>
    intro x1 x2 bQ dG uM h_x1 h_x2 h_m_rowMany h_m_thrown hm
    exact ts_X10_never_17 bW aG rD m_x jA pY oY pR pX h_m_fruits h_m_standings e0_m_now e1_m_now h_m_x h_m_height h_m_worth h_m_foot h_m_fork e0_m_told e1_m_told hc0 hc1 hpost ih x1 x2 bQ dG uM h_x1 h_x2 h_m_rowMany h_m_thrown (by omega)
set_option maxHeartbeats 8000000 in
set_option maxRecDepth 200000 in
theorem t_X10_never {post : Int32 → Int32 → Int32 → (Nat → Int32) → Prop} {SB : Int} {bW aG bQ dG : Int32} {rD m_x jA pY oY pR pX uM : Nat → Int32} (h_m_fruits : 0 ≤ Int32.toInt bW ∧ Int32.toInt bW ≤ 16) (h_m_standings : 0 ≤ Int32.toInt aG ∧ Int32.toInt aG ≤ 8) (h_m_rowMany : 0 ≤ Int32.toInt bQ ∧ Int32.toInt bQ ≤ 16) (h_m_thrown : 0 ≤ Int32.toInt dG ∧ Int32.toInt dG ≤ 1) (e0_m_now : ∀ k : Nat, k = 17 → -1 ≤ Int32.toInt (rD k) ∧ Int32.toInt (rD k) ≤ SB) (e1_m_now : ∀ k : Nat, k = 19 → 0 ≤ Int32.toInt (rD k) ∧ Int32.toInt (rD k) ≤ 9) (h_m_x : ∀ k : Nat, 0 ≤ Int32.toInt (m_x k) ∧ Int32.toInt (m_x k) ≤ 99) (h_m_height : ∀ k : Nat, 0 ≤ Int32.toInt (jA k) ∧ Int32.toInt (jA k) ≤ 99) (h_m_worth : ∀ k : Nat, 0 ≤ Int32.toInt (pY k) ∧ Int32.toInt (pY k) ≤ 9) (h_m_foot : ∀ k : Nat, 0 ≤ Int32.toInt (oY k) ∧ Int32.toInt (oY k) ≤ 99) (h_m_fork : ∀ k : Nat, 0 ≤ Int32.toInt (pR k) ∧ Int32.toInt (pR k) ≤ 99) (e0_m_told : ∀ k : Nat, k = 4 → 1 ≤ Int32.toInt (pX k) ∧ Int32.toInt (pX k) ≤ 30) (e1_m_told : ∀ k : Nat, k = 3 → 0 ≤ Int32.toInt (pX k) ∧ Int32.toInt (pX k) ≤ 9) (hc0 : -1 ≤ SB ∧ SB ≤ 7) (hc1 : (Int32.toInt aG ≤ 0 ∧ SB = 0) ∨ (1 ≤ Int32.toInt aG ∧ SB = Int32.toInt aG - 1)) (hpost : ∀ (r : Int32) (m_rowMany' : Int32) (m_thrown' : Int32) (m_row' : Nat → Int32), (0 ≤ Int32.toInt r ∧ Int32.toInt r ≤ 65535) → (1 ≤ Int32.toInt m_rowMany' ∧ Int32.toInt m_rowMany' ≤ 1) → (0 ≤ Int32.toInt m_thrown' ∧ Int32.toInt m_thrown' ≤ 0) → post r m_rowMany' m_thrown' m_row') : wp_X10_never post bW aG bQ dG rD m_x jA pY oY pR pX uM := by
  have l0 := li_0
  refine t_X10_which (by omega) h_m_fruits e0_m_now e1_m_now (by omega) (fun r13 h_r13 ox14 => ?_)
  exact ⟨10, tb_X10_never_17 bW aG rD m_x jA pY oY pR pX h_m_fruits h_m_standings e0_m_now e1_m_now h_m_x h_m_height h_m_worth h_m_foot h_m_fork e0_m_told e1_m_told hc0 hc1 hpost _ r13 0 bQ 0 uM h_r13 (by omega) h_m_rowMany (by omega) (by omega)⟩
set_option maxHeartbeats 8000000 in
set_option maxRecDepth 200000 in
theorem t_X10_seconds {post : Int32 → Int32 → Nat → Int32 → Int32 → Int32 → Int32 → Int32 → Int32 → Int32 → Int32 → Int32 → Prop} {SB : Int} {p0 p1 p2 bW aG dG : Int32} {jY : Nat} {m_length qG uW eY bU dN aR aE bJ aW : Int32} {rD m_x jA pY oY pR pX rG rQ : Nat → Int32} (h_m_fruits : 0 ≤ Int32.toInt bW ∧ Int32.toInt bW ≤ 16) (h_m_standings : 0 ≤ Int32.toInt aG ∧ Int32.toInt aG ≤ 8) (h_m_thrown : 0 ≤ Int32.toInt dG ∧ Int32.toInt dG ≤ 1) (h_m_read : jY = 0 ∨ jY = 1 ∨ jY = 2) (h_m_length : 0 ≤ Int32.toInt m_length ∧ Int32.toInt m_length ≤ 80) (h_m_top : 0 ≤ Int32.toInt qG ∧ Int32.toInt qG ≤ 80) (h_m_at : 0 ≤ Int32.toInt uW ∧ Int32.toInt uW ≤ 80) (h_m_wrong : -1 ≤ Int32.toInt eY ∧ Int32.toInt eY ≤ 80) (h_m_ruleSize : 0 ≤ Int32.toInt bU ∧ Int32.toInt bU ≤ 40) (h_m_isAsked : 0 ≤ Int32.toInt dN ∧ Int32.toInt dN ≤ 0) (h_m_askedFruit : 0 ≤ Int32.toInt aR ∧ Int32.toInt aR ≤ 15) (h_m_askedStanding : 0 ≤ Int32.toInt aE ∧ Int32.toInt aE ≤ 7) (h_m_askedHook : 0 ≤ Int32.toInt bJ ∧ Int32.toInt bJ ≤ 1) (h_m_askedApron : 0 ≤ Int32.toInt aW ∧ Int32.toInt aW ≤ 63) (e0_m_now : ∀ k : Nat, k = 17 → -1 ≤ Int32.toInt (rD k) ∧ Int32.toInt (rD k) ≤ SB) (e1_m_now : ∀ k : Nat, k = 19 → 0 ≤ Int32.toInt (rD k) ∧ Int32.toInt (rD k) ≤ 9) (h_m_x : ∀ k : Nat, 0 ≤ Int32.toInt (m_x k) ∧ Int32.toInt (m_x k) ≤ 99) (h_m_height : ∀ k : Nat, 0 ≤ Int32.toInt (jA k) ∧ Int32.toInt (jA k) ≤ 99) (h_m_worth : ∀ k : Nat, 0 ≤ Int32.toInt (pY k) ∧ Int32.toInt (pY k) ≤ 9) (h_m_foot : ∀ k : Nat, 0 ≤ Int32.toInt (oY k) ∧ Int32.toInt (oY k) ≤ 99) (h_m_fork : ∀ k : Nat, 0 ≤ Int32.toInt (pR k) ∧ Int32.toInt (pR k) ≤ 99) (e0_m_told : ∀ k : Nat, k = 4 → 1 ≤ Int32.toInt (pX k) ∧ Int32.toInt (pX k) ≤ 30) (e1_m_told : ∀ k : Nat, k = 3 → 0 ≤ Int32.toInt (pX k) ∧ Int32.toInt (pX k) ≤ 9) (h_m_text : ∀ k : Nat, -128 ≤ Int32.toInt (rG k) ∧ Int32.toInt (rG k) ≤ 127) (h_m_rule : ∀ k : Nat, -128 ≤ Int32.toInt (rQ k) ∧ Int32.toInt (rQ k) ≤ 127) (hc0 : -1 ≤ SB ∧ SB ≤ 7) (hc1 : (Int32.toInt aG ≤ 0 ∧ SB = 0) ∨ (1 ≤ Int32.toInt aG ∧ SB = Int32.toInt aG - 1)) (hpost : ∀ (r : Int32) (m_thrown' : Int32) (m_read' : Nat) (m_length' : Int32) (m_top' : Int32) (m_at' : Int32) (m_wrong' : Int32) (m_isAsked' : Int32) (m_askedFruit' : Int32) (m_askedStanding' : Int32) (m_askedHook' : Int32) (m_askedApron' : Int32), (-2 ≤ Int32.toInt r ∧ Int32.toInt r ≤ 99) → (0 ≤ Int32.toInt m_thrown' ∧ Int32.toInt m_thrown' ≤ 0) → (m_read' = 0 ∨ m_read' = 1 ∨ m_read' = 2) → (0 ≤ Int32.toInt m_length' ∧ Int32.toInt m_length' ≤ 80) → (0 ≤ Int32.toInt m_top' ∧ Int32.toInt m_top' ≤ 80) → (0 ≤ Int32.toInt m_at' ∧ Int32.toInt m_at' ≤ 80) → (-1 ≤ Int32.toInt m_wrong' ∧ Int32.toInt m_wrong' ≤ 80) → (0 ≤ Int32.toInt m_isAsked' ∧ Int32.toInt m_isAsked' ≤ 0) → (0 ≤ Int32.toInt m_askedFruit' ∧ Int32.toInt m_askedFruit' ≤ 15) → (0 ≤ Int32.toInt m_askedStanding' ∧ Int32.toInt m_askedStanding' ≤ 7) → (0 ≤ Int32.toInt m_askedHook' ∧ Int32.toInt m_askedHook' ≤ 1) → (0 ≤ Int32.toInt m_askedApron' ∧ Int32.toInt m_askedApron' ≤ 63) → post r m_thrown' m_read' m_length' m_top' m_at' m_wrong' m_isAsked' m_askedFruit' m_askedStanding' m_askedHook' m_askedApron') : wp_X10_seconds post p0 p1 p2 bW aG dG jY m_length qG uW eY bU dN aR aE bJ aW rD m_x jA pY oY pR pX rG rQ := by
  have l0 := li_m1
  have l1 := li_m2
  have l2 := li_0
  have l3 := li_1
  have l4 := li_18
  have l5 := li_2
  intro v1 ev1
  have f2 : Int32.toInt (bW - 1) = Int32.toInt bW - Int32.toInt (1 : Int32) := ta_sub _ _ (by omega)
  rw [← ev1] at f2
  have f4 := tp_r p0
  refine And.intro (fun c3 => ?_) (fun c3 => ?_)
  · skip
    have c3 := (fa_lt _ _).mp c3
    refine And.intro (t_bool (by omega)) ?_
    refine And.intro (fun _ => ?_) (fun h9 => absurd h9 (by decide))
    exact hpost _ _ _ _ _ _ _ _ _ _ _ _ (by omega) (by omega) h_m_read h_m_length h_m_top h_m_at h_m_wrong h_m_isAsked h_m_askedFruit h_m_askedStanding h_m_askedHook h_m_askedApron
  · skip
    have c3 := mt (fa_lt _ _).mpr c3
    refine And.intro (fun c5 => ?_) (fun c5 => ?_)
    · skip
      have c5 := (fa_lt _ _).mp c5
      refine And.intro (t_bool (by omega)) ?_
      refine And.intro (fun _ => ?_) (fun h9 => absurd h9 (by decide))
      exact hpost _ _ _ _ _ _ _ _ _ _ _ _ (by omega) (by omega) h_m_read h_m_length h_m_top h_m_at h_m_wrong h_m_isAsked h_m_askedFruit h_m_askedStanding h_m_askedHook h_m_askedApron
    · skip
      have c5 := mt (fa_lt _ _).mpr c5
      refine And.intro (t_bool (by omega)) ?_
      refine And.intro (fun h9 => absurd h9 (by decide)) (fun _ => ?_)
      intro v6 ev6
      have f7 : Int32.toInt (aG - 1) = Int32.toInt aG - Int32.toInt (1 : Int32) := ta_sub _ _ (by omega)
      rw [← ev6] at f7
      have f9 := tp_r p1
      refine And.intro (fun c8 => ?_) (fun c8 => ?_)
      · skip
        have c8 := (fa_lt _ _).mp c8
        refine And.intro (t_bool (by omega)) ?_
        refine And.intro (fun _ => ?_) (fun h9 => absurd h9 (by decide))
        exact hpost _ _ _ _ _ _ _ _ _ _ _ _ (by omega) (by omega) h_m_read h_m_length h_m_top h_m_at h_m_wrong h_m_isAsked h_m_askedFruit h_m_askedStanding h_m_askedHook h_m_askedApron
      · skip
        have c8 := mt (fa_lt _ _).mpr c8
        refine And.intro (fun c10 => ?_) (fun c10 => ?_)
        · skip
          have c10 := (fa_lt _ _).mp c10
          refine And.intro (t_bool (by omega)) ?_
          refine And.intro (fun _ => ?_) (fun h9 => absurd h9 (by decide))
          exact hpost _ _ _ _ _ _ _ _ _ _ _ _ (by omega) (by omega) h_m_read h_m_length h_m_top h_m_at h_m_wrong h_m_isAsked h_m_askedFruit h_m_askedStanding h_m_askedHook h_m_askedApron
        · skip
          have c10 := mt (fa_lt _ _).mpr c10
          refine And.intro (t_bool (by omega)) ?_
          refine And.intro (fun h9 => absurd h9 (by decide)) (fun _ => ?_)
          have f12 := tp_r p2
          refine And.intro (fun c11 => ?_) (fun c11 => ?_)
          · skip
            have c11 := (fa_lt _ _).mp c11
            refine And.intro (fun h9 => absurd h9 (by decide)) (fun _ => ?_)
            exact hpost _ _ _ _ _ _ _ _ _ _ _ _ (by omega) (by omega) h_m_read h_m_length h_m_top h_m_at h_m_wrong h_m_isAsked h_m_askedFruit h_m_askedStanding h_m_askedHook h_m_askedApron
          · skip
            have c11 := mt (fa_lt _ _).mpr c11
            refine And.intro (fun c13 => ?_) (fun c13 => ?_)
            · skip
              have c13 := (fa_lt _ _).mp c13
              refine And.intro (fun h9 => absurd h9 (by decide)) (fun _ => ?_)
              exact hpost _ _ _ _ _ _ _ _ _ _ _ _ (by omega) (by omega) h_m_read h_m_length h_m_top h_m_at h_m_wrong h_m_isAsked h_m_askedFruit h_m_askedStanding h_m_askedHook h_m_askedApron
            · skip
              have c13 := mt (fa_lt _ _).mpr c13
              refine And.intro (fun _ => ?_) (fun h9 => absurd h9 (by decide))
              intro v14 ev14
              have hv14 := congrArg Int32.toInt ev14
              intro v16 ev16
              have hv16 := congrArg Int32.toInt ev16
              intro v18 ev18
              have hv18 := congrArg Int32.toInt ev18
              refine And.intro (t_in (by omega)) ?_
              intro v20 ev20
              have f21 := h_m_x p0.toNatClampNeg
              have hv20 := congrArg Int32.toInt ev20
              refine And.intro (t_in (by omega)) ?_
              intro v22 ev22
              have f24 := h_m_foot p1.toNatClampNeg
              have f23 : Int32.toInt (v20 - (oY p1.toNatClampNeg)) = Int32.toInt v20 - Int32.toInt (oY p1.toNatClampNeg) := ta_sub _ _ (by omega)
              rw [← ev22] at f23
              intro v25 ev25
              have f26 := ti_abs v22 (by omega)
              have hv25 := congrArg Int32.toInt ev25
              refine And.intro (t_in (by omega)) ?_
              intro v27 ev27
              have hv27 := congrArg Int32.toInt ev27
              refine And.intro (t_in (by omega)) ?_
              intro v28 ev28
              have f29 : Int32.toInt (v27 - (oY p1.toNatClampNeg)) = Int32.toInt v27 - Int32.toInt (oY p1.toNatClampNeg) := ta_sub _ _ (by omega)
              rw [← ev28] at f29
              intro v30 ev30
              have f31 := ti_abs v28 (by omega)
              have hv30 := congrArg Int32.toInt ev30
              intro v32 ev32
              have hv32 := congrArg Int32.toInt ev32
              refine And.intro (t_in (by omega)) ?_
              intro v34 ev34
              have f35 := h_m_height p0.toNatClampNeg
              have hv34 := congrArg Int32.toInt ev34
              refine And.intro (t_in (by omega)) ?_
              intro v36 ev36
              have f38 := h_m_fork p1.toNatClampNeg
              have f37 : Int32.toInt (v34 - (pR p1.toNatClampNeg)) = Int32.toInt v34 - Int32.toInt (pR p1.toNatClampNeg) := ta_sub _ _ (by omega)
              rw [← ev36] at f37
              intro v39 ev39
              have f40 := ti_max (0 : Int32) v36
              have hv39 := congrArg Int32.toInt ev39
              refine And.intro (t_in (by omega)) ?_
              intro v41 ev41
              have hv41 := congrArg Int32.toInt ev41
              refine And.intro (t_in (by omega)) ?_
              intro v42 ev42
              have f43 : Int32.toInt (v41 - (pR p1.toNatClampNeg)) = Int32.toInt v41 - Int32.toInt (pR p1.toNatClampNeg) := ta_sub _ _ (by omega)
              rw [← ev42] at f43
              intro v44 ev44
              have f45 := ti_max (0 : Int32) v42
              have hv44 := congrArg Int32.toInt ev44
              intro v46 ev46
              have hv46 := congrArg Int32.toInt ev46
              have f49 := tp_r v46
              refine And.intro (fun c48 => ?_) (fun c48 => ?_)
              · skip
                have c48 := (fa_lt _ _).mp c48
                refine And.intro (fun _ => ?_) (fun h9 => absurd h9 (by decide))
                exact hpost _ _ _ _ _ _ _ _ _ _ _ _ (by omega) (by omega) h_m_read h_m_length h_m_top h_m_at h_m_wrong h_m_isAsked h_m_askedFruit h_m_askedStanding h_m_askedHook h_m_askedApron
              · skip
                have c48 := mt (fa_lt _ _).mpr c48
                refine And.intro (fun h9 => absurd h9 (by decide)) (fun _ => ?_)
                refine t_X10_secondsOf (by omega) (by omega) (by omega) (by omega) h_m_read h_m_length h_m_top h_m_at h_m_wrong h_m_ruleSize h_m_isAsked h_m_askedFruit h_m_askedStanding h_m_askedHook h_m_askedApron h_m_x h_m_height h_m_worth h_m_foot h_m_fork h_m_text h_m_rule (fun r61 m_read_51 m_length_52 m_top_53 m_at_54 m_wrong_55 m_isAsked_56 m_askedFruit_57 m_askedStanding_58 m_askedHook_59 m_askedApron_60 h_r61 h_m_read_51 h_m_length_52 h_m_top_53 h_m_at_54 h_m_wrong_55 h_m_isAsked_56 h_m_askedFruit_57 h_m_askedStanding_58 h_m_askedHook_59 h_m_askedApron_60 => ?_)
                exact hpost _ _ _ _ _ _ _ _ _ _ _ _ (by omega) (by omega) h_m_read_51 h_m_length_52 h_m_top_53 h_m_at_54 h_m_wrong_55 h_m_isAsked_56 h_m_askedFruit_57 h_m_askedStanding_58 h_m_askedHook_59 h_m_askedApron_60
set_option maxHeartbeats 8000000 in
set_option maxRecDepth 200000 in
theorem ts_X10_handOf_31 {post : Int32 → Prop} {K4 : Int32 → Int32 → Int32 → Prop} {n4 : Int} (aG : Int32) (tD : Nat → Int32) (h_m_standings : 0 ≤ Int32.toInt aG ∧ Int32.toInt aG ≤ 8) (h_m_hand : ∀ k : Nat, 0 ≤ Int32.toInt (tD k) ∧ Int32.toInt (tD k) ≤ 65535) (hpost : ∀ (r : Int32) , (0 ≤ Int32.toInt r ∧ Int32.toInt r ≤ 65535) → post r) (hK4 : ∀ (x1 : Int32) (x2 : Int32) (x3 : Int32), (0 ≤ Int32.toInt x1 ∧ Int32.toInt x1 ≤ 255) → (0 ≤ Int32.toInt x2 ∧ Int32.toInt x2 ≤ 65535) → (0 ≤ Int32.toInt x3 ∧ Int32.toInt x3 ≤ 8) → (8 - Int32.toInt x3 < n4) → K4 x1 x2 x3) (x1 x3 k0 k1 : Int32) (h_x1 : 0 ≤ Int32.toInt x1 ∧ Int32.toInt x1 ≤ 255) (h_x3 : 0 ≤ Int32.toInt x3 ∧ Int32.toInt x3 ≤ 7) (h_k0 : 0 ≤ Int32.toInt k0 ∧ Int32.toInt k0 ≤ 65535) (h_k1 : 0 ≤ Int32.toInt k1 ∧ Int32.toInt k1 ≤ 65535) (hn4 : 8 - Int32.toInt x3 ≤ n4) : ws_X10_handOf_31 post K4 aG tD x1 x3 k0 k1 := by
  have l0 := li_1
  intro v1 ev1
  have f2 := ti_or 16 65536 k0 k1 (by decide) (by omega) (by omega)
  have hv1 := congrArg Int32.toInt ev1
  intro v3 ev3
  have f4 : Int32.toInt (x3 + 1) = Int32.toInt x3 + Int32.toInt (1 : Int32) := ta_add _ _ (by omega)
  rw [← ev3] at f4
  exact hK4 x1 v1 v3 h_x1 (by omega) (by omega) (by omega)
set_option maxHeartbeats 8000000 in
set_option maxRecDepth 200000 in
theorem ts_X10_handOf_4 {post : Int32 → Prop} {next : Int32 → Int32 → Int32 → Prop} {n4 : Int} (aG : Int32) (tD : Nat → Int32) (h_m_standings : 0 ≤ Int32.toInt aG ∧ Int32.toInt aG ≤ 8) (h_m_hand : ∀ k : Nat, 0 ≤ Int32.toInt (tD k) ∧ Int32.toInt (tD k) ≤ 65535) (hpost : ∀ (r : Int32) , (0 ≤ Int32.toInt r ∧ Int32.toInt r ≤ 65535) → post r) (hKn : ∀ (x1 : Int32) (x2 : Int32) (x3 : Int32), (0 ≤ Int32.toInt x1 ∧ Int32.toInt x1 ≤ 255) → (0 ≤ Int32.toInt x2 ∧ Int32.toInt x2 ≤ 65535) → (0 ≤ Int32.toInt x3 ∧ Int32.toInt x3 ≤ 8) → (8 - Int32.toInt x3 < n4) → next x1 x2 x3) (x1 x2 x3 : Int32) (h_x1 : 0 ≤ Int32.toInt x1 ∧ Int32.toInt x1 ≤ 255) (h_x2 : 0 ≤ Int32.toInt x2 ∧ Int32.toInt x2 ≤ 65535) (h_x3 : 0 ≤ Int32.toInt x3 ∧ Int32.toInt x3 ≤ 8) (hn4 : 8 - Int32.toInt x3 ≤ n4) : ws_X10_handOf_4 post next aG tD x1 x2 x3 := by
  have l0 := li_0
  have l1 := li_1
  refine And.intro (fun c5 => ?_) (fun c5 => ?_)
  · skip
    have c5 := (fa_le _ _).mp c5
    exact hpost _ h_x2
  · skip
    have c5 := mt (fa_le _ _).mpr c5
    intro v6 ev6
    have f7 := ti_shr x1 x3 (by omega)
    have hv6 := congrArg Int32.toInt ev6
    intro v8 ev8
    have f9 := ti_andr v6 1 (by omega)
    have f10 := ti_andl v6 1 (by omega)
    have hv8 := congrArg Int32.toInt ev8
    refine And.intro (fun c11 => ?_) (fun c11 => ?_)
    · skip
      have c11 := mt (fa_eq _ _).mpr c11
      refine And.intro (fun _ => ?_) (fun h9 => absurd h9 (by decide))
      exact ts_X10_handOf_31 aG tD h_m_standings h_m_hand hpost hKn x1 x3 x2 0 h_x1 (by omega) h_x2 (by omega) hn4
    · skip
      have c11 := (fa_eq _ _).mp c11
      refine And.intro (fun h9 => absurd h9 (by decide)) (fun _ => ?_)
      refine And.intro (t_in (by omega)) ?_
      intro v12 ev12
      have f13 := h_m_hand x3.toNatClampNeg
      have hv12 := congrArg Int32.toInt ev12
      exact ts_X10_handOf_31 aG tD h_m_standings h_m_hand hpost hKn x1 x3 x2 v12 h_x1 (by omega) h_x2 (by omega) hn4
set_option maxHeartbeats 8000000 in
set_option maxRecDepth 200000 in
theorem tb_X10_handOf_4 {post : Int32 → Prop} (aG : Int32) (tD : Nat → Int32) (h_m_standings : 0 ≤ Int32.toInt aG ∧ Int32.toInt aG ≤ 8) (h_m_hand : ∀ k : Nat, 0 ≤ Int32.toInt (tD k) ∧ Int32.toInt (tD k) ≤ 65535) (hpost : ∀ (r : Int32) , (0 ≤ Int32.toInt r ∧ Int32.toInt r ≤ 65535) → post r) : ∀ (n : Nat) (x1 x2 x3 : Int32), (0 ≤ Int32.toInt x1 ∧ Int32.toInt x1 ≤ 255) → (0 ≤ Int32.toInt x2 ∧ Int32.toInt x2 ≤ 65535) → (0 ≤ Int32.toInt x3 ∧ Int32.toInt x3 ≤ 8) → (8 - Int32.toInt x3 < (n : Int)) → wb_X10_handOf_4 post aG tD n x1 x2 x3 := by
  intro n
  induction n with
  | zero =>
    intro x1 x2 x3 h_x1 h_x2 h_x3 hm
    exfalso; omega
  | succ n ih =>
    intro x1 x2 x3 h_x1 h_x2 h_x3 hm
    exact ts_X10_handOf_4 aG tD h_m_standings h_m_hand hpost ih x1 x2 x3 h_x1 h_x2 h_x3 (by omega)
set_option maxHeartbeats 8000000 in
set_option maxRecDepth 200000 in
theorem t_X10_handOf {post : Int32 → Prop} {p0 aG : Int32} {tD : Nat → Int32} (h_p0 : 0 ≤ Int32.toInt p0 ∧ Int32.toInt p0 ≤ 255) (h_m_standings : 0 ≤ Int32.toInt aG ∧ Int32.toInt aG ≤ 8) (h_m_hand : ∀ k : Nat, 0 ≤ Int32.toInt (tD k) ∧ Int32.toInt (tD k) ≤ 65535) (hpost : ∀ (r : Int32) , (0 ≤ Int32.toInt r ∧ Int32.toInt r ≤ 65535) → post r) : wp_X10_handOf post p0 aG tD := by
  have l0 := li_0
  exact ⟨10, tb_X10_handOf_4 aG tD h_m_standings h_m_hand hpost _ p0 0 0 h_p0 (by omega) (by omega) (by omega)⟩
set_option maxHeartbeats 8000000 in
set_option maxRecDepth 200000 in
theorem ts_X10_layHands__2 {post : Int32 → (Nat → Int32) → Prop} {SB : Int} {next : Int32 → Int32 → Int32 → (Nat → Int32) → Prop} {n2 : Int} (bW aG : Int32) (rD m_x jA rW oY pR pX : Nat → Int32) (h_m_fruits : 0 ≤ Int32.toInt bW ∧ Int32.toInt bW ≤ 16) (h_m_standings : 0 ≤ Int32.toInt aG ∧ Int32.toInt aG ≤ 8) (e0_m_now : ∀ k : Nat, k = 17 → -1 ≤ Int32.toInt (rD k) ∧ Int32.toInt (rD k) ≤ SB) (e1_m_now : ∀ k : Nat, k = 19 → 0 ≤ Int32.toInt (rD k) ∧ Int32.toInt (rD k) ≤ 9) (h_m_x : ∀ k : Nat, 0 ≤ Int32.toInt (m_x k) ∧ Int32.toInt (m_x k) ≤ 99) (h_m_height : ∀ k : Nat, 0 ≤ Int32.toInt (jA k) ∧ Int32.toInt (jA k) ≤ 99) (h_m_ripe : ∀ k : Nat, 0 ≤ Int32.toInt (rW k) ∧ Int32.toInt (rW k) ≤ 9) (h_m_foot : ∀ k : Nat, 0 ≤ Int32.toInt (oY k) ∧ Int32.toInt (oY k) ≤ 99) (h_m_fork : ∀ k : Nat, 0 ≤ Int32.toInt (pR k) ∧ Int32.toInt (pR k) ≤ 99) (e0_m_told : ∀ k : Nat, k = 4 → 1 ≤ Int32.toInt (pX k) ∧ Int32.toInt (pX k) ≤ 30) (e1_m_told : ∀ k : Nat, k = 3 → 0 ≤ Int32.toInt (pX k) ∧ Int32.toInt (pX k) ≤ 9) (hc0 : -1 ≤ SB ∧ SB ≤ 7) (hc1 : (Int32.toInt aG ≤ 0 ∧ SB = 0) ∨ (1 ≤ Int32.toInt aG ∧ SB = Int32.toInt aG - 1)) (hpost : ∀ (m_wanted' : Int32) (m_hand' : Nat → Int32), (0 ≤ Int32.toInt m_wanted' ∧ Int32.toInt m_wanted' ≤ 65535) → (∀ k : Nat, 0 ≤ Int32.toInt (m_hand' k) ∧ Int32.toInt (m_hand' k) ≤ 65535) → post m_wanted' m_hand') (hKn : ∀ (x1 : Int32) (x2 : Int32) (dU : Int32) (tD : Nat → Int32), (0 ≤ Int32.toInt x2 ∧ Int32.toInt x2 ≤ 8) → (0 ≤ Int32.toInt dU ∧ Int32.toInt dU ≤ 65535) → (∀ k : Nat, 0 ≤ Int32.toInt (tD k) ∧ Int32.toInt (tD k) ≤ 65535) → (8 - Int32.toInt x2 < n2) → next x1 x2 dU tD) (x1 x2 dU : Int32) (tD : Nat → Int32) (h_x2 : 0 ≤ Int32.toInt x2 ∧ Int32.toInt x2 ≤ 8) (h_m_wanted : 0 ≤ Int32.toInt dU ∧ Int32.toInt dU ≤ 65535) (h_m_hand : ∀ k : Nat, 0 ≤ Int32.toInt (tD k) ∧ Int32.toInt (tD k) ≤ 65535) (hn2 : 8 - Int32.toInt x2 ≤ n2) : ws_X10_layHands__2 post next bW aG rD m_x jA rW oY pR pX x1 x2 dU tD := by
  have l0 := li_0
  have l1 := li_1
  have l2 := li_19
  refine And.intro (fun c1 => ?_) (fun c1 => ?_)
  · skip
    have c1 := (fa_le _ _).mp c1
    refine t_X10_which (by omega) h_m_fruits e0_m_now e1_m_now (by omega) (fun r2 h_r2 ox3 => ?_)
    have q4 := e1_m_now (19 : Int32).toNatClampNeg (by have e9 : (19 : Int32).toNatClampNeg = (Int32.toInt (19 : Int32)).toNat := rfl; omega)
    intro v5 ev5
    have hv5 := congrArg Int32.toInt ev5
    refine t_X10_ripeOnes (by omega) h_m_fruits h_m_ripe (fun r7 h_r7 ox8 => ?_)
    intro v9 ev9
    have f10 := ti_andr r2 r7 (by omega)
    have f11 := ti_andl r2 r7 (by omega)
    have hv9 := congrArg Int32.toInt ev9
    intro v12 ev12
    have f13 := ti_shl1 8 256 aG (by decide) (by omega)
    have hv12 := congrArg Int32.toInt ev12
    have f15 : Int32.toInt (v12 - 1) = Int32.toInt v12 - Int32.toInt (1 : Int32) := ta_sub _ _ (by omega)
    refine t_X10_handOf (by omega) h_m_standings h_m_hand (fun r14 h_r14 => ?_)
    intro v16 ev16
    have f17 := ti_andr v9 r14 (by omega)
    have f18 := ti_andl v9 r14 (by omega)
    have hv16 := congrArg Int32.toInt ev16
    exact hpost _ _ (by omega) h_m_hand
  · skip
    have c1 := mt (fa_le _ _).mpr c1
    refine t_X10_reachedFrom (by omega) (by omega) h_m_fruits h_m_x h_m_height h_m_foot h_m_fork e0_m_told e1_m_told (fun r19 h_r19 => ?_)
    refine And.intro (t_in (by omega)) ?_
    have a20 : ∀ k : Nat, 0 ≤ Int32.toInt ((upd tD x2.toNatClampNeg r19) k) ∧ Int32.toInt ((upd tD x2.toNatClampNeg r19) k) ≤ 65535 := t_upd (fun k => by have q9 := h_m_hand k; omega) (by omega)
    intro v21 ev21
    have f22 : Int32.toInt (x2 + 1) = Int32.toInt x2 + Int32.toInt (1 : Int32) := ta_add _ _ (by omega)
    rw [← ev21] at f22
    have f23 := tp_r x1
    exact hKn x1 v21 dU (upd tD x2.toNatClampNeg r19) (by omega) h_m_wanted (fun k => by have q9 := a20 k; omega) (by omega)
set_option maxHeartbeats 8000000 in
set_option maxRecDepth 200000 in
theorem tb_X10_layHands__2 {post : Int32 → (Nat → Int32) → Prop} {SB : Int} (bW aG : Int32) (rD m_x jA rW oY pR pX : Nat → Int32) (h_m_fruits : 0 ≤ Int32.toInt bW ∧ Int32.toInt bW ≤ 16) (h_m_standings : 0 ≤ Int32.toInt aG ∧ Int32.toInt aG ≤ 8) (e0_m_now : ∀ k : Nat, k = 17 → -1 ≤ Int32.toInt (rD k) ∧ Int32.toInt (rD k) ≤ SB) (e1_m_now : ∀ k : Nat, k = 19 → 0 ≤ Int32.toInt (rD k) ∧ Int32.toInt (rD k) ≤ 9) (h_m_x : ∀ k : Nat, 0 ≤ Int32.toInt (m_x k) ∧ Int32.toInt (m_x k) ≤ 99) (h_m_height : ∀ k : Nat, 0 ≤ Int32.toInt (jA k) ∧ Int32.toInt (jA k) ≤ 99) (h_m_ripe : ∀ k : Nat, 0 ≤ Int32.toInt (rW k) ∧ Int32.toInt (rW k) ≤ 9) (h_m_foot : ∀ k : Nat, 0 ≤ Int32.toInt (oY k) ∧ Int32.toInt (oY k) ≤ 99) (h_m_fork : ∀ k : Nat, 0 ≤ Int32.toInt (pR k) ∧ Int32.toInt (pR k) ≤ 99) (e0_m_told : ∀ k : Nat, k = 4 → 1 ≤ Int32.toInt (pX k) ∧ Int32.toInt (pX k) ≤ 30) (e1_m_told : ∀ k : Nat, k = 3 → 0 ≤ Int32.toInt (pX k) ∧ Int32.toInt (pX k) ≤ 9) (hc0 : -1 ≤ SB ∧ SB ≤ 7) (hc1 : (Int32.toInt aG ≤ 0 ∧ SB = 0) ∨ (1 ≤ Int32.toInt aG ∧ SB = Int32.toInt aG - 1)) (hpost : ∀ (m_wanted' : Int32) (m_hand' : Nat → Int32), (0 ≤ Int32.toInt m_wanted' ∧ Int32.toInt m_wanted' ≤ 65535) → (∀ k : Nat, 0 ≤ Int32.toInt (m_hand' k) ∧ Int32.toInt (m_hand' k) ≤ 65535) → post m_wanted' m_hand') : ∀ (n : Nat) (x1 x2 dU : Int32) (tD : Nat → Int32), (0 ≤ Int32.toInt x2 ∧ Int32.toInt x2 ≤ 8) → (0 ≤ Int32.toInt dU ∧ Int32.toInt dU ≤ 65535) → (∀ k : Nat, 0 ≤ Int32.toInt (tD k) ∧ Int32.toInt (tD k) ≤ 65535) → (8 - Int32.toInt x2 < (n : Int)) → wb_X10_layHands__2 post bW aG rD m_x jA rW oY pR pX n x1 x2 dU tD := by
  intro n
  induction n with
  | zero =>
    intro x1 x2 dU tD h_x2 h_m_wanted h_m_hand hm
    exfalso; omega
  | succ n ih =>
    intro x1 x2 dU tD h_x2 h_m_wanted h_m_hand hm
    exact ts_X10_layHands__2 bW aG rD m_x jA rW oY pR pX h_m_fruits h_m_standings e0_m_now e1_m_now h_m_x h_m_height h_m_ripe h_m_foot h_m_fork e0_m_told e1_m_told hc0 hc1 hpost ih x1 x2 dU tD h_x2 h_m_wanted h_m_hand (by omega)
set_option maxHeartbeats 8000000 in
set_option maxRecDepth 200000 in
theorem t_X10_layHands_ {post : Int32 → (Nat → Int32) → Prop} {SB : Int} {p0 bW aG dU : Int32} {rD m_x jA rW oY pR pX tD : Nat → Int32} (h_m_fruits : 0 ≤ Int32.toInt bW ∧ Int32.toInt bW ≤ 16) (h_m_standings : 0 ≤ Int32.toInt aG ∧ Int32.toInt aG ≤ 8) (h_m_wanted : 0 ≤ Int32.toInt dU ∧ Int32.toInt dU ≤ 65535) (e0_m_now : ∀ k : Nat, k = 17 → -1 ≤ Int32.toInt (rD k) ∧ Int32.toInt (rD k) ≤ SB) (e1_m_now : ∀ k : Nat, k = 19 → 0 ≤ Int32.toInt (rD k) ∧ Int32.toInt (rD k) ≤ 9) (h_m_x : ∀ k : Nat, 0 ≤ Int32.toInt (m_x k) ∧ Int32.toInt (m_x k) ≤ 99) (h_m_height : ∀ k : Nat, 0 ≤ Int32.toInt (jA k) ∧ Int32.toInt (jA k) ≤ 99) (h_m_ripe : ∀ k : Nat, 0 ≤ Int32.toInt (rW k) ∧ Int32.toInt (rW k) ≤ 9) (h_m_foot : ∀ k : Nat, 0 ≤ Int32.toInt (oY k) ∧ Int32.toInt (oY k) ≤ 99) (h_m_fork : ∀ k : Nat, 0 ≤ Int32.toInt (pR k) ∧ Int32.toInt (pR k) ≤ 99) (e0_m_told : ∀ k : Nat, k = 4 → 1 ≤ Int32.toInt (pX k) ∧ Int32.toInt (pX k) ≤ 30) (e1_m_told : ∀ k : Nat, k = 3 → 0 ≤ Int32.toInt (pX k) ∧ Int32.toInt (pX k) ≤ 9) (h_m_hand : ∀ k : Nat, 0 ≤ Int32.toInt (tD k) ∧ Int32.toInt (tD k) ≤ 65535) (hc0 : -1 ≤ SB ∧ SB ≤ 7) (hc1 : (Int32.toInt aG ≤ 0 ∧ SB = 0) ∨ (1 ≤ Int32.toInt aG ∧ SB = Int32.toInt aG - 1)) (hpost : ∀ (m_wanted' : Int32) (m_hand' : Nat → Int32), (0 ≤ Int32.toInt m_wanted' ∧ Int32.toInt m_wanted' ≤ 65535) → (∀ k : Nat, 0 ≤ Int32.toInt (m_hand' k) ∧ Int32.toInt (m_hand' k) ≤ 65535) → post m_wanted' m_hand') : wp_X10_layHands_ post p0 bW aG dU rD m_x jA rW oY pR pX tD := by
  have l0 := li_0
  have f24 := tp_r p0
  exact ⟨10, tb_X10_layHands__2 bW aG rD m_x jA rW oY pR pX h_m_fruits h_m_standings e0_m_now e1_m_now h_m_x h_m_height h_m_ripe h_m_foot h_m_fork e0_m_told e1_m_told hc0 hc1 hpost _ p0 0 dU tD (by omega) h_m_wanted h_m_hand (by omega)⟩
set_option maxHeartbeats 8000000 in
set_option maxRecDepth 200000 in
theorem t_X10_both {post : Int32 → Int32 → Int32 → Int32 → (Nat → Int32) → (Nat → Int32) → Prop} {SB : Int} {p0 p1 bW aG bQ dG dU : Int32} {rD m_x jA rW oY pR pX uM tD : Nat → Int32} (h_m_fruits : 0 ≤ Int32.toInt bW ∧ Int32.toInt bW ≤ 16) (h_m_standings : 0 ≤ Int32.toInt aG ∧ Int32.toInt aG ≤ 8) (h_m_rowMany : 0 ≤ Int32.toInt bQ ∧ Int32.toInt bQ ≤ 16) (h_m_thrown : 0 ≤ Int32.toInt dG ∧ Int32.toInt dG ≤ 1) (h_m_wanted : 0 ≤ Int32.toInt dU ∧ Int32.toInt dU ≤ 65535) (e0_m_now : ∀ k : Nat, k = 17 → -1 ≤ Int32.toInt (rD k) ∧ Int32.toInt (rD k) ≤ SB) (e1_m_now : ∀ k : Nat, k = 19 → 0 ≤ Int32.toInt (rD k) ∧ Int32.toInt (rD k) ≤ 9) (h_m_x : ∀ k : Nat, 0 ≤ Int32.toInt (m_x k) ∧ Int32.toInt (m_x k) ≤ 99) (h_m_height : ∀ k : Nat, 0 ≤ Int32.toInt (jA k) ∧ Int32.toInt (jA k) ≤ 99) (h_m_ripe : ∀ k : Nat, 0 ≤ Int32.toInt (rW k) ∧ Int32.toInt (rW k) ≤ 9) (h_m_foot : ∀ k : Nat, 0 ≤ Int32.toInt (oY k) ∧ Int32.toInt (oY k) ≤ 99) (h_m_fork : ∀ k : Nat, 0 ≤ Int32.toInt (pR k) ∧ Int32.toInt (pR k) ≤ 99) (e0_m_told : ∀ k : Nat, k = 4 → 1 ≤ Int32.toInt (pX k) ∧ Int32.toInt (pX k) ≤ 30) (e1_m_told : ∀ k : Nat, k = 3 → 0 ≤ Int32.toInt (pX k) ∧ Int32.toInt (pX k) ≤ 9) (h_m_hand : ∀ k : Nat, 0 ≤ Int32.toInt (tD k) ∧ Int32.toInt (tD k) ≤ 65535) (hc0 : -1 ≤ SB ∧ SB ≤ 7) (hc1 : (Int32.toInt aG ≤ 0 ∧ SB = 0) ∨ (1 ≤ Int32.toInt aG ∧ SB = Int32.toInt aG - 1)) (hpost : ∀ (r : Int32) (m_rowMany' : Int32) (m_thrown' : Int32) (m_wanted' : Int32) (m_row' : Nat → Int32) (m_hand' : Nat → Int32), (-1 ≤ Int32.toInt r ∧ Int32.toInt r ≤ 65535) → (0 ≤ Int32.toInt m_rowMany' ∧ Int32.toInt m_rowMany' ≤ 16) → (0 ≤ Int32.toInt m_thrown' ∧ Int32.toInt m_thrown' ≤ 0) → (0 ≤ Int32.toInt m_wanted' ∧ Int32.toInt m_wanted' ≤ 65535) → (∀ k : Nat, 0 ≤ Int32.toInt (m_hand' k) ∧ Int32.toInt (m_hand' k) ≤ 65535) → post r m_rowMany' m_thrown' m_wanted' m_row' m_hand') : wp_X10_both post p0 p1 bW aG bQ dG dU rD m_x jA rW oY pR pX uM tD := by
  have l0 := li_m1
  have l1 := li_0
  have l2 := li_1
  have l3 := li_18
  intro v1 ev1
  have f2 : Int32.toInt (aG - 1) = Int32.toInt aG - Int32.toInt (1 : Int32) := ta_sub _ _ (by omega)
  rw [← ev1] at f2
  have f4 := tp_r p0
  refine And.intro (fun c3 => ?_) (fun c3 => ?_)
  · skip
    have c3 := (fa_lt _ _).mp c3
    refine And.intro (t_bool (by omega)) ?_
    refine And.intro (fun _ => ?_) (fun h9 => absurd h9 (by decide))
    exact hpost _ _ _ _ _ _ (by omega) h_m_rowMany (by omega) h_m_wanted h_m_hand
  · skip
    have c3 := mt (fa_lt _ _).mpr c3
    refine And.intro (fun c5 => ?_) (fun c5 => ?_)
    · skip
      have c5 := (fa_lt _ _).mp c5
      refine And.intro (t_bool (by omega)) ?_
      refine And.intro (fun _ => ?_) (fun h9 => absurd h9 (by decide))
      exact hpost _ _ _ _ _ _ (by omega) h_m_rowMany (by omega) h_m_wanted h_m_hand
    · skip
      have c5 := mt (fa_lt _ _).mpr c5
      refine And.intro (t_bool (by omega)) ?_
      refine And.intro (fun h9 => absurd h9 (by decide)) (fun _ => ?_)
      intro v6 ev6
      have hv6 := congrArg Int32.toInt (ev6.trans ev1.symm)
      have f8 := tp_r p1
      refine And.intro (fun c7 => ?_) (fun c7 => ?_)
      · skip
        have c7 := (fa_lt _ _).mp c7
        refine And.intro (t_bool (by omega)) ?_
        refine And.intro (fun _ => ?_) (fun h9 => absurd h9 (by decide))
        exact hpost _ _ _ _ _ _ (by omega) h_m_rowMany (by omega) h_m_wanted h_m_hand
      · skip
        have c7 := mt (fa_lt _ _).mpr c7
        refine And.intro (fun c9 => ?_) (fun c9 => ?_)
        · skip
          have c9 := (fa_lt _ _).mp c9
          refine And.intro (t_bool (by omega)) ?_
          refine And.intro (fun _ => ?_) (fun h9 => absurd h9 (by decide))
          exact hpost _ _ _ _ _ _ (by omega) h_m_rowMany (by omega) h_m_wanted h_m_hand
        · skip
          have c9 := mt (fa_lt _ _).mpr c9
          refine And.intro (t_bool (by omega)) ?_
          refine And.intro (fun h9 => absurd h9 (by decide)) (fun _ => ?_)
          refine And.intro (fun c10 => ?_) (fun c10 => ?_)
          · skip
            have c10 := mt (fa_eq _ _).mpr c10
            intro v11 ev11
            have hv11 := congrArg Int32.toInt ev11
            refine t_X10_layHands_ h_m_fruits h_m_standings h_m_wanted e0_m_now e1_m_now h_m_x h_m_height h_m_ripe h_m_foot h_m_fork e0_m_told e1_m_told h_m_hand (by omega) (by omega) (fun m_wanted_13 m_hand_14 h_m_wanted_13 h_m_hand_14 => ?_)
            refine And.intro (t_in (by omega)) ?_
            intro v15 ev15
            have f17 := h_m_hand_14 p0.toNatClampNeg
            have f16 := ti_andr m_wanted_13 (m_hand_14 p0.toNatClampNeg) (by omega)
            have f18 := ti_andl m_wanted_13 (m_hand_14 p0.toNatClampNeg) (by omega)
            have hv15 := congrArg Int32.toInt ev15
            refine And.intro (t_in (by omega)) ?_
            intro v19 ev19
            have f20 := h_m_hand_14 p1.toNatClampNeg
            have hv19 := congrArg Int32.toInt ev19
            intro v21 ev21
            have f23 := ti_andl v15 (v19 ^^^ (-1)) (by omega)
            have hv21 := congrArg Int32.toInt ev21
            refine And.intro (t_in (by omega)) ?_
            intro v24 ev24
            have f25 : Int32.toInt (0 + 1) = Int32.toInt (0 : Int32) + Int32.toInt (1 : Int32) := ta_add _ _ (by omega)
            rw [← ev24] at f25
            refine And.intro (t_in (by omega)) ?_
            intro v26 ev26
            have f27 := ti_andr m_wanted_13 (m_hand_14 p1.toNatClampNeg) (by omega)
            have f28 := ti_andl m_wanted_13 (m_hand_14 p1.toNatClampNeg) (by omega)
            have hv26 := congrArg Int32.toInt ev26
            refine And.intro (t_in (by omega)) ?_
            intro v29 ev29
            have hv29 := congrArg Int32.toInt ev29
            intro v30 ev30
            have f32 := ti_andl v26 (v29 ^^^ (-1)) (by omega)
            have hv30 := congrArg Int32.toInt ev30
            refine And.intro (t_in (by omega)) ?_
            intro v33 ev33
            have f34 : Int32.toInt (v24 + 1) = Int32.toInt v24 + Int32.toInt (1 : Int32) := ta_add _ _ (by omega)
            rw [← ev33] at f34
            refine And.intro (t_in (by omega)) ?_
            intro v35 ev35
            have hv35 := congrArg Int32.toInt ev35
            refine And.intro (t_in (by omega)) ?_
            have f36 := ti_andr v35 (m_hand_14 p1.toNatClampNeg) (by omega)
            have f37 := ti_andl v35 (m_hand_14 p1.toNatClampNeg) (by omega)
            exact hpost _ _ _ _ _ _ (by omega) (by omega) (by omega) h_m_wanted_13 h_m_hand_14
          · skip
            have c10 := (fa_eq _ _).mp c10
            exact hpost _ _ _ _ _ _ (by omega) h_m_rowMany (by omega) h_m_wanted h_m_hand
set_option maxHeartbeats 8000000 in
set_option maxRecDepth 200000 in
theorem ts_X10_leanOf_2 {post : Int32 → Prop} {next : Int32 → Int32 → Int32 → Prop} {n2 : Int} (m_x jA oY pR pX : Nat → Int32) (h_m_x : ∀ k : Nat, 0 ≤ Int32.toInt (m_x k) ∧ Int32.toInt (m_x k) ≤ 99) (h_m_height : ∀ k : Nat, 0 ≤ Int32.toInt (jA k) ∧ Int32.toInt (jA k) ≤ 99) (h_m_foot : ∀ k : Nat, 0 ≤ Int32.toInt (oY k) ∧ Int32.toInt (oY k) ≤ 99) (h_m_fork : ∀ k : Nat, 0 ≤ Int32.toInt (pR k) ∧ Int32.toInt (pR k) ≤ 99) (e0_m_told : ∀ k : Nat, k = 4 → 1 ≤ Int32.toInt (pX k) ∧ Int32.toInt (pX k) ≤ 30) (e1_m_told : ∀ k : Nat, k = 3 → 0 ≤ Int32.toInt (pX k) ∧ Int32.toInt (pX k) ≤ 9) (hpost : ∀ (r : Int32) , (0 ≤ Int32.toInt r ∧ Int32.toInt r ≤ 31) → post r) (hKn : ∀ (x1 : Int32) (x2 : Int32) (x3 : Int32), (0 ≤ Int32.toInt x1 ∧ Int32.toInt x1 ≤ 15) → (0 ≤ Int32.toInt x2 ∧ Int32.toInt x2 ≤ 7) → (0 ≤ Int32.toInt x3 ∧ Int32.toInt x3 ≤ 31) → (31 - Int32.toInt x3 < n2) → next x1 x2 x3) (x1 x2 x3 : Int32) (h_x1 : 0 ≤ Int32.toInt x1 ∧ Int32.toInt x1 ≤ 15) (h_x2 : 0 ≤ Int32.toInt x2 ∧ Int32.toInt x2 ≤ 7) (h_x3 : 0 ≤ Int32.toInt x3 ∧ Int32.toInt x3 ≤ 31) (hn2 : 31 - Int32.toInt x3 ≤ n2) : ws_X10_leanOf_2 post next m_x jA oY pR pX x1 x2 x3 := by
  have l0 := li_0
  have l1 := li_1
  have l2 := li_30
  refine And.intro (fun c1 => ?_) (fun c1 => ?_)
  · skip
    have c1 := (fa_lt _ _).mp c1
    exact hpost _ h_x3
  · skip
    have c1 := mt (fa_lt _ _).mpr c1
    intro v2 ev2
    have hv2 := congrArg Int32.toInt ev2
    intro v4 ev4
    have hv4 := congrArg Int32.toInt ev4
    refine And.intro (t_in (by omega)) ?_
    intro v6 ev6
    have f7 := h_m_x x1.toNatClampNeg
    have hv6 := congrArg Int32.toInt ev6
    refine And.intro (t_in (by omega)) ?_
    intro v8 ev8
    have f10 := h_m_foot x2.toNatClampNeg
    have f9 : Int32.toInt (v6 - (oY x2.toNatClampNeg)) = Int32.toInt v6 - Int32.toInt (oY x2.toNatClampNeg) := ta_sub _ _ (by omega)
    rw [← ev8] at f9
    intro v11 ev11
    have f12 := ti_abs v8 (by omega)
    have hv11 := congrArg Int32.toInt ev11
    refine And.intro (t_in (by omega)) ?_
    intro v13 ev13
    have hv13 := congrArg Int32.toInt ev13
    refine And.intro (t_in (by omega)) ?_
    intro v14 ev14
    have f15 : Int32.toInt (v13 - (oY x2.toNatClampNeg)) = Int32.toInt v13 - Int32.toInt (oY x2.toNatClampNeg) := ta_sub _ _ (by omega)
    rw [← ev14] at f15
    intro v16 ev16
    have f17 := ti_abs v14 (by omega)
    have hv16 := congrArg Int32.toInt ev16
    intro v18 ev18
    have hv18 := congrArg Int32.toInt ev18
    refine And.intro (t_in (by omega)) ?_
    intro v20 ev20
    have f21 := h_m_height x1.toNatClampNeg
    have hv20 := congrArg Int32.toInt ev20
    refine And.intro (t_in (by omega)) ?_
    intro v22 ev22
    have f24 := h_m_fork x2.toNatClampNeg
    have f23 : Int32.toInt (v20 - (pR x2.toNatClampNeg)) = Int32.toInt v20 - Int32.toInt (pR x2.toNatClampNeg) := ta_sub _ _ (by omega)
    rw [← ev22] at f23
    intro v25 ev25
    have f26 := ti_max (0 : Int32) v22
    have hv25 := congrArg Int32.toInt ev25
    refine And.intro (t_in (by omega)) ?_
    intro v27 ev27
    have hv27 := congrArg Int32.toInt ev27
    refine And.intro (t_in (by omega)) ?_
    intro v28 ev28
    have f29 : Int32.toInt (v27 - (pR x2.toNatClampNeg)) = Int32.toInt v27 - Int32.toInt (pR x2.toNatClampNeg) := ta_sub _ _ (by omega)
    rw [← ev28] at f29
    intro v30 ev30
    have f31 := ti_max (0 : Int32) v28
    have hv30 := congrArg Int32.toInt ev30
    intro v32 ev32
    have hv32 := congrArg Int32.toInt ev32
    have f35 := tp_r v32
    refine And.intro (fun c34 => ?_) (fun c34 => ?_)
    · skip
      have c34 := (fa_lt _ _).mp c34
      refine And.intro (fun h9 => absurd h9 (by decide)) (fun _ => ?_)
      intro v37 ev37
      have f38 : Int32.toInt (x3 + 1) = Int32.toInt x3 + Int32.toInt (1 : Int32) := ta_add _ _ (by omega)
      rw [← ev37] at f38
      exact hKn x1 x2 v37 h_x1 h_x2 (by omega) (by omega)
    · skip
      have c34 := mt (fa_lt _ _).mpr c34
      refine And.intro (fun _ => ?_) (fun h9 => absurd h9 (by decide))
      exact hpost _ h_x3
set_option maxHeartbeats 8000000 in
set_option maxRecDepth 200000 in
theorem tb_X10_leanOf_2 {post : Int32 → Prop} (m_x jA oY pR pX : Nat → Int32) (h_m_x : ∀ k : Nat, 0 ≤ Int32.toInt (m_x k) ∧ Int32.toInt (m_x k) ≤ 99) (h_m_height : ∀ k : Nat, 0 ≤ Int32.toInt (jA k) ∧ Int32.toInt (jA k) ≤ 99) (h_m_foot : ∀ k : Nat, 0 ≤ Int32.toInt (oY k) ∧ Int32.toInt (oY k) ≤ 99) (h_m_fork : ∀ k : Nat, 0 ≤ Int32.toInt (pR k) ∧ Int32.toInt (pR k) ≤ 99) (e0_m_told : ∀ k : Nat, k = 4 → 1 ≤ Int32.toInt (pX k) ∧ Int32.toInt (pX k) ≤ 30) (e1_m_told : ∀ k : Nat, k = 3 → 0 ≤ Int32.toInt (pX k) ∧ Int32.toInt (pX k) ≤ 9) (hpost : ∀ (r : Int32) , (0 ≤ Int32.toInt r ∧ Int32.toInt r ≤ 31) → post r) : ∀ (n : Nat) (x1 x2 x3 : Int32), (0 ≤ Int32.toInt x1 ∧ Int32.toInt x1 ≤ 15) → (0 ≤ Int32.toInt x2 ∧ Int32.toInt x2 ≤ 7) → (0 ≤ Int32.toInt x3 ∧ Int32.toInt x3 ≤ 31) → (31 - Int32.toInt x3 < (n : Int)) → wb_X10_leanOf_2 post m_x jA oY pR pX n x1 x2 x3 := by
  intro n
  induction n with
  | zero =>
    intro x1 x2 x3 h_x1 h_x2 h_x3 hm
    exfalso; omega
  | succ n ih =>
    intro x1 x2 x3 h_x1 h_x2 h_x3 hm
    exact ts_X10_leanOf_2 m_x jA oY pR pX h_m_x h_m_height h_m_foot h_m_fork e0_m_told e1_m_told hpost ih x1 x2 x3 h_x1 h_x2 h_x3 (by omega)
set_option maxHeartbeats 8000000 in
set_option maxRecDepth 200000 in
theorem t_X10_leanOf {post : Int32 → Prop} {p0 p1 : Int32} {m_x jA oY pR pX : Nat → Int32} (h_p0 : 0 ≤ Int32.toInt p0 ∧ Int32.toInt p0 ≤ 15) (h_p1 : 0 ≤ Int32.toInt p1 ∧ Int32.toInt p1 ≤ 7) (h_m_x : ∀ k : Nat, 0 ≤ Int32.toInt (m_x k) ∧ Int32.toInt (m_x k) ≤ 99) (h_m_height : ∀ k : Nat, 0 ≤ Int32.toInt (jA k) ∧ Int32.toInt (jA k) ≤ 99) (h_m_foot : ∀ k : Nat, 0 ≤ Int32.toInt (oY k) ∧ Int32.toInt (oY k) ≤ 99) (h_m_fork : ∀ k : Nat, 0 ≤ Int32.toInt (pR k) ∧ Int32.toInt (pR k) ≤ 99) (e0_m_told : ∀ k : Nat, k = 4 → 1 ≤ Int32.toInt (pX k) ∧ Int32.toInt (pX k) ≤ 30) (e1_m_told : ∀ k : Nat, k = 3 → 0 ≤ Int32.toInt (pX k) ∧ Int32.toInt (pX k) ≤ 9) (hpost : ∀ (r : Int32) , (0 ≤ Int32.toInt r ∧ Int32.toInt r ≤ 31) → post r) : wp_X10_leanOf post p0 p1 m_x jA oY pR pX := by
  have l0 := li_0
  exact ⟨33, tb_X10_leanOf_2 m_x jA oY pR pX h_m_x h_m_height h_m_foot h_m_fork e0_m_told e1_m_told hpost _ p0 p1 0 h_p0 h_p1 (by omega) (by omega)⟩
set_option maxHeartbeats 8000000 in
set_option maxRecDepth 200000 in
theorem ts_X10_nearest_60 {post : Int32 → Int32 → Int32 → (Nat → Int32) → Prop} {K20 : Int32 → Int32 → Int32 → Int32 → Int32 → (Nat → Int32) → Prop} {n20 : Int} (bW aG : Int32) (m_x jA oY pR pX : Nat → Int32) (h_m_fruits : 0 ≤ Int32.toInt bW ∧ Int32.toInt bW ≤ 16) (h_m_standings : 0 ≤ Int32.toInt aG ∧ Int32.toInt aG ≤ 8) (h_m_x : ∀ k : Nat, 0 ≤ Int32.toInt (m_x k) ∧ Int32.toInt (m_x k) ≤ 99) (h_m_height : ∀ k : Nat, 0 ≤ Int32.toInt (jA k) ∧ Int32.toInt (jA k) ≤ 99) (h_m_foot : ∀ k : Nat, 0 ≤ Int32.toInt (oY k) ∧ Int32.toInt (oY k) ≤ 99) (h_m_fork : ∀ k : Nat, 0 ≤ Int32.toInt (pR k) ∧ Int32.toInt (pR k) ≤ 99) (e0_m_told : ∀ k : Nat, k = 4 → 1 ≤ Int32.toInt (pX k) ∧ Int32.toInt (pX k) ≤ 30) (e1_m_told : ∀ k : Nat, k = 3 → 0 ≤ Int32.toInt (pX k) ∧ Int32.toInt (pX k) ≤ 9) (hpost : ∀ (r : Int32) (m_rowMany' : Int32) (m_thrown' : Int32) (m_row' : Nat → Int32), (-2 ≤ Int32.toInt r ∧ Int32.toInt r ≤ 7) → (0 ≤ Int32.toInt m_rowMany' ∧ Int32.toInt m_rowMany' ≤ 16) → (0 ≤ Int32.toInt m_thrown' ∧ Int32.toInt m_thrown' ≤ 0) → post r m_rowMany' m_thrown' m_row') (hK20 : ∀ (x1 : Int32) (x2 : Int32) (x3 : Int32) (bQ : Int32) (dG : Int32) (uM : Nat → Int32), (0 ≤ Int32.toInt x1 ∧ Int32.toInt x1 ≤ 15) → (-2 ≤ Int32.toInt x2 ∧ Int32.toInt x2 ≤ 7) → (0 ≤ Int32.toInt x3 ∧ Int32.toInt x3 ≤ 8) → (0 ≤ Int32.toInt bQ ∧ Int32.toInt bQ ≤ 16) → (0 ≤ Int32.toInt dG ∧ Int32.toInt dG ≤ 0) → (8 - Int32.toInt x3 < n20) → K20 x1 x2 x3 bQ dG uM) (x1 x2 x3 bQ dG : Int32) (uM : Nat → Int32) (h_x1 : 0 ≤ Int32.toInt x1 ∧ Int32.toInt x1 ≤ 15) (h_x2 : -2 ≤ Int32.toInt x2 ∧ Int32.toInt x2 ≤ 7) (h_x3 : 0 ≤ Int32.toInt x3 ∧ Int32.toInt x3 ≤ 7) (h_m_rowMany : 0 ≤ Int32.toInt bQ ∧ Int32.toInt bQ ≤ 16) (h_m_thrown : 0 ≤ Int32.toInt dG ∧ Int32.toInt dG ≤ 0) (hn20 : 8 - Int32.toInt x3 ≤ n20) : ws_X10_nearest_60 post K20 bW aG m_x jA oY pR pX x1 x2 x3 bQ dG uM := by
  have l0 := li_1
  intro v1 ev1
  have f2 : Int32.toInt (x3 + 1) = Int32.toInt x3 + Int32.toInt (1 : Int32) := ta_add _ _ (by omega)
  rw [← ev1] at f2
  exact hK20 x1 x2 v1 bQ dG uM h_x1 h_x2 (by omega) h_m_rowMany h_m_thrown (by omega)
set_option maxHeartbeats 8000000 in
set_option maxRecDepth 200000 in
theorem ts_X10_nearest_58 {post : Int32 → Int32 → Int32 → (Nat → Int32) → Prop} {K20 : Int32 → Int32 → Int32 → Int32 → Int32 → (Nat → Int32) → Prop} {n20 : Int} (bW aG : Int32) (m_x jA oY pR pX : Nat → Int32) (h_m_fruits : 0 ≤ Int32.toInt bW ∧ Int32.toInt bW ≤ 16) (h_m_standings : 0 ≤ Int32.toInt aG ∧ Int32.toInt aG ≤ 8) (h_m_x : ∀ k : Nat, 0 ≤ Int32.toInt (m_x k) ∧ Int32.toInt (m_x k) ≤ 99) (h_m_height : ∀ k : Nat, 0 ≤ Int32.toInt (jA k) ∧ Int32.toInt (jA k) ≤ 99) (h_m_foot : ∀ k : Nat, 0 ≤ Int32.toInt (oY k) ∧ Int32.toInt (oY k) ≤ 99) (h_m_fork : ∀ k : Nat, 0 ≤ Int32.toInt (pR k) ∧ Int32.toInt (pR k) ≤ 99) (e0_m_told : ∀ k : Nat, k = 4 → 1 ≤ Int32.toInt (pX k) ∧ Int32.toInt (pX k) ≤ 30) (e1_m_told : ∀ k : Nat, k = 3 → 0 ≤ Int32.toInt (pX k) ∧ Int32.toInt (pX k) ≤ 9) (hpost : ∀ (r : Int32) (m_rowMany' : Int32) (m_thrown' : Int32) (m_row' : Nat → Int32), (-2 ≤ Int32.toInt r ∧ Int32.toInt r ≤ 7) → (0 ≤ Int32.toInt m_rowMany' ∧ Int32.toInt m_rowMany' ≤ 16) → (0 ≤ Int32.toInt m_thrown' ∧ Int32.toInt m_thrown' ≤ 0) → post r m_rowMany' m_thrown' m_row') (hK20 : ∀ (x1 : Int32) (x2 : Int32) (x3 : Int32) (bQ : Int32) (dG : Int32) (uM : Nat → Int32), (0 ≤ Int32.toInt x1 ∧ Int32.toInt x1 ≤ 15) → (-2 ≤ Int32.toInt x2 ∧ Int32.toInt x2 ≤ 7) → (0 ≤ Int32.toInt x3 ∧ Int32.toInt x3 ≤ 8) → (0 ≤ Int32.toInt bQ ∧ Int32.toInt bQ ≤ 16) → (0 ≤ Int32.toInt dG ∧ Int32.toInt dG ≤ 0) → (8 - Int32.toInt x3 < n20) → K20 x1 x2 x3 bQ dG uM) (x1 x3 bQ dG : Int32) (uM : Nat → Int32) (h_x1 : 0 ≤ Int32.toInt x1 ∧ Int32.toInt x1 ≤ 15) (h_x3 : 0 ≤ Int32.toInt x3 ∧ Int32.toInt x3 ≤ 7) (h_m_rowMany : 0 ≤ Int32.toInt bQ ∧ Int32.toInt bQ ≤ 16) (h_m_thrown : 0 ≤ Int32.toInt dG ∧ Int32.toInt dG ≤ 0) (hn20 : 8 - Int32.toInt x3 ≤ n20) : ws_X10_nearest_58 post K20 bW aG m_x jA oY pR pX x1 x3 bQ dG uM := by
  exact ts_X10_nearest_60 bW aG m_x jA oY pR pX h_m_fruits h_m_standings h_m_x h_m_height h_m_foot h_m_fork e0_m_told e1_m_told hpost hK20 x1 x3 x3 bQ dG uM h_x1 (by omega) h_x3 h_m_rowMany h_m_thrown hn20
set_option maxHeartbeats 8000000 in
set_option maxRecDepth 200000 in
theorem ts_X10_nearest_20 {post : Int32 → Int32 → Int32 → (Nat → Int32) → Prop} {next : Int32 → Int32 → Int32 → Int32 → Int32 → (Nat → Int32) → Prop} {n20 : Int} (bW aG : Int32) (m_x jA oY pR pX : Nat → Int32) (h_m_fruits : 0 ≤ Int32.toInt bW ∧ Int32.toInt bW ≤ 16) (h_m_standings : 0 ≤ Int32.toInt aG ∧ Int32.toInt aG ≤ 8) (h_m_x : ∀ k : Nat, 0 ≤ Int32.toInt (m_x k) ∧ Int32.toInt (m_x k) ≤ 99) (h_m_height : ∀ k : Nat, 0 ≤ Int32.toInt (jA k) ∧ Int32.toInt (jA k) ≤ 99) (h_m_foot : ∀ k : Nat, 0 ≤ Int32.toInt (oY k) ∧ Int32.toInt (oY k) ≤ 99) (h_m_fork : ∀ k : Nat, 0 ≤ Int32.toInt (pR k) ∧ Int32.toInt (pR k) ≤ 99) (e0_m_told : ∀ k : Nat, k = 4 → 1 ≤ Int32.toInt (pX k) ∧ Int32.toInt (pX k) ≤ 30) (e1_m_told : ∀ k : Nat, k = 3 → 0 ≤ Int32.toInt (pX k) ∧ Int32.toInt (pX k) ≤ 9) (hpost : ∀ (r : Int32) (m_rowMany' : Int32) (m_thrown' : Int32) (m_row' : Nat → Int32), (-2 ≤ Int32.toInt r ∧ Int32.toInt r ≤ 7) → (0 ≤ Int32.toInt m_rowMany' ∧ Int32.toInt m_rowMany' ≤ 16) → (0 ≤ Int32.toInt m_thrown' ∧ Int32.toInt m_thrown' ≤ 0) → post r m_rowMany' m_thrown' m_row') (hKn : ∀ (x1 : Int32) (x2 : Int32) (x3 : Int32) (bQ : Int32) (dG : Int32) (uM : Nat → Int32), (0 ≤ Int32.toInt x1 ∧ Int32.toInt x1 ≤ 15) → (-2 ≤ Int32.toInt x2 ∧ Int32.toInt x2 ≤ 7) → (0 ≤ Int32.toInt x3 ∧ Int32.toInt x3 ≤ 8) → (0 ≤ Int32.toInt bQ ∧ Int32.toInt bQ ≤ 16) → (0 ≤ Int32.toInt dG ∧ Int32.toInt dG ≤ 0) → (8 - Int32.toInt x3 < n20) → next x1 x2 x3 bQ dG uM) (x1 x2 x3 bQ dG : Int32) (uM : Nat → Int32) (h_x1 : 0 ≤ Int32.toInt x1 ∧ Int32.toInt x1 ≤ 15) (h_x2 : -2 ≤ Int32.toInt x2 ∧ Int32.toInt x2 ≤ 7) (h_x3 : 0 ≤ Int32.toInt x3 ∧ Int32.toInt x3 ≤ 8) (h_m_rowMany : 0 ≤ Int32.toInt bQ ∧ Int32.toInt bQ ≤ 16) (h_m_thrown : 0 ≤ Int32.toInt dG ∧ Int32.toInt dG ≤ 0) (hn20 : 8 - Int32.toInt x3 ≤ n20) : ws_X10_nearest_20 post next bW aG m_x jA oY pR pX x1 x2 x3 bQ dG uM := by
  have l0 := li_m2
  have l1 := li_0
  have l2 := li_1
  have l3 := li_30
  refine And.intro (fun c3 => ?_) (fun c3 => ?_)
  · skip
    have c3 := (fa_le _ _).mp c3
    refine And.intro (fun c4 => ?_) (fun c4 => ?_)
    · skip
      have c4 := (fa_le _ _).mp c4
      refine t_X10_leanOf h_x1 (by omega) h_m_x h_m_height h_m_foot h_m_fork e0_m_told e1_m_told (fun r5 h_r5 => ?_)
      refine And.intro (t_in (by omega)) ?_
      intro v6 ev6
      have f7 : Int32.toInt (0 + 1) = Int32.toInt (0 : Int32) + Int32.toInt (1 : Int32) := ta_add _ _ (by omega)
      rw [← ev6] at f7
      exact hpost _ _ _ _ h_x2 (by omega) h_m_thrown
    · skip
      have c4 := mt (fa_le _ _).mpr c4
      exact hpost _ _ _ _ (by omega) h_m_rowMany h_m_thrown
  · skip
    have c3 := mt (fa_le _ _).mpr c3
    refine t_X10_leanOf h_x1 (by omega) h_m_x h_m_height h_m_foot h_m_fork e0_m_told e1_m_told (fun r8 h_r8 => ?_)
    refine And.intro (fun c9 => ?_) (fun c9 => ?_)
    · skip
      have c9 := (fa_lt _ _).mp c9
      exact ts_X10_nearest_60 bW aG m_x jA oY pR pX h_m_fruits h_m_standings h_m_x h_m_height h_m_foot h_m_fork e0_m_told e1_m_told hpost hKn x1 x2 x3 bQ dG uM h_x1 h_x2 (by omega) h_m_rowMany h_m_thrown hn20
    · skip
      have c9 := mt (fa_lt _ _).mpr c9
      refine And.intro (fun c10 => ?_) (fun c10 => ?_)
      · skip
        have c10 := (fa_lt _ _).mp c10
        exact ts_X10_nearest_58 bW aG m_x jA oY pR pX h_m_fruits h_m_standings h_m_x h_m_height h_m_foot h_m_fork e0_m_told e1_m_told hpost hKn x1 x3 bQ dG uM h_x1 (by omega) h_m_rowMany h_m_thrown hn20
      · skip
        have c10 := mt (fa_lt _ _).mpr c10
        refine t_X10_leanOf h_x1 (by omega) h_m_x h_m_height h_m_foot h_m_fork e0_m_told e1_m_told (fun r11 h_r11 => ?_)
        refine t_X10_leanOf h_x1 (by omega) h_m_x h_m_height h_m_foot h_m_fork e0_m_told e1_m_told (fun r12 h_r12 => ?_)
        refine And.intro (fun c13 => ?_) (fun c13 => ?_)
        · skip
          have c13 := (fa_le _ _).mp c13
          exact ts_X10_nearest_60 bW aG m_x jA oY pR pX h_m_fruits h_m_standings h_m_x h_m_height h_m_foot h_m_fork e0_m_told e1_m_told hpost hKn x1 x2 x3 bQ dG uM h_x1 h_x2 (by omega) h_m_rowMany h_m_thrown hn20
        · skip
          have c13 := mt (fa_le _ _).mpr c13
          exact ts_X10_nearest_58 bW aG m_x jA oY pR pX h_m_fruits h_m_standings h_m_x h_m_height h_m_foot h_m_fork e0_m_told e1_m_told hpost hKn x1 x3 bQ dG uM h_x1 (by omega) h_m_rowMany h_m_thrown hn20
set_option maxHeartbeats 8000000 in
set_option maxRecDepth 200000 in
theorem tb_X10_nearest_20 {post : Int32 → Int32 → Int32 → (Nat → Int32) → Prop} (bW aG : Int32) (m_x jA oY pR pX : Nat → Int32) (h_m_fruits : 0 ≤ Int32.toInt bW ∧ Int32.toInt bW ≤ 16) (h_m_standings : 0 ≤ Int32.toInt aG ∧ Int32.toInt aG ≤ 8) (h_m_x : ∀ k : Nat, 0 ≤ Int32.toInt (m_x k) ∧ Int32.toInt (m_x k) ≤ 99) (h_m_height : ∀ k : Nat, 0 ≤ Int32.toInt (jA k) ∧ Int32.toInt (jA k) ≤ 99) (h_m_foot : ∀ k : Nat, 0 ≤ Int32.toInt (oY k) ∧ Int32.toInt (oY k) ≤ 99) (h_m_fork : ∀ k : Nat, 0 ≤ Int32.toInt (pR k) ∧ Int32.toInt (pR k) ≤ 99) (e0_m_told : ∀ k : Nat, k = 4 → 1 ≤ Int32.toInt (pX k) ∧ Int32.toInt (pX k) ≤ 30) (e1_m_told : ∀ k : Nat, k = 3 → 0 ≤ Int32.toInt (pX k) ∧ Int32.toInt (pX k) ≤ 9) (hpost : ∀ (r : Int32) (m_rowMany' : Int32) (m_thrown' : Int32) (m_row' : Nat → Int32), (-2 ≤ Int32.toInt r ∧ Int32.toInt r ≤ 7) → (0 ≤ Int32.toInt m_rowMany' ∧ Int32.toInt m_rowMany' ≤ 16) → (0 ≤ Int32.toInt m_thrown' ∧ Int32.toInt m_thrown' ≤ 0) → post r m_rowMany' m_thrown' m_row') : ∀ (n : Nat) (x1 x2 x3 bQ dG : Int32) (uM : Nat → Int32), (0 ≤ Int32.toInt x1 ∧ Int32.toInt x1 ≤ 15) → (-2 ≤ Int32.toInt x2 ∧ Int32.toInt x2 ≤ 7) → (0 ≤ Int32.toInt x3 ∧ Int32.toInt x3 ≤ 8) → (0 ≤ Int32.toInt bQ ∧ Int32.toInt bQ ≤ 16) → (0 ≤ Int32.toInt dG ∧ Int32.toInt dG ≤ 0) → (8 - Int32.toInt x3 < (n : Int)) → wb_X10_nearest_20 post bW aG m_x jA oY pR pX n x1 x2 x3 bQ dG uM := by
  intro n
  induction n with
  | zero =>
    intro x1 x2 x3 bQ dG uM h_x1 h_x2 h_x3 h_m_rowMany h_m_thrown hm
    exfalso; omega
  | succ n ih =>
    intro x1 x2 x3 bQ dG uM h_x1 h_x2 h_x3 h_m_rowMany h_m_thrown hm
    exact ts_X10_nearest_20 bW aG m_x jA oY pR pX h_m_fruits h_m_standings h_m_x h_m_height h_m_foot h_m_fork e0_m_told e1_m_told hpost ih x1 x2 x3 bQ dG uM h_x1 h_x2 h_x3 h_m_rowMany h_m_thrown (by omega)
set_option maxHeartbeats 8000000 in
set_option maxRecDepth 200000 in
theorem t_X10_nearest {post : Int32 → Int32 → Int32 → (Nat → Int32) → Prop} {p0 bW aG bQ dG : Int32} {m_x jA oY pR pX uM : Nat → Int32} (h_m_fruits : 0 ≤ Int32.toInt bW ∧ Int32.toInt bW ≤ 16) (h_m_standings : 0 ≤ Int32.toInt aG ∧ Int32.toInt aG ≤ 8) (h_m_rowMany : 0 ≤ Int32.toInt bQ ∧ Int32.toInt bQ ≤ 16) (h_m_thrown : 0 ≤ Int32.toInt dG ∧ Int32.toInt dG ≤ 1) (h_m_x : ∀ k : Nat, 0 ≤ Int32.toInt (m_x k) ∧ Int32.toInt (m_x k) ≤ 99) (h_m_height : ∀ k : Nat, 0 ≤ Int32.toInt (jA k) ∧ Int32.toInt (jA k) ≤ 99) (h_m_foot : ∀ k : Nat, 0 ≤ Int32.toInt (oY k) ∧ Int32.toInt (oY k) ≤ 99) (h_m_fork : ∀ k : Nat, 0 ≤ Int32.toInt (pR k) ∧ Int32.toInt (pR k) ≤ 99) (e0_m_told : ∀ k : Nat, k = 4 → 1 ≤ Int32.toInt (pX k) ∧ Int32.toInt (pX k) ≤ 30) (e1_m_told : ∀ k : Nat, k = 3 → 0 ≤ Int32.toInt (pX k) ∧ Int32.toInt (pX k) ≤ 9) (hpost : ∀ (r : Int32) (m_rowMany' : Int32) (m_thrown' : Int32) (m_row' : Nat → Int32), (-2 ≤ Int32.toInt r ∧ Int32.toInt r ≤ 7) → (0 ≤ Int32.toInt m_rowMany' ∧ Int32.toInt m_rowMany' ≤ 16) → (0 ≤ Int32.toInt m_thrown' ∧ Int32.toInt m_thrown' ≤ 0) → post r m_rowMany' m_thrown' m_row') : wp_X10_nearest post p0 bW aG bQ dG m_x jA oY pR pX uM := by
  have l0 := li_m1
  have l1 := li_m2
  have l2 := li_0
  have l3 := li_1
  intro v14 ev14
  have f15 : Int32.toInt (bW - 1) = Int32.toInt bW - Int32.toInt (1 : Int32) := ta_sub _ _ (by omega)
  rw [← ev14] at f15
  have f17 := tp_r p0
  refine And.intro (fun c16 => ?_) (fun c16 => ?_)
  · skip
    have c16 := (fa_lt _ _).mp c16
    refine And.intro (t_bool (by omega)) ?_
    refine And.intro (fun h9 => absurd h9 (by decide)) (fun _ => ?_)
    exact hpost _ _ _ _ (by omega) h_m_rowMany (by omega)
  · skip
    have c16 := mt (fa_lt _ _).mpr c16
    refine And.intro (fun c18 => ?_) (fun c18 => ?_)
    · skip
      have c18 := (fa_lt _ _).mp c18
      refine And.intro (t_bool (by omega)) ?_
      refine And.intro (fun h9 => absurd h9 (by decide)) (fun _ => ?_)
      exact hpost _ _ _ _ (by omega) h_m_rowMany (by omega)
    · skip
      have c18 := mt (fa_lt _ _).mpr c18
      refine And.intro (t_bool (by omega)) ?_
      refine And.intro (fun _ => ?_) (fun h9 => absurd h9 (by decide))
      exact ⟨10, tb_X10_nearest_20 bW aG m_x jA oY pR pX h_m_fruits h_m_standings h_m_x h_m_height h_m_foot h_m_fork e0_m_told e1_m_told hpost _ p0 (-2) 0 bQ 0 uM (by omega) (by omega) (by omega) h_m_rowMany (by omega) (by omega)⟩
theorem t_J6_numberOfTrailingZeros_0f7a4 {post : Int32 → Prop} {p0 : Int32} (hpost : ∀ (r : Int32) , ((1 ≤ Int32.toInt p0 ∧ Int32.toInt p0 ≤ 65535) → (0 ≤ Int32.toInt r ∧ Int32.toInt r ≤ 15)) → post r) : wp_J6_numberOfTrailingZeros_0f7a4 post p0 := by
  exact f_ntz hpost
set_option maxHeartbeats 8000000 in
set_option maxRecDepth 200000 in
theorem ts_X10_cover_67 {post : Int32 → Prop} {K4 : Int32 → Int32 → Int32 → Prop} {n4 : Int} (aG : Int32) (tD : Nat → Int32) (h_m_standings : 0 ≤ Int32.toInt aG ∧ Int32.toInt aG ≤ 8) (h_m_hand : ∀ k : Nat, 0 ≤ Int32.toInt (tD k) ∧ Int32.toInt (tD k) ≤ 65535) (hpost : ∀ (r : Int32) , (-1 ≤ Int32.toInt r ∧ Int32.toInt r ≤ 255) → post r) (hK4 : ∀ (x1 : Int32) (x2 : Int32) (x3 : Int32), (0 ≤ Int32.toInt x1 ∧ Int32.toInt x1 ≤ 65535) → (-1 ≤ Int32.toInt x2 ∧ Int32.toInt x2 ≤ 255) → (0 ≤ Int32.toInt x3 ∧ Int32.toInt x3 ≤ 256) → (256 - Int32.toInt x3 < n4) → K4 x1 x2 x3) (x1 x2 x3 : Int32) (h_x1 : 0 ≤ Int32.toInt x1 ∧ Int32.toInt x1 ≤ 65535) (h_x2 : -1 ≤ Int32.toInt x2 ∧ Int32.toInt x2 ≤ 255) (h_x3 : 0 ≤ Int32.toInt x3 ∧ Int32.toInt x3 ≤ 255) (hn4 : 256 - Int32.toInt x3 ≤ n4) : ws_X10_cover_67 post K4 aG tD x1 x2 x3 := by
  have l0 := li_1
  intro v1 ev1
  have f2 : Int32.toInt (x3 + 1) = Int32.toInt x3 + Int32.toInt (1 : Int32) := ta_add _ _ (by omega)
  rw [← ev1] at f2
  exact hK4 x1 x2 v1 h_x1 h_x2 (by omega) (by omega)
set_option maxHeartbeats 8000000 in
set_option maxRecDepth 200000 in
theorem ts_X10_cover_65 {post : Int32 → Prop} {K4 : Int32 → Int32 → Int32 → Prop} {n4 : Int} (aG : Int32) (tD : Nat → Int32) (h_m_standings : 0 ≤ Int32.toInt aG ∧ Int32.toInt aG ≤ 8) (h_m_hand : ∀ k : Nat, 0 ≤ Int32.toInt (tD k) ∧ Int32.toInt (tD k) ≤ 65535) (hpost : ∀ (r : Int32) , (-1 ≤ Int32.toInt r ∧ Int32.toInt r ≤ 255) → post r) (hK4 : ∀ (x1 : Int32) (x2 : Int32) (x3 : Int32), (0 ≤ Int32.toInt x1 ∧ Int32.toInt x1 ≤ 65535) → (-1 ≤ Int32.toInt x2 ∧ Int32.toInt x2 ≤ 255) → (0 ≤ Int32.toInt x3 ∧ Int32.toInt x3 ≤ 256) → (256 - Int32.toInt x3 < n4) → K4 x1 x2 x3) (x1 x3 : Int32) (h_x1 : 0 ≤ Int32.toInt x1 ∧ Int32.toInt x1 ≤ 65535) (h_x3 : 0 ≤ Int32.toInt x3 ∧ Int32.toInt x3 ≤ 255) (hn4 : 256 - Int32.toInt x3 ≤ n4) : ws_X10_cover_65 post K4 aG tD x1 x3 := by
  exact ts_X10_cover_67 aG tD h_m_standings h_m_hand hpost hK4 x1 x3 x3 h_x1 (by omega) h_x3 hn4
set_option maxHeartbeats 8000000 in
set_option maxRecDepth 200000 in
theorem ts_X10_cover_45 {post : Int32 → Prop} {K4 : Int32 → Int32 → Int32 → Prop} {n4 : Int} (aG : Int32) (tD : Nat → Int32) (h_m_standings : 0 ≤ Int32.toInt aG ∧ Int32.toInt aG ≤ 8) (h_m_hand : ∀ k : Nat, 0 ≤ Int32.toInt (tD k) ∧ Int32.toInt (tD k) ≤ 65535) (hpost : ∀ (r : Int32) , (-1 ≤ Int32.toInt r ∧ Int32.toInt r ≤ 255) → post r) (hK4 : ∀ (x1 : Int32) (x2 : Int32) (x3 : Int32), (0 ≤ Int32.toInt x1 ∧ Int32.toInt x1 ≤ 65535) → (-1 ≤ Int32.toInt x2 ∧ Int32.toInt x2 ≤ 255) → (0 ≤ Int32.toInt x3 ∧ Int32.toInt x3 ≤ 256) → (256 - Int32.toInt x3 < n4) → K4 x1 x2 x3) (x1 x2 x3 k0 : Int32) (h_x1 : 0 ≤ Int32.toInt x1 ∧ Int32.toInt x1 ≤ 65535) (h_x2 : -1 ≤ Int32.toInt x2 ∧ Int32.toInt x2 ≤ 255) (h_x3 : 0 ≤ Int32.toInt x3 ∧ Int32.toInt x3 ≤ 255) (h_k0 : -63 ≤ Int32.toInt k0 ∧ Int32.toInt k0 ≤ 63) (hn4 : 256 - Int32.toInt x3 ≤ n4) : ws_X10_cover_45 post K4 aG tD x1 x2 x3 k0 := by
  have l0 := li_0
  have l1 := li_1
  refine And.intro (fun c3 => ?_) (fun c3 => ?_)
  · skip
    have c3 := (fa_lt _ _).mp c3
    exact ts_X10_cover_65 aG tD h_m_standings h_m_hand hpost hK4 x1 x3 h_x1 h_x3 hn4
  · skip
    have c3 := mt (fa_lt _ _).mpr c3
    refine And.intro (fun c4 => ?_) (fun c4 => ?_)
    · skip
      have c4 := mt (fa_eq _ _).mpr c4
      exact ts_X10_cover_67 aG tD h_m_standings h_m_hand hpost hK4 x1 x2 x3 h_x1 h_x2 h_x3 hn4
    · skip
      have c4 := (fa_eq _ _).mp c4
      intro v5 ev5
      refine t_J6_numberOfTrailingZeros_0f7a4  (fun r6 ox7 => ?_)
      intro v8 ev8
      have f9 := ti_shr x3 r6 (by omega)
      have hv8 := congrArg Int32.toInt ev8
      intro v10 ev10
      have f11 := ti_andr v8 1 (by omega)
      have f12 := ti_andl v8 1 (by omega)
      have hv10 := congrArg Int32.toInt ev10
      refine And.intro (fun c13 => ?_) (fun c13 => ?_)
      · skip
        have c13 := mt (fa_eq _ _).mpr c13
        refine And.intro (t_bool (by omega)) ?_
        refine And.intro (fun _ => ?_) (fun h9 => absurd h9 (by decide))
        exact ts_X10_cover_67 aG tD h_m_standings h_m_hand hpost hK4 x1 x2 x3 h_x1 h_x2 h_x3 hn4
      · skip
        have c13 := (fa_eq _ _).mp c13
        refine And.intro (t_bool (by omega)) ?_
        refine And.intro (fun h9 => absurd h9 (by decide)) (fun _ => ?_)
        exact ts_X10_cover_65 aG tD h_m_standings h_m_hand hpost hK4 x1 x3 h_x1 h_x3 hn4
set_option maxHeartbeats 8000000 in
set_option maxRecDepth 200000 in
theorem ts_X10_cover_4 {post : Int32 → Prop} {next : Int32 → Int32 → Int32 → Prop} {n4 : Int} (aG : Int32) (tD : Nat → Int32) (h_m_standings : 0 ≤ Int32.toInt aG ∧ Int32.toInt aG ≤ 8) (h_m_hand : ∀ k : Nat, 0 ≤ Int32.toInt (tD k) ∧ Int32.toInt (tD k) ≤ 65535) (hpost : ∀ (r : Int32) , (-1 ≤ Int32.toInt r ∧ Int32.toInt r ≤ 255) → post r) (hKn : ∀ (x1 : Int32) (x2 : Int32) (x3 : Int32), (0 ≤ Int32.toInt x1 ∧ Int32.toInt x1 ≤ 65535) → (-1 ≤ Int32.toInt x2 ∧ Int32.toInt x2 ≤ 255) → (0 ≤ Int32.toInt x3 ∧ Int32.toInt x3 ≤ 256) → (256 - Int32.toInt x3 < n4) → next x1 x2 x3) (x1 x2 x3 : Int32) (h_x1 : 0 ≤ Int32.toInt x1 ∧ Int32.toInt x1 ≤ 65535) (h_x2 : -1 ≤ Int32.toInt x2 ∧ Int32.toInt x2 ≤ 255) (h_x3 : 0 ≤ Int32.toInt x3 ∧ Int32.toInt x3 ≤ 256) (hn4 : 256 - Int32.toInt x3 ≤ n4) : ws_X10_cover_4 post next aG tD x1 x2 x3 := by
  have l0 := li_m1
  have l1 := li_0
  have l2 := li_1
  have l3 := li_1431655765
  have l4 := li_252645135
  have l5 := li_63
  have l6 := li_858993459
  intro v14 ev14
  have f15 := ti_shl1 8 256 aG (by decide) (by omega)
  have hv14 := congrArg Int32.toInt ev14
  have f17 : Int32.toInt (v14 - 1) = Int32.toInt v14 - Int32.toInt (1 : Int32) := ta_sub _ _ (by omega)
  refine And.intro (fun c16 => ?_) (fun c16 => ?_)
  · skip
    have c16 := (fa_lt _ _).mp c16
    exact hpost _ h_x2
  · skip
    have c16 := mt (fa_lt _ _).mpr c16
    refine t_X10_handOf (by omega) h_m_standings h_m_hand (fun r18 h_r18 => ?_)
    have f21 := ti_andl x1 (r18 ^^^ (-1)) (by omega)
    refine And.intro (fun c19 => ?_) (fun c19 => ?_)
    · skip
      have c19Z := c19
      have c19 := (fa_eq _ _).mp c19
      have s22 := ti_subset x1 r18 (c19Z) (by omega)
      refine And.intro (fun c23 => ?_) (fun c23 => ?_)
      · skip
        have c23 := mt (fa_eq _ _).mpr c23
        intro v24 ev24
        intro v25 ev25
        have f27 := ti_andr v24 1431655765 (by omega)
        have f26 : Int32.toInt (x3 - (v24 &&& 1431655765)) = Int32.toInt x3 - Int32.toInt (v24 &&& 1431655765) := ta_sub _ _ (by omega)
        rw [← ev25] at f26
        intro v28 ev28
        have f29 := ti_andr v25 858993459 (by omega)
        have hv28 := congrArg Int32.toInt ev28
        intro v30 ev30
        intro v31 ev31
        have f33 := ti_andr v30 858993459 (by omega)
        have f32 : Int32.toInt (v28 + (v30 &&& 858993459)) = Int32.toInt v28 + Int32.toInt (v30 &&& 858993459) := ta_add _ _ (by omega)
        rw [← ev31] at f32
        intro v34 ev34
        have hv34 := congrArg Int32.toInt ev34
        intro v36 ev36
        have f37 := ti_andr v34 252645135 (by omega)
        have hv36 := congrArg Int32.toInt ev36
        intro v38 ev38
        have hv38 := congrArg Int32.toInt ev38
        intro v40 ev40
        have hv40 := congrArg Int32.toInt ev40
        intro v42 ev42
        intro v43 ev43
        have f45 := ti_andr v42 1431655765 (by omega)
        have f44 : Int32.toInt (x2 - (v42 &&& 1431655765)) = Int32.toInt x2 - Int32.toInt (v42 &&& 1431655765) := ta_sub _ _ (by omega)
        rw [← ev43] at f44
        intro v46 ev46
        have f47 := ti_andr v43 858993459 (by omega)
        have hv46 := congrArg Int32.toInt ev46
        intro v48 ev48
        intro v49 ev49
        have f51 := ti_andr v48 858993459 (by omega)
        have f50 : Int32.toInt (v46 + (v48 &&& 858993459)) = Int32.toInt v46 + Int32.toInt (v48 &&& 858993459) := ta_add _ _ (by omega)
        rw [← ev49] at f50
        intro v52 ev52
        have hv52 := congrArg Int32.toInt ev52
        intro v54 ev54
        have f55 := ti_andr v52 252645135 (by omega)
        have hv54 := congrArg Int32.toInt ev54
        intro v56 ev56
        have hv56 := congrArg Int32.toInt ev56
        intro v58 ev58
        have hv58 := congrArg Int32.toInt ev58
        intro v60 ev60
        have f62 := ti_andr v40 63 (by omega)
        have f63 := ti_andr v58 63 (by omega)
        have f61 : Int32.toInt ((v40 &&& 63) - (v58 &&& 63)) = Int32.toInt (v40 &&& 63) - Int32.toInt (v58 &&& 63) := ta_sub _ _ (by omega)
        rw [← ev60] at f61
        exact ts_X10_cover_45 aG tD h_m_standings h_m_hand hpost hKn x1 x2 x3 v60 h_x1 h_x2 (by omega) (by omega) hn4
      · skip
        have c23 := (fa_eq _ _).mp c23
        exact ts_X10_cover_45 aG tD h_m_standings h_m_hand hpost hKn x1 x2 x3 (-1) h_x1 h_x2 (by omega) (by omega) hn4
    · skip
      have c19 := mt (fa_eq _ _).mpr c19
      exact ts_X10_cover_67 aG tD h_m_standings h_m_hand hpost hKn x1 x2 x3 h_x1 h_x2 (by omega) hn4
set_option maxHeartbeats 8000000 in
set_option maxRecDepth 200000 in
theorem tb_X10_cover_4 {post : Int32 → Prop} (aG : Int32) (tD : Nat → Int32) (h_m_standings : 0 ≤ Int32.toInt aG ∧ Int32.toInt aG ≤ 8) (h_m_hand : ∀ k : Nat, 0 ≤ Int32.toInt (tD k) ∧ Int32.toInt (tD k) ≤ 65535) (hpost : ∀ (r : Int32) , (-1 ≤ Int32.toInt r ∧ Int32.toInt r ≤ 255) → post r) : ∀ (n : Nat) (x1 x2 x3 : Int32), (0 ≤ Int32.toInt x1 ∧ Int32.toInt x1 ≤ 65535) → (-1 ≤ Int32.toInt x2 ∧ Int32.toInt x2 ≤ 255) → (0 ≤ Int32.toInt x3 ∧ Int32.toInt x3 ≤ 256) → (256 - Int32.toInt x3 < (n : Int)) → wb_X10_cover_4 post aG tD n x1 x2 x3 := by
  intro n
  induction n with
  | zero =>
    intro x1 x2 x3 h_x1 h_x2 h_x3 hm
    exfalso; omega
  | succ n ih =>
    intro x1 x2 x3 h_x1 h_x2 h_x3 hm
    exact ts_X10_cover_4 aG tD h_m_standings h_m_hand hpost ih x1 x2 x3 h_x1 h_x2 h_x3 (by omega)
set_option maxHeartbeats 8000000 in
set_option maxRecDepth 200000 in
theorem t_X10_cover {post : Int32 → Prop} {p0 aG : Int32} {tD : Nat → Int32} (h_p0 : 0 ≤ Int32.toInt p0 ∧ Int32.toInt p0 ≤ 65535) (h_m_standings : 0 ≤ Int32.toInt aG ∧ Int32.toInt aG ≤ 8) (h_m_hand : ∀ k : Nat, 0 ≤ Int32.toInt (tD k) ∧ Int32.toInt (tD k) ≤ 65535) (hpost : ∀ (r : Int32) , (-1 ≤ Int32.toInt r ∧ Int32.toInt r ≤ 255) → post r) : wp_X10_cover post p0 aG tD := by
  have l0 := li_m1
  have l1 := li_0
  exact ⟨258, tb_X10_cover_4 aG tD h_m_standings h_m_hand hpost _ p0 (-1) 0 h_p0 (by omega) (by omega) (by omega)⟩
set_option maxHeartbeats 8000000 in
set_option maxRecDepth 200000 in
theorem ts_X10_tellCover_34 {post : Int32 → Int32 → (Nat → Int32) → Prop} {K13 : Int32 → Int32 → Int32 → (Nat → Int32) → Prop} {n13 : Int} (aG : Int32) (tD : Nat → Int32) (h_m_standings : 0 ≤ Int32.toInt aG ∧ Int32.toInt aG ≤ 8) (h_m_hand : ∀ k : Nat, 0 ≤ Int32.toInt (tD k) ∧ Int32.toInt (tD k) ≤ 65535) (hpost : ∀ (r : Int32) (m_rowMany' : Int32) (m_row' : Nat → Int32), (0 ≤ Int32.toInt r ∧ Int32.toInt r ≤ 63) → (0 ≤ Int32.toInt m_rowMany' ∧ Int32.toInt m_rowMany' ≤ 16) → post r m_rowMany' m_row') (hK13 : ∀ (x2 : Int32) (x3 : Int32) (bQ : Int32) (uM : Nat → Int32), (-1 ≤ Int32.toInt x2 ∧ Int32.toInt x2 ≤ 255) → (0 ≤ Int32.toInt x3 ∧ Int32.toInt x3 ≤ 8) → (0 ≤ Int32.toInt bQ ∧ Int32.toInt bQ ≤ 16) → (Int32.toInt bQ ≤ Int32.toInt x3) → (8 - Int32.toInt x3 < n13) → K13 x2 x3 bQ uM) (x2 x3 bQ : Int32) (uM : Nat → Int32) (h_x2 : -1 ≤ Int32.toInt x2 ∧ Int32.toInt x2 ≤ 255) (h_x3 : 0 ≤ Int32.toInt x3 ∧ Int32.toInt x3 ≤ 7) (h_m_rowMany : 0 ≤ Int32.toInt bQ ∧ Int32.toInt bQ ≤ 16) (hx0 : Int32.toInt bQ ≤ Int32.toInt x3 + 1) (hn13 : 8 - Int32.toInt x3 ≤ n13) : ws_X10_tellCover_34 post K13 aG tD x2 x3 bQ uM := by
  have l0 := li_1
  intro v1 ev1
  have f2 : Int32.toInt (x3 + 1) = Int32.toInt x3 + Int32.toInt (1 : Int32) := ta_add _ _ (by omega)
  rw [← ev1] at f2
  exact hK13 x2 v1 bQ uM h_x2 (by omega) h_m_rowMany (by omega) (by omega)
set_option maxHeartbeats 8000000 in
set_option maxRecDepth 200000 in
theorem ts_X10_tellCover_13 {post : Int32 → Int32 → (Nat → Int32) → Prop} {next : Int32 → Int32 → Int32 → (Nat → Int32) → Prop} {n13 : Int} (aG : Int32) (tD : Nat → Int32) (h_m_standings : 0 ≤ Int32.toInt aG ∧ Int32.toInt aG ≤ 8) (h_m_hand : ∀ k : Nat, 0 ≤ Int32.toInt (tD k) ∧ Int32.toInt (tD k) ≤ 65535) (hpost : ∀ (r : Int32) (m_rowMany' : Int32) (m_row' : Nat → Int32), (0 ≤ Int32.toInt r ∧ Int32.toInt r ≤ 63) → (0 ≤ Int32.toInt m_rowMany' ∧ Int32.toInt m_rowMany' ≤ 16) → post r m_rowMany' m_row') (hKn : ∀ (x2 : Int32) (x3 : Int32) (bQ : Int32) (uM : Nat → Int32), (-1 ≤ Int32.toInt x2 ∧ Int32.toInt x2 ≤ 255) → (0 ≤ Int32.toInt x3 ∧ Int32.toInt x3 ≤ 8) → (0 ≤ Int32.toInt bQ ∧ Int32.toInt bQ ≤ 16) → (Int32.toInt bQ ≤ Int32.toInt x3) → (8 - Int32.toInt x3 < n13) → next x2 x3 bQ uM) (x2 x3 bQ : Int32) (uM : Nat → Int32) (h_x2 : -1 ≤ Int32.toInt x2 ∧ Int32.toInt x2 ≤ 255) (h_x3 : 0 ≤ Int32.toInt x3 ∧ Int32.toInt x3 ≤ 8) (h_m_rowMany : 0 ≤ Int32.toInt bQ ∧ Int32.toInt bQ ≤ 16) (hx0 : Int32.toInt bQ ≤ Int32.toInt x3) (hn13 : 8 - Int32.toInt x3 ≤ n13) : ws_X10_tellCover_13 post next aG tD x2 x3 bQ uM := by
  have l0 := li_1
  have l1 := li_1431655765
  have l2 := li_252645135
  have l3 := li_63
  have l4 := li_858993459
  refine And.intro (fun c3 => ?_) (fun c3 => ?_)
  · skip
    have c3 := (fa_le _ _).mp c3
    intro v4 ev4
    intro v5 ev5
    have f7 := ti_andr v4 1431655765 (by omega)
    have f6 : Int32.toInt (x2 - (v4 &&& 1431655765)) = Int32.toInt x2 - Int32.toInt (v4 &&& 1431655765) := ta_sub _ _ (by omega)
    rw [← ev5] at f6
    intro v8 ev8
    have f9 := ti_andr v5 858993459 (by omega)
    have hv8 := congrArg Int32.toInt ev8
    intro v10 ev10
    intro v11 ev11
    have f13 := ti_andr v10 858993459 (by omega)
    have f12 : Int32.toInt (v8 + (v10 &&& 858993459)) = Int32.toInt v8 + Int32.toInt (v10 &&& 858993459) := ta_add _ _ (by omega)
    rw [← ev11] at f12
    intro v14 ev14
    have hv14 := congrArg Int32.toInt ev14
    intro v16 ev16
    have f17 := ti_andr v14 252645135 (by omega)
    have hv16 := congrArg Int32.toInt ev16
    intro v18 ev18
    have hv18 := congrArg Int32.toInt ev18
    intro v20 ev20
    have hv20 := congrArg Int32.toInt ev20
    have f22 := ti_andr v20 63 (by omega)
    exact hpost _ _ _ (by omega) h_m_rowMany
  · skip
    have c3 := mt (fa_le _ _).mpr c3
    intro v23 ev23
    intro v24 ev24
    have f25 := ti_andr v23 1 (by omega)
    have hv24 := congrArg Int32.toInt ev24
    refine And.intro (fun c26 => ?_) (fun c26 => ?_)
    · skip
      have c26 := mt (fa_eq _ _).mpr c26
      refine And.intro (fun _ => ?_) (fun h9 => absurd h9 (by decide))
      exact ts_X10_tellCover_34 aG tD h_m_standings h_m_hand hpost hKn x2 x3 bQ uM h_x2 (by omega) h_m_rowMany (by omega) hn13
    · skip
      have c26 := (fa_eq _ _).mp c26
      refine And.intro (fun h9 => absurd h9 (by decide)) (fun _ => ?_)
      refine And.intro (t_in (by omega)) ?_
      intro v27 ev27
      have f28 : Int32.toInt (bQ + 1) = Int32.toInt bQ + Int32.toInt (1 : Int32) := ta_add _ _ (by omega)
      rw [← ev27] at f28
      exact ts_X10_tellCover_34 aG tD h_m_standings h_m_hand hpost hKn x2 x3 v27 (upd uM bQ.toNatClampNeg x3) h_x2 (by omega) (by omega) (by omega) hn13
set_option maxHeartbeats 8000000 in
set_option maxRecDepth 200000 in
theorem tb_X10_tellCover_13 {post : Int32 → Int32 → (Nat → Int32) → Prop} (aG : Int32) (tD : Nat → Int32) (h_m_standings : 0 ≤ Int32.toInt aG ∧ Int32.toInt aG ≤ 8) (h_m_hand : ∀ k : Nat, 0 ≤ Int32.toInt (tD k) ∧ Int32.toInt (tD k) ≤ 65535) (hpost : ∀ (r : Int32) (m_rowMany' : Int32) (m_row' : Nat → Int32), (0 ≤ Int32.toInt r ∧ Int32.toInt r ≤ 63) → (0 ≤ Int32.toInt m_rowMany' ∧ Int32.toInt m_rowMany' ≤ 16) → post r m_rowMany' m_row') : ∀ (n : Nat) (x2 x3 bQ : Int32) (uM : Nat → Int32), (-1 ≤ Int32.toInt x2 ∧ Int32.toInt x2 ≤ 255) → (0 ≤ Int32.toInt x3 ∧ Int32.toInt x3 ≤ 8) → (0 ≤ Int32.toInt bQ ∧ Int32.toInt bQ ≤ 16) → (Int32.toInt bQ ≤ Int32.toInt x3) → (8 - Int32.toInt x3 < (n : Int)) → wb_X10_tellCover_13 post aG tD n x2 x3 bQ uM := by
  intro n
  induction n with
  | zero =>
    intro x2 x3 bQ uM h_x2 h_x3 h_m_rowMany hx0 hm
    exfalso; omega
  | succ n ih =>
    intro x2 x3 bQ uM h_x2 h_x3 h_m_rowMany hx0 hm
    exact ts_X10_tellCover_13 aG tD h_m_standings h_m_hand hpost ih x2 x3 bQ uM h_x2 h_x3 h_m_rowMany hx0 (by omega)
set_option maxHeartbeats 8000000 in
set_option maxRecDepth 200000 in
theorem t_X10_tellCover {post : Int32 → Int32 → (Nat → Int32) → Prop} {p0 aG bQ : Int32} {uM tD : Nat → Int32} (h_p0 : 0 ≤ Int32.toInt p0 ∧ Int32.toInt p0 ≤ 65535) (h_m_standings : 0 ≤ Int32.toInt aG ∧ Int32.toInt aG ≤ 8) (h_m_rowMany : 0 ≤ Int32.toInt bQ ∧ Int32.toInt bQ ≤ 16) (h_m_hand : ∀ k : Nat, 0 ≤ Int32.toInt (tD k) ∧ Int32.toInt (tD k) ≤ 65535) (hpost : ∀ (r : Int32) (m_rowMany' : Int32) (m_row' : Nat → Int32), (0 ≤ Int32.toInt r ∧ Int32.toInt r ≤ 63) → (0 ≤ Int32.toInt m_rowMany' ∧ Int32.toInt m_rowMany' ≤ 16) → post r m_rowMany' m_row') : wp_X10_tellCover post p0 aG bQ uM tD := by
  have l0 := li_0
  refine t_X10_cover h_p0 h_m_standings h_m_hand (fun r29 h_r29 => ?_)
  exact ⟨10, tb_X10_tellCover_13 aG tD h_m_standings h_m_hand hpost _ r29 0 0 uM h_r29 (by omega) (by omega) (by omega) (by omega)⟩
set_option maxHeartbeats 8000000 in
set_option maxRecDepth 200000 in
theorem t_X10_fewest {post : Int32 → Int32 → Int32 → Int32 → (Nat → Int32) → (Nat → Int32) → Prop} {SB : Int} {bW aG bQ dG dU : Int32} {rD m_x jA rW oY pR pX uM tD : Nat → Int32} (h_m_fruits : 0 ≤ Int32.toInt bW ∧ Int32.toInt bW ≤ 16) (h_m_standings : 0 ≤ Int32.toInt aG ∧ Int32.toInt aG ≤ 8) (h_m_rowMany : 0 ≤ Int32.toInt bQ ∧ Int32.toInt bQ ≤ 16) (h_m_thrown : 0 ≤ Int32.toInt dG ∧ Int32.toInt dG ≤ 1) (h_m_wanted : 0 ≤ Int32.toInt dU ∧ Int32.toInt dU ≤ 65535) (e0_m_now : ∀ k : Nat, k = 17 → -1 ≤ Int32.toInt (rD k) ∧ Int32.toInt (rD k) ≤ SB) (e1_m_now : ∀ k : Nat, k = 19 → 0 ≤ Int32.toInt (rD k) ∧ Int32.toInt (rD k) ≤ 9) (h_m_x : ∀ k : Nat, 0 ≤ Int32.toInt (m_x k) ∧ Int32.toInt (m_x k) ≤ 99) (h_m_height : ∀ k : Nat, 0 ≤ Int32.toInt (jA k) ∧ Int32.toInt (jA k) ≤ 99) (h_m_ripe : ∀ k : Nat, 0 ≤ Int32.toInt (rW k) ∧ Int32.toInt (rW k) ≤ 9) (h_m_foot : ∀ k : Nat, 0 ≤ Int32.toInt (oY k) ∧ Int32.toInt (oY k) ≤ 99) (h_m_fork : ∀ k : Nat, 0 ≤ Int32.toInt (pR k) ∧ Int32.toInt (pR k) ≤ 99) (e0_m_told : ∀ k : Nat, k = 4 → 1 ≤ Int32.toInt (pX k) ∧ Int32.toInt (pX k) ≤ 30) (e1_m_told : ∀ k : Nat, k = 3 → 0 ≤ Int32.toInt (pX k) ∧ Int32.toInt (pX k) ≤ 9) (h_m_hand : ∀ k : Nat, 0 ≤ Int32.toInt (tD k) ∧ Int32.toInt (tD k) ≤ 65535) (hc0 : -1 ≤ SB ∧ SB ≤ 7) (hc1 : (Int32.toInt aG ≤ 0 ∧ SB = 0) ∨ (1 ≤ Int32.toInt aG ∧ SB = Int32.toInt aG - 1)) (hpost : ∀ (r : Int32) (m_rowMany' : Int32) (m_thrown' : Int32) (m_wanted' : Int32) (m_row' : Nat → Int32) (m_hand' : Nat → Int32), (0 ≤ Int32.toInt r ∧ Int32.toInt r ≤ 63) → (0 ≤ Int32.toInt m_rowMany' ∧ Int32.toInt m_rowMany' ≤ 16) → (0 ≤ Int32.toInt m_thrown' ∧ Int32.toInt m_thrown' ≤ 0) → (0 ≤ Int32.toInt m_wanted' ∧ Int32.toInt m_wanted' ≤ 65535) → (∀ k : Nat, 0 ≤ Int32.toInt (m_hand' k) ∧ Int32.toInt (m_hand' k) ≤ 65535) → post r m_rowMany' m_thrown' m_wanted' m_row' m_hand') : wp_X10_fewest post bW aG bQ dG dU rD m_x jA rW oY pR pX uM tD := by
  have l0 := li_0
  have l1 := li_18
  intro v1 ev1
  have hv1 := congrArg Int32.toInt ev1
  refine t_X10_layHands_ h_m_fruits h_m_standings h_m_wanted e0_m_now e1_m_now h_m_x h_m_height h_m_ripe h_m_foot h_m_fork e0_m_told e1_m_told h_m_hand (by omega) (by omega) (fun xT yQ h_m_wanted_3 h_m_hand_4 => ?_)
  refine t_X10_tellCover h_m_wanted_3 h_m_standings h_m_rowMany h_m_hand_4 (fun r7 aAI aGl h_r7 h_m_rowMany_5 => ?_)
  exact hpost _ _ _ _ _ _ h_r7 h_m_rowMany_5 (by omega) h_m_wanted_3 h_m_hand_4
set_option maxHeartbeats 8000000 in
set_option maxRecDepth 200000 in
theorem ts_X10_needed_105 {post : Int32 → Int32 → Int32 → Int32 → (Nat → Int32) → (Nat → Int32) → Prop} {SB : Int} {K15 : Int32 → Int32 → Int32 → Int32 → Int32 → Int32 → (Nat → Int32) → (Nat → Int32) → Prop} {n15 : Int} (bW aG : Int32) (rD m_x jA rW oY pR pX : Nat → Int32) (h_m_fruits : 0 ≤ Int32.toInt bW ∧ Int32.toInt bW ≤ 16) (h_m_standings : 0 ≤ Int32.toInt aG ∧ Int32.toInt aG ≤ 8) (e0_m_now : ∀ k : Nat, k = 17 → -1 ≤ Int32.toInt (rD k) ∧ Int32.toInt (rD k) ≤ SB) (e1_m_now : ∀ k : Nat, k = 19 → 0 ≤ Int32.toInt (rD k) ∧ Int32.toInt (rD k) ≤ 9) (h_m_x : ∀ k : Nat, 0 ≤ Int32.toInt (m_x k) ∧ Int32.toInt (m_x k) ≤ 99) (h_m_height : ∀ k : Nat, 0 ≤ Int32.toInt (jA k) ∧ Int32.toInt (jA k) ≤ 99) (h_m_ripe : ∀ k : Nat, 0 ≤ Int32.toInt (rW k) ∧ Int32.toInt (rW k) ≤ 9) (h_m_foot : ∀ k : Nat, 0 ≤ Int32.toInt (oY k) ∧ Int32.toInt (oY k) ≤ 99) (h_m_fork : ∀ k : Nat, 0 ≤ Int32.toInt (pR k) ∧ Int32.toInt (pR k) ≤ 99) (e0_m_told : ∀ k : Nat, k = 4 → 1 ≤ Int32.toInt (pX k) ∧ Int32.toInt (pX k) ≤ 30) (e1_m_told : ∀ k : Nat, k = 3 → 0 ≤ Int32.toInt (pX k) ∧ Int32.toInt (pX k) ≤ 9) (hc0 : -1 ≤ SB ∧ SB ≤ 7) (hc1 : (Int32.toInt aG ≤ 0 ∧ SB = 0) ∨ (1 ≤ Int32.toInt aG ∧ SB = Int32.toInt aG - 1)) (hpost : ∀ (r : Int32) (m_rowMany' : Int32) (m_thrown' : Int32) (m_wanted' : Int32) (m_row' : Nat → Int32) (m_hand' : Nat → Int32), (0 ≤ Int32.toInt r ∧ Int32.toInt r ≤ 255) → (1 ≤ Int32.toInt m_rowMany' ∧ Int32.toInt m_rowMany' ≤ 1) → (0 ≤ Int32.toInt m_thrown' ∧ Int32.toInt m_thrown' ≤ 0) → (0 ≤ Int32.toInt m_wanted' ∧ Int32.toInt m_wanted' ≤ 65535) → (∀ k : Nat, 0 ≤ Int32.toInt (m_hand' k) ∧ Int32.toInt (m_hand' k) ≤ 65535) → post r m_rowMany' m_thrown' m_wanted' m_row' m_hand') (hK15 : ∀ (x1 : Int32) (x2 : Int32) (x3 : Int32) (bQ : Int32) (dG : Int32) (dU : Int32) (uM : Nat → Int32) (tD : Nat → Int32), (0 ≤ Int32.toInt x1 ∧ Int32.toInt x1 ≤ 255) → (0 ≤ Int32.toInt x2 ∧ Int32.toInt x2 ≤ 65535) → (0 ≤ Int32.toInt x3 ∧ Int32.toInt x3 ≤ 16) → (0 ≤ Int32.toInt bQ ∧ Int32.toInt bQ ≤ 16) → (0 ≤ Int32.toInt dG ∧ Int32.toInt dG ≤ 0) → (0 ≤ Int32.toInt dU ∧ Int32.toInt dU ≤ 65535) → (∀ k : Nat, 0 ≤ Int32.toInt (tD k) ∧ Int32.toInt (tD k) ≤ 65535) → (16 - Int32.toInt x3 < n15) → K15 x1 x2 x3 bQ dG dU uM tD) (x1 x2 x3 bQ dG dU : Int32) (uM tD : Nat → Int32) (h_x1 : 0 ≤ Int32.toInt x1 ∧ Int32.toInt x1 ≤ 255) (h_x2 : 0 ≤ Int32.toInt x2 ∧ Int32.toInt x2 ≤ 65535) (h_x3 : 0 ≤ Int32.toInt x3 ∧ Int32.toInt x3 ≤ 15) (h_m_rowMany : 0 ≤ Int32.toInt bQ ∧ Int32.toInt bQ ≤ 16) (h_m_thrown : 0 ≤ Int32.toInt dG ∧ Int32.toInt dG ≤ 0) (h_m_wanted : 0 ≤ Int32.toInt dU ∧ Int32.toInt dU ≤ 65535) (h_m_hand : ∀ k : Nat, 0 ≤ Int32.toInt (tD k) ∧ Int32.toInt (tD k) ≤ 65535) (hn15 : 16 - Int32.toInt x3 ≤ n15) : ws_X10_needed_105 post K15 bW aG rD m_x jA rW oY pR pX x1 x2 x3 bQ dG dU uM tD := by
  have l0 := li_1
  intro v1 ev1
  have f2 : Int32.toInt (x3 + 1) = Int32.toInt x3 + Int32.toInt (1 : Int32) := ta_add _ _ (by omega)
  rw [← ev1] at f2
  exact hK15 x1 x2 v1 bQ dG dU uM tD h_x1 h_x2 (by omega) h_m_rowMany h_m_thrown h_m_wanted h_m_hand (by omega)
set_option maxHeartbeats 8000000 in
set_option maxRecDepth 200000 in
theorem ts_X10_needed_62 {post : Int32 → Int32 → Int32 → Int32 → (Nat → Int32) → (Nat → Int32) → Prop} {SB : Int} {K15 : Int32 → Int32 → Int32 → Int32 → Int32 → Int32 → (Nat → Int32) → (Nat → Int32) → Prop} {K29 : Int32 → Int32 → Int32 → Int32 → Int32 → Int32 → Int32 → Int32 → (Nat → Int32) → (Nat → Int32) → Prop} {n15 n29 : Int} (bW aG : Int32) (rD m_x jA rW oY pR pX : Nat → Int32) (h_m_fruits : 0 ≤ Int32.toInt bW ∧ Int32.toInt bW ≤ 16) (h_m_standings : 0 ≤ Int32.toInt aG ∧ Int32.toInt aG ≤ 8) (e0_m_now : ∀ k : Nat, k = 17 → -1 ≤ Int32.toInt (rD k) ∧ Int32.toInt (rD k) ≤ SB) (e1_m_now : ∀ k : Nat, k = 19 → 0 ≤ Int32.toInt (rD k) ∧ Int32.toInt (rD k) ≤ 9) (h_m_x : ∀ k : Nat, 0 ≤ Int32.toInt (m_x k) ∧ Int32.toInt (m_x k) ≤ 99) (h_m_height : ∀ k : Nat, 0 ≤ Int32.toInt (jA k) ∧ Int32.toInt (jA k) ≤ 99) (h_m_ripe : ∀ k : Nat, 0 ≤ Int32.toInt (rW k) ∧ Int32.toInt (rW k) ≤ 9) (h_m_foot : ∀ k : Nat, 0 ≤ Int32.toInt (oY k) ∧ Int32.toInt (oY k) ≤ 99) (h_m_fork : ∀ k : Nat, 0 ≤ Int32.toInt (pR k) ∧ Int32.toInt (pR k) ≤ 99) (e0_m_told : ∀ k : Nat, k = 4 → 1 ≤ Int32.toInt (pX k) ∧ Int32.toInt (pX k) ≤ 30) (e1_m_told : ∀ k : Nat, k = 3 → 0 ≤ Int32.toInt (pX k) ∧ Int32.toInt (pX k) ≤ 9) (hc0 : -1 ≤ SB ∧ SB ≤ 7) (hc1 : (Int32.toInt aG ≤ 0 ∧ SB = 0) ∨ (1 ≤ Int32.toInt aG ∧ SB = Int32.toInt aG - 1)) (hpost : ∀ (r : Int32) (m_rowMany' : Int32) (m_thrown' : Int32) (m_wanted' : Int32) (m_row' : Nat → Int32) (m_hand' : Nat → Int32), (0 ≤ Int32.toInt r ∧ Int32.toInt r ≤ 255) → (1 ≤ Int32.toInt m_rowMany' ∧ Int32.toInt m_rowMany' ≤ 1) → (0 ≤ Int32.toInt m_thrown' ∧ Int32.toInt m_thrown' ≤ 0) → (0 ≤ Int32.toInt m_wanted' ∧ Int32.toInt m_wanted' ≤ 65535) → (∀ k : Nat, 0 ≤ Int32.toInt (m_hand' k) ∧ Int32.toInt (m_hand' k) ≤ 65535) → post r m_rowMany' m_thrown' m_wanted' m_row' m_hand') (hK15 : ∀ (x1 : Int32) (x2 : Int32) (x3 : Int32) (bQ : Int32) (dG : Int32) (dU : Int32) (uM : Nat → Int32) (tD : Nat → Int32), (0 ≤ Int32.toInt x1 ∧ Int32.toInt x1 ≤ 255) → (0 ≤ Int32.toInt x2 ∧ Int32.toInt x2 ≤ 65535) → (0 ≤ Int32.toInt x3 ∧ Int32.toInt x3 ≤ 16) → (0 ≤ Int32.toInt bQ ∧ Int32.toInt bQ ≤ 16) → (0 ≤ Int32.toInt dG ∧ Int32.toInt dG ≤ 0) → (0 ≤ Int32.toInt dU ∧ Int32.toInt dU ≤ 65535) → (∀ k : Nat, 0 ≤ Int32.toInt (tD k) ∧ Int32.toInt (tD k) ≤ 65535) → (16 - Int32.toInt x3 < n15) → K15 x1 x2 x3 bQ dG dU uM tD) (hK29 : ∀ (x1 : Int32) (x2 : Int32) (x3 : Int32) (x4 : Int32) (x5 : Int32) (bQ : Int32) (dG : Int32) (dU : Int32) (uM : Nat → Int32) (tD : Nat → Int32), (0 ≤ Int32.toInt x1 ∧ Int32.toInt x1 ≤ 255) → (0 ≤ Int32.toInt x2 ∧ Int32.toInt x2 ≤ 65535) → (0 ≤ Int32.toInt x3 ∧ Int32.toInt x3 ≤ 15) → (0 ≤ Int32.toInt x4 ∧ Int32.toInt x4 ≤ 255) → (0 ≤ Int32.toInt x5 ∧ Int32.toInt x5 ≤ 8) → (0 ≤ Int32.toInt bQ ∧ Int32.toInt bQ ≤ 16) → (0 ≤ Int32.toInt dG ∧ Int32.toInt dG ≤ 0) → (0 ≤ Int32.toInt dU ∧ Int32.toInt dU ≤ 65535) → (∀ k : Nat, 0 ≤ Int32.toInt (tD k) ∧ Int32.toInt (tD k) ≤ 65535) → (16 - Int32.toInt x3 ≤ n15) → (8 - Int32.toInt x5 < n29) → K29 x1 x2 x3 x4 x5 bQ dG dU uM tD) (x1 x2 x3 x5 k0 k1 bQ dG dU : Int32) (uM tD : Nat → Int32) (h_x1 : 0 ≤ Int32.toInt x1 ∧ Int32.toInt x1 ≤ 255) (h_x2 : 0 ≤ Int32.toInt x2 ∧ Int32.toInt x2 ≤ 65535) (h_x3 : 0 ≤ Int32.toInt x3 ∧ Int32.toInt x3 ≤ 15) (h_x5 : 0 ≤ Int32.toInt x5 ∧ Int32.toInt x5 ≤ 7) (h_k0 : 0 ≤ Int32.toInt k0 ∧ Int32.toInt k0 ≤ 255) (h_k1 : 0 ≤ Int32.toInt k1 ∧ Int32.toInt k1 ≤ 128) (h_m_rowMany : 0 ≤ Int32.toInt bQ ∧ Int32.toInt bQ ≤ 16) (h_m_thrown : 0 ≤ Int32.toInt dG ∧ Int32.toInt dG ≤ 0) (h_m_wanted : 0 ≤ Int32.toInt dU ∧ Int32.toInt dU ≤ 65535) (h_m_hand : ∀ k : Nat, 0 ≤ Int32.toInt (tD k) ∧ Int32.toInt (tD k) ≤ 65535) (hn15 : 16 - Int32.toInt x3 ≤ n15) (hn29 : 8 - Int32.toInt x5 ≤ n29) : ws_X10_needed_62 post K15 K29 bW aG rD m_x jA rW oY pR pX x1 x2 x3 x5 k0 k1 bQ dG dU uM tD := by
  have l0 := li_1
  intro v3 ev3
  have f4 := ti_or 8 256 k0 k1 (by decide) (by omega) (by omega)
  have hv3 := congrArg Int32.toInt ev3
  intro v5 ev5
  have f6 : Int32.toInt (x5 + 1) = Int32.toInt x5 + Int32.toInt (1 : Int32) := ta_add _ _ (by omega)
  rw [← ev5] at f6
  exact hK29 x1 x2 x3 v3 v5 bQ dG dU uM tD h_x1 h_x2 h_x3 (by omega) (by omega) h_m_rowMany h_m_thrown h_m_wanted h_m_hand hn15 (by omega)
set_option maxHeartbeats 8000000 in
set_option maxRecDepth 200000 in
theorem ts_X10_needed_29 {post : Int32 → Int32 → Int32 → Int32 → (Nat → Int32) → (Nat → Int32) → Prop} {SB : Int} {K15 : Int32 → Int32 → Int32 → Int32 → Int32 → Int32 → (Nat → Int32) → (Nat → Int32) → Prop} {next : Int32 → Int32 → Int32 → Int32 → Int32 → Int32 → Int32 → Int32 → (Nat → Int32) → (Nat → Int32) → Prop} {n29 n15 : Int} (bW aG : Int32) (rD m_x jA rW oY pR pX : Nat → Int32) (h_m_fruits : 0 ≤ Int32.toInt bW ∧ Int32.toInt bW ≤ 16) (h_m_standings : 0 ≤ Int32.toInt aG ∧ Int32.toInt aG ≤ 8) (e0_m_now : ∀ k : Nat, k = 17 → -1 ≤ Int32.toInt (rD k) ∧ Int32.toInt (rD k) ≤ SB) (e1_m_now : ∀ k : Nat, k = 19 → 0 ≤ Int32.toInt (rD k) ∧ Int32.toInt (rD k) ≤ 9) (h_m_x : ∀ k : Nat, 0 ≤ Int32.toInt (m_x k) ∧ Int32.toInt (m_x k) ≤ 99) (h_m_height : ∀ k : Nat, 0 ≤ Int32.toInt (jA k) ∧ Int32.toInt (jA k) ≤ 99) (h_m_ripe : ∀ k : Nat, 0 ≤ Int32.toInt (rW k) ∧ Int32.toInt (rW k) ≤ 9) (h_m_foot : ∀ k : Nat, 0 ≤ Int32.toInt (oY k) ∧ Int32.toInt (oY k) ≤ 99) (h_m_fork : ∀ k : Nat, 0 ≤ Int32.toInt (pR k) ∧ Int32.toInt (pR k) ≤ 99) (e0_m_told : ∀ k : Nat, k = 4 → 1 ≤ Int32.toInt (pX k) ∧ Int32.toInt (pX k) ≤ 30) (e1_m_told : ∀ k : Nat, k = 3 → 0 ≤ Int32.toInt (pX k) ∧ Int32.toInt (pX k) ≤ 9) (hc0 : -1 ≤ SB ∧ SB ≤ 7) (hc1 : (Int32.toInt aG ≤ 0 ∧ SB = 0) ∨ (1 ≤ Int32.toInt aG ∧ SB = Int32.toInt aG - 1)) (hpost : ∀ (r : Int32) (m_rowMany' : Int32) (m_thrown' : Int32) (m_wanted' : Int32) (m_row' : Nat → Int32) (m_hand' : Nat → Int32), (0 ≤ Int32.toInt r ∧ Int32.toInt r ≤ 255) → (1 ≤ Int32.toInt m_rowMany' ∧ Int32.toInt m_rowMany' ≤ 1) → (0 ≤ Int32.toInt m_thrown' ∧ Int32.toInt m_thrown' ≤ 0) → (0 ≤ Int32.toInt m_wanted' ∧ Int32.toInt m_wanted' ≤ 65535) → (∀ k : Nat, 0 ≤ Int32.toInt (m_hand' k) ∧ Int32.toInt (m_hand' k) ≤ 65535) → post r m_rowMany' m_thrown' m_wanted' m_row' m_hand') (hK15 : ∀ (x1 : Int32) (x2 : Int32) (x3 : Int32) (bQ : Int32) (dG : Int32) (dU : Int32) (uM : Nat → Int32) (tD : Nat → Int32), (0 ≤ Int32.toInt x1 ∧ Int32.toInt x1 ≤ 255) → (0 ≤ Int32.toInt x2 ∧ Int32.toInt x2 ≤ 65535) → (0 ≤ Int32.toInt x3 ∧ Int32.toInt x3 ≤ 16) → (0 ≤ Int32.toInt bQ ∧ Int32.toInt bQ ≤ 16) → (0 ≤ Int32.toInt dG ∧ Int32.toInt dG ≤ 0) → (0 ≤ Int32.toInt dU ∧ Int32.toInt dU ≤ 65535) → (∀ k : Nat, 0 ≤ Int32.toInt (tD k) ∧ Int32.toInt (tD k) ≤ 65535) → (16 - Int32.toInt x3 < n15) → K15 x1 x2 x3 bQ dG dU uM tD) (hKn : ∀ (x1 : Int32) (x2 : Int32) (x3 : Int32) (x4 : Int32) (x5 : Int32) (bQ : Int32) (dG : Int32) (dU : Int32) (uM : Nat → Int32) (tD : Nat → Int32), (0 ≤ Int32.toInt x1 ∧ Int32.toInt x1 ≤ 255) → (0 ≤ Int32.toInt x2 ∧ Int32.toInt x2 ≤ 65535) → (0 ≤ Int32.toInt x3 ∧ Int32.toInt x3 ≤ 15) → (0 ≤ Int32.toInt x4 ∧ Int32.toInt x4 ≤ 255) → (0 ≤ Int32.toInt x5 ∧ Int32.toInt x5 ≤ 8) → (0 ≤ Int32.toInt bQ ∧ Int32.toInt bQ ≤ 16) → (0 ≤ Int32.toInt dG ∧ Int32.toInt dG ≤ 0) → (0 ≤ Int32.toInt dU ∧ Int32.toInt dU ≤ 65535) → (∀ k : Nat, 0 ≤ Int32.toInt (tD k) ∧ Int32.toInt (tD k) ≤ 65535) → (16 - Int32.toInt x3 ≤ n15) → (8 - Int32.toInt x5 < n29) → next x1 x2 x3 x4 x5 bQ dG dU uM tD) (x1 x2 x3 x4 x5 bQ dG dU : Int32) (uM tD : Nat → Int32) (h_x1 : 0 ≤ Int32.toInt x1 ∧ Int32.toInt x1 ≤ 255) (h_x2 : 0 ≤ Int32.toInt x2 ∧ Int32.toInt x2 ≤ 65535) (h_x3 : 0 ≤ Int32.toInt x3 ∧ Int32.toInt x3 ≤ 15) (h_x4 : 0 ≤ Int32.toInt x4 ∧ Int32.toInt x4 ≤ 255) (h_x5 : 0 ≤ Int32.toInt x5 ∧ Int32.toInt x5 ≤ 8) (h_m_rowMany : 0 ≤ Int32.toInt bQ ∧ Int32.toInt bQ ≤ 16) (h_m_thrown : 0 ≤ Int32.toInt dG ∧ Int32.toInt dG ≤ 0) (h_m_wanted : 0 ≤ Int32.toInt dU ∧ Int32.toInt dU ≤ 65535) (h_m_hand : ∀ k : Nat, 0 ≤ Int32.toInt (tD k) ∧ Int32.toInt (tD k) ≤ 65535) (hn15 : 16 - Int32.toInt x3 ≤ n15) (hn29 : 8 - Int32.toInt x5 ≤ n29) : ws_X10_needed_29 post K15 next bW aG rD m_x jA rW oY pR pX x1 x2 x3 x4 x5 bQ dG dU uM tD := by
  have l0 := li_0
  have l1 := li_1
  have l2 := li_1431655765
  have l3 := li_252645135
  have l4 := li_63
  have l5 := li_858993459
  refine And.intro (fun c7 => ?_) (fun c7 => ?_)
  · skip
    have c7 := (fa_le _ _).mp c7
    intro v8 ev8
    have f9 := ti_shr dU x3 (by omega)
    have hv8 := congrArg Int32.toInt ev8
    intro v10 ev10
    have f11 := ti_andr v8 1 (by omega)
    have f12 := ti_andl v8 1 (by omega)
    have hv10 := congrArg Int32.toInt ev10
    refine And.intro (fun c13 => ?_) (fun c13 => ?_)
    · skip
      have c13 := mt (fa_eq _ _).mpr c13
      refine And.intro (fun _ => ?_) (fun h9 => absurd h9 (by decide))
      exact ts_X10_needed_105 bW aG rD m_x jA rW oY pR pX h_m_fruits h_m_standings e0_m_now e1_m_now h_m_x h_m_height h_m_ripe h_m_foot h_m_fork e0_m_told e1_m_told hc0 hc1 hpost hK15 x1 x2 x3 bQ dG dU uM tD h_x1 h_x2 h_x3 h_m_rowMany h_m_thrown h_m_wanted h_m_hand hn15
    · skip
      have c13 := (fa_eq _ _).mp c13
      refine And.intro (fun h9 => absurd h9 (by decide)) (fun _ => ?_)
      intro v14 ev14
      intro v15 ev15
      have f17 := ti_andr v14 1431655765 (by omega)
      have f16 : Int32.toInt (x4 - (v14 &&& 1431655765)) = Int32.toInt x4 - Int32.toInt (v14 &&& 1431655765) := ta_sub _ _ (by omega)
      rw [← ev15] at f16
      intro v18 ev18
      have f19 := ti_andr v15 858993459 (by omega)
      have hv18 := congrArg Int32.toInt ev18
      intro v20 ev20
      intro v21 ev21
      have f23 := ti_andr v20 858993459 (by omega)
      have f22 : Int32.toInt (v18 + (v20 &&& 858993459)) = Int32.toInt v18 + Int32.toInt (v20 &&& 858993459) := ta_add _ _ (by omega)
      rw [← ev21] at f22
      intro v24 ev24
      have hv24 := congrArg Int32.toInt ev24
      intro v26 ev26
      have f27 := ti_andr v24 252645135 (by omega)
      have hv26 := congrArg Int32.toInt ev26
      intro v28 ev28
      have hv28 := congrArg Int32.toInt ev28
      intro v30 ev30
      have hv30 := congrArg Int32.toInt ev30
      have f33 := ti_andr v30 63 (by omega)
      refine And.intro (fun c32 => ?_) (fun c32 => ?_)
      · skip
        have c32 := (fa_eq _ _).mp c32
        intro v34 ev34
        have f35 := ti_or 8 256 x1 x4 (by decide) (by omega) (by omega)
        have hv34 := congrArg Int32.toInt ev34
        intro v36 ev36
        have f38 := ti_shl1 15 32768 x3 (by decide) (by omega)
        have f37 := ti_or 16 65536 x2 (1 <<< (x3 &&& 31)) (by decide) (by omega) (by omega)
        have hv36 := congrArg Int32.toInt ev36
        exact ts_X10_needed_105 bW aG rD m_x jA rW oY pR pX h_m_fruits h_m_standings e0_m_now e1_m_now h_m_x h_m_height h_m_ripe h_m_foot h_m_fork e0_m_told e1_m_told hc0 hc1 hpost hK15 v34 v36 x3 bQ dG dU uM tD (by omega) (by omega) h_x3 h_m_rowMany h_m_thrown h_m_wanted h_m_hand hn15
      · skip
        have c32 := mt (fa_eq _ _).mpr c32
        exact ts_X10_needed_105 bW aG rD m_x jA rW oY pR pX h_m_fruits h_m_standings e0_m_now e1_m_now h_m_x h_m_height h_m_ripe h_m_foot h_m_fork e0_m_told e1_m_told hc0 hc1 hpost hK15 x1 x2 x3 bQ dG dU uM tD h_x1 h_x2 h_x3 h_m_rowMany h_m_thrown h_m_wanted h_m_hand hn15
  · skip
    have c7 := mt (fa_le _ _).mpr c7
    refine And.intro (t_in (by omega)) ?_
    intro v39 ev39
    have f40 := h_m_hand x5.toNatClampNeg
    have hv39 := congrArg Int32.toInt ev39
    intro v41 ev41
    have f42 := ti_shr v39 x3 (by omega)
    have hv41 := congrArg Int32.toInt ev41
    intro v43 ev43
    have f44 := ti_andr v41 1 (by omega)
    have f45 := ti_andl v41 1 (by omega)
    have hv43 := congrArg Int32.toInt ev43
    refine And.intro (fun c46 => ?_) (fun c46 => ?_)
    · skip
      have c46 := mt (fa_eq _ _).mpr c46
      refine And.intro (fun _ => ?_) (fun h9 => absurd h9 (by decide))
      exact ts_X10_needed_62 bW aG rD m_x jA rW oY pR pX h_m_fruits h_m_standings e0_m_now e1_m_now h_m_x h_m_height h_m_ripe h_m_foot h_m_fork e0_m_told e1_m_told hc0 hc1 hpost hK15 hKn x1 x2 x3 x5 x4 0 bQ dG dU uM tD h_x1 h_x2 h_x3 (by omega) h_x4 (by omega) h_m_rowMany h_m_thrown h_m_wanted h_m_hand hn15 hn29
    · skip
      have c46 := (fa_eq _ _).mp c46
      refine And.intro (fun h9 => absurd h9 (by decide)) (fun _ => ?_)
      intro v47 ev47
      have f48 := ti_shl1 7 128 x5 (by decide) (by omega)
      have hv47 := congrArg Int32.toInt ev47
      exact ts_X10_needed_62 bW aG rD m_x jA rW oY pR pX h_m_fruits h_m_standings e0_m_now e1_m_now h_m_x h_m_height h_m_ripe h_m_foot h_m_fork e0_m_told e1_m_told hc0 hc1 hpost hK15 hKn x1 x2 x3 x5 x4 v47 bQ dG dU uM tD h_x1 h_x2 h_x3 (by omega) h_x4 (by omega) h_m_rowMany h_m_thrown h_m_wanted h_m_hand hn15 hn29
set_option maxHeartbeats 8000000 in
set_option maxRecDepth 200000 in
theorem tb_X10_needed_29 {post : Int32 → Int32 → Int32 → Int32 → (Nat → Int32) → (Nat → Int32) → Prop} {SB : Int} {K15 : Int32 → Int32 → Int32 → Int32 → Int32 → Int32 → (Nat → Int32) → (Nat → Int32) → Prop} {n15 : Int} (bW aG : Int32) (rD m_x jA rW oY pR pX : Nat → Int32) (h_m_fruits : 0 ≤ Int32.toInt bW ∧ Int32.toInt bW ≤ 16) (h_m_standings : 0 ≤ Int32.toInt aG ∧ Int32.toInt aG ≤ 8) (e0_m_now : ∀ k : Nat, k = 17 → -1 ≤ Int32.toInt (rD k) ∧ Int32.toInt (rD k) ≤ SB) (e1_m_now : ∀ k : Nat, k = 19 → 0 ≤ Int32.toInt (rD k) ∧ Int32.toInt (rD k) ≤ 9) (h_m_x : ∀ k : Nat, 0 ≤ Int32.toInt (m_x k) ∧ Int32.toInt (m_x k) ≤ 99) (h_m_height : ∀ k : Nat, 0 ≤ Int32.toInt (jA k) ∧ Int32.toInt (jA k) ≤ 99) (h_m_ripe : ∀ k : Nat, 0 ≤ Int32.toInt (rW k) ∧ Int32.toInt (rW k) ≤ 9) (h_m_foot : ∀ k : Nat, 0 ≤ Int32.toInt (oY k) ∧ Int32.toInt (oY k) ≤ 99) (h_m_fork : ∀ k : Nat, 0 ≤ Int32.toInt (pR k) ∧ Int32.toInt (pR k) ≤ 99) (e0_m_told : ∀ k : Nat, k = 4 → 1 ≤ Int32.toInt (pX k) ∧ Int32.toInt (pX k) ≤ 30) (e1_m_told : ∀ k : Nat, k = 3 → 0 ≤ Int32.toInt (pX k) ∧ Int32.toInt (pX k) ≤ 9) (hc0 : -1 ≤ SB ∧ SB ≤ 7) (hc1 : (Int32.toInt aG ≤ 0 ∧ SB = 0) ∨ (1 ≤ Int32.toInt aG ∧ SB = Int32.toInt aG - 1)) (hpost : ∀ (r : Int32) (m_rowMany' : Int32) (m_thrown' : Int32) (m_wanted' : Int32) (m_row' : Nat → Int32) (m_hand' : Nat → Int32), (0 ≤ Int32.toInt r ∧ Int32.toInt r ≤ 255) → (1 ≤ Int32.toInt m_rowMany' ∧ Int32.toInt m_rowMany' ≤ 1) → (0 ≤ Int32.toInt m_thrown' ∧ Int32.toInt m_thrown' ≤ 0) → (0 ≤ Int32.toInt m_wanted' ∧ Int32.toInt m_wanted' ≤ 65535) → (∀ k : Nat, 0 ≤ Int32.toInt (m_hand' k) ∧ Int32.toInt (m_hand' k) ≤ 65535) → post r m_rowMany' m_thrown' m_wanted' m_row' m_hand') (hK15 : ∀ (x1 : Int32) (x2 : Int32) (x3 : Int32) (bQ : Int32) (dG : Int32) (dU : Int32) (uM : Nat → Int32) (tD : Nat → Int32), (0 ≤ Int32.toInt x1 ∧ Int32.toInt x1 ≤ 255) → (0 ≤ Int32.toInt x2 ∧ Int32.toInt x2 ≤ 65535) → (0 ≤ Int32.toInt x3 ∧ Int32.toInt x3 ≤ 16) → (0 ≤ Int32.toInt bQ ∧ Int32.toInt bQ ≤ 16) → (0 ≤ Int32.toInt dG ∧ Int32.toInt dG ≤ 0) → (0 ≤ Int32.toInt dU ∧ Int32.toInt dU ≤ 65535) → (∀ k : Nat, 0 ≤ Int32.toInt (tD k) ∧ Int32.toInt (tD k) ≤ 65535) → (16 - Int32.toInt x3 < n15) → K15 x1 x2 x3 bQ dG dU uM tD) : ∀ (n : Nat) (x1 x2 x3 x4 x5 bQ dG dU : Int32) (uM tD : Nat → Int32), (0 ≤ Int32.toInt x1 ∧ Int32.toInt x1 ≤ 255) → (0 ≤ Int32.toInt x2 ∧ Int32.toInt x2 ≤ 65535) → (0 ≤ Int32.toInt x3 ∧ Int32.toInt x3 ≤ 15) → (0 ≤ Int32.toInt x4 ∧ Int32.toInt x4 ≤ 255) → (0 ≤ Int32.toInt x5 ∧ Int32.toInt x5 ≤ 8) → (0 ≤ Int32.toInt bQ ∧ Int32.toInt bQ ≤ 16) → (0 ≤ Int32.toInt dG ∧ Int32.toInt dG ≤ 0) → (0 ≤ Int32.toInt dU ∧ Int32.toInt dU ≤ 65535) → (∀ k : Nat, 0 ≤ Int32.toInt (tD k) ∧ Int32.toInt (tD k) ≤ 65535) → (16 - Int32.toInt x3 ≤ n15) → (8 - Int32.toInt x5 < (n : Int)) → wb_X10_needed_29 post K15 bW aG rD m_x jA rW oY pR pX n x1 x2 x3 x4 x5 bQ dG dU uM tD := by
  intro n
  induction n with
  | zero =>
    intro x1 x2 x3 x4 x5 bQ dG dU uM tD h_x1 h_x2 h_x3 h_x4 h_x5 h_m_rowMany h_m_thrown h_m_wanted h_m_hand hn15 hm
    exfalso; omega
  | succ n ih =>
    intro x1 x2 x3 x4 x5 bQ dG dU uM tD h_x1 h_x2 h_x3 h_x4 h_x5 h_m_rowMany h_m_thrown h_m_wanted h_m_hand hn15 hm
    exact ts_X10_needed_29 bW aG rD m_x jA rW oY pR pX h_m_fruits h_m_standings e0_m_now e1_m_now h_m_x h_m_height h_m_ripe h_m_foot h_m_fork e0_m_told e1_m_told hc0 hc1 hpost hK15 ih x1 x2 x3 x4 x5 bQ dG dU uM tD h_x1 h_x2 h_x3 h_x4 h_x5 h_m_rowMany h_m_thrown h_m_wanted h_m_hand hn15 (by omega)
set_option maxHeartbeats 8000000 in
set_option maxRecDepth 200000 in
theorem ts_X10_needed_15 {post : Int32 → Int32 → Int32 → Int32 → (Nat → Int32) → (Nat → Int32) → Prop} {SB : Int} {next : Int32 → Int32 → Int32 → Int32 → Int32 → Int32 → (Nat → Int32) → (Nat → Int32) → Prop} {n15 : Int} (bW aG : Int32) (rD m_x jA rW oY pR pX : Nat → Int32) (h_m_fruits : 0 ≤ Int32.toInt bW ∧ Int32.toInt bW ≤ 16) (h_m_standings : 0 ≤ Int32.toInt aG ∧ Int32.toInt aG ≤ 8) (e0_m_now : ∀ k : Nat, k = 17 → -1 ≤ Int32.toInt (rD k) ∧ Int32.toInt (rD k) ≤ SB) (e1_m_now : ∀ k : Nat, k = 19 → 0 ≤ Int32.toInt (rD k) ∧ Int32.toInt (rD k) ≤ 9) (h_m_x : ∀ k : Nat, 0 ≤ Int32.toInt (m_x k) ∧ Int32.toInt (m_x k) ≤ 99) (h_m_height : ∀ k : Nat, 0 ≤ Int32.toInt (jA k) ∧ Int32.toInt (jA k) ≤ 99) (h_m_ripe : ∀ k : Nat, 0 ≤ Int32.toInt (rW k) ∧ Int32.toInt (rW k) ≤ 9) (h_m_foot : ∀ k : Nat, 0 ≤ Int32.toInt (oY k) ∧ Int32.toInt (oY k) ≤ 99) (h_m_fork : ∀ k : Nat, 0 ≤ Int32.toInt (pR k) ∧ Int32.toInt (pR k) ≤ 99) (e0_m_told : ∀ k : Nat, k = 4 → 1 ≤ Int32.toInt (pX k) ∧ Int32.toInt (pX k) ≤ 30) (e1_m_told : ∀ k : Nat, k = 3 → 0 ≤ Int32.toInt (pX k) ∧ Int32.toInt (pX k) ≤ 9) (hc0 : -1 ≤ SB ∧ SB ≤ 7) (hc1 : (Int32.toInt aG ≤ 0 ∧ SB = 0) ∨ (1 ≤ Int32.toInt aG ∧ SB = Int32.toInt aG - 1)) (hpost : ∀ (r : Int32) (m_rowMany' : Int32) (m_thrown' : Int32) (m_wanted' : Int32) (m_row' : Nat → Int32) (m_hand' : Nat → Int32), (0 ≤ Int32.toInt r ∧ Int32.toInt r ≤ 255) → (1 ≤ Int32.toInt m_rowMany' ∧ Int32.toInt m_rowMany' ≤ 1) → (0 ≤ Int32.toInt m_thrown' ∧ Int32.toInt m_thrown' ≤ 0) → (0 ≤ Int32.toInt m_wanted' ∧ Int32.toInt m_wanted' ≤ 65535) → (∀ k : Nat, 0 ≤ Int32.toInt (m_hand' k) ∧ Int32.toInt (m_hand' k) ≤ 65535) → post r m_rowMany' m_thrown' m_wanted' m_row' m_hand') (hKn : ∀ (x1 : Int32) (x2 : Int32) (x3 : Int32) (bQ : Int32) (dG : Int32) (dU : Int32) (uM : Nat → Int32) (tD : Nat → Int32), (0 ≤ Int32.toInt x1 ∧ Int32.toInt x1 ≤ 255) → (0 ≤ Int32.toInt x2 ∧ Int32.toInt x2 ≤ 65535) → (0 ≤ Int32.toInt x3 ∧ Int32.toInt x3 ≤ 16) → (0 ≤ Int32.toInt bQ ∧ Int32.toInt bQ ≤ 16) → (0 ≤ Int32.toInt dG ∧ Int32.toInt dG ≤ 0) → (0 ≤ Int32.toInt dU ∧ Int32.toInt dU ≤ 65535) → (∀ k : Nat, 0 ≤ Int32.toInt (tD k) ∧ Int32.toInt (tD k) ≤ 65535) → (16 - Int32.toInt x3 < n15) → next x1 x2 x3 bQ dG dU uM tD) (x1 x2 x3 bQ dG dU : Int32) (uM tD : Nat → Int32) (h_x1 : 0 ≤ Int32.toInt x1 ∧ Int32.toInt x1 ≤ 255) (h_x2 : 0 ≤ Int32.toInt x2 ∧ Int32.toInt x2 ≤ 65535) (h_x3 : 0 ≤ Int32.toInt x3 ∧ Int32.toInt x3 ≤ 16) (h_m_rowMany : 0 ≤ Int32.toInt bQ ∧ Int32.toInt bQ ≤ 16) (h_m_thrown : 0 ≤ Int32.toInt dG ∧ Int32.toInt dG ≤ 0) (h_m_wanted : 0 ≤ Int32.toInt dU ∧ Int32.toInt dU ≤ 65535) (h_m_hand : ∀ k : Nat, 0 ≤ Int32.toInt (tD k) ∧ Int32.toInt (tD k) ≤ 65535) (hn15 : 16 - Int32.toInt x3 ≤ n15) : ws_X10_needed_15 post next bW aG rD m_x jA rW oY pR pX x1 x2 x3 bQ dG dU uM tD := by
  have l0 := li_0
  have l1 := li_1
  refine And.intro (fun c49 => ?_) (fun c49 => ?_)
  · skip
    have c49 := (fa_le _ _).mp c49
    refine And.intro (t_in (by omega)) ?_
    intro v50 ev50
    have f51 : Int32.toInt (0 + 1) = Int32.toInt (0 : Int32) + Int32.toInt (1 : Int32) := ta_add _ _ (by omega)
    rw [← ev50] at f51
    exact hpost _ _ _ _ _ _ h_x1 (by omega) h_m_thrown h_m_wanted h_m_hand
  · skip
    have c49 := mt (fa_le _ _).mpr c49
    exact ⟨10, tb_X10_needed_29 bW aG rD m_x jA rW oY pR pX h_m_fruits h_m_standings e0_m_now e1_m_now h_m_x h_m_height h_m_ripe h_m_foot h_m_fork e0_m_told e1_m_told hc0 hc1 hpost hKn _ x1 x2 x3 0 0 bQ dG dU uM tD h_x1 h_x2 (by omega) (by omega) (by omega) h_m_rowMany h_m_thrown h_m_wanted h_m_hand hn15 (by omega)⟩
set_option maxHeartbeats 8000000 in
set_option maxRecDepth 200000 in
theorem tb_X10_needed_15 {post : Int32 → Int32 → Int32 → Int32 → (Nat → Int32) → (Nat → Int32) → Prop} {SB : Int} (bW aG : Int32) (rD m_x jA rW oY pR pX : Nat → Int32) (h_m_fruits : 0 ≤ Int32.toInt bW ∧ Int32.toInt bW ≤ 16) (h_m_standings : 0 ≤ Int32.toInt aG ∧ Int32.toInt aG ≤ 8) (e0_m_now : ∀ k : Nat, k = 17 → -1 ≤ Int32.toInt (rD k) ∧ Int32.toInt (rD k) ≤ SB) (e1_m_now : ∀ k : Nat, k = 19 → 0 ≤ Int32.toInt (rD k) ∧ Int32.toInt (rD k) ≤ 9) (h_m_x : ∀ k : Nat, 0 ≤ Int32.toInt (m_x k) ∧ Int32.toInt (m_x k) ≤ 99) (h_m_height : ∀ k : Nat, 0 ≤ Int32.toInt (jA k) ∧ Int32.toInt (jA k) ≤ 99) (h_m_ripe : ∀ k : Nat, 0 ≤ Int32.toInt (rW k) ∧ Int32.toInt (rW k) ≤ 9) (h_m_foot : ∀ k : Nat, 0 ≤ Int32.toInt (oY k) ∧ Int32.toInt (oY k) ≤ 99) (h_m_fork : ∀ k : Nat, 0 ≤ Int32.toInt (pR k) ∧ Int32.toInt (pR k) ≤ 99) (e0_m_told : ∀ k : Nat, k = 4 → 1 ≤ Int32.toInt (pX k) ∧ Int32.toInt (pX k) ≤ 30) (e1_m_told : ∀ k : Nat, k = 3 → 0 ≤ Int32.toInt (pX k) ∧ Int32.toInt (pX k) ≤ 9) (hc0 : -1 ≤ SB ∧ SB ≤ 7) (hc1 : (Int32.toInt aG ≤ 0 ∧ SB = 0) ∨ (1 ≤ Int32.toInt aG ∧ SB = Int32.toInt aG - 1)) (hpost : ∀ (r : Int32) (m_rowMany' : Int32) (m_thrown' : Int32) (m_wanted' : Int32) (m_row' : Nat → Int32) (m_hand' : Nat → Int32), (0 ≤ Int32.toInt r ∧ Int32.toInt r ≤ 255) → (1 ≤ Int32.toInt m_rowMany' ∧ Int32.toInt m_rowMany' ≤ 1) → (0 ≤ Int32.toInt m_thrown' ∧ Int32.toInt m_thrown' ≤ 0) → (0 ≤ Int32.toInt m_wanted' ∧ Int32.toInt m_wanted' ≤ 65535) → (∀ k : Nat, 0 ≤ Int32.toInt (m_hand' k) ∧ Int32.toInt (m_hand' k) ≤ 65535) → post r m_rowMany' m_thrown' m_wanted' m_row' m_hand') : ∀ (n : Nat) (x1 x2 x3 bQ dG dU : Int32) (uM tD : Nat → Int32), (0 ≤ Int32.toInt x1 ∧ Int32.toInt x1 ≤ 255) → (0 ≤ Int32.toInt x2 ∧ Int32.toInt x2 ≤ 65535) → (0 ≤ Int32.toInt x3 ∧ Int32.toInt x3 ≤ 16) → (0 ≤ Int32.toInt bQ ∧ Int32.toInt bQ ≤ 16) → (0 ≤ Int32.toInt dG ∧ Int32.toInt dG ≤ 0) → (0 ≤ Int32.toInt dU ∧ Int32.toInt dU ≤ 65535) → (∀ k : Nat, 0 ≤ Int32.toInt (tD k) ∧ Int32.toInt (tD k) ≤ 65535) → (16 - Int32.toInt x3 < (n : Int)) → wb_X10_needed_15 post bW aG rD m_x jA rW oY pR pX n x1 x2 x3 bQ dG dU uM tD := by
  intro n
  induction n with
  | zero =>
    intro x1 x2 x3 bQ dG dU uM tD h_x1 h_x2 h_x3 h_m_rowMany h_m_thrown h_m_wanted h_m_hand hm
    exfalso; omega
  | succ n ih =>
    intro x1 x2 x3 bQ dG dU uM tD h_x1 h_x2 h_x3 h_m_rowMany h_m_thrown h_m_wanted h_m_hand hm
    exact ts_X10_needed_15 bW aG rD m_x jA rW oY pR pX h_m_fruits h_m_standings e0_m_now e1_m_now h_m_x h_m_height h_m_ripe h_m_foot h_m_fork e0_m_told e1_m_told hc0 hc1 hpost ih x1 x2 x3 bQ dG dU uM tD h_x1 h_x2 h_x3 h_m_rowMany h_m_thrown h_m_wanted h_m_hand (by omega)
set_option maxHeartbeats 8000000 in
set_option maxRecDepth 200000 in
theorem t_X10_needed {post : Int32 → Int32 → Int32 → Int32 → (Nat → Int32) → (Nat → Int32) → Prop} {SB : Int} {bW aG bQ dG dU : Int32} {rD m_x jA rW oY pR pX uM tD : Nat → Int32} (h_m_fruits : 0 ≤ Int32.toInt bW ∧ Int32.toInt bW ≤ 16) (h_m_standings : 0 ≤ Int32.toInt aG ∧ Int32.toInt aG ≤ 8) (h_m_rowMany : 0 ≤ Int32.toInt bQ ∧ Int32.toInt bQ ≤ 16) (h_m_thrown : 0 ≤ Int32.toInt dG ∧ Int32.toInt dG ≤ 1) (h_m_wanted : 0 ≤ Int32.toInt dU ∧ Int32.toInt dU ≤ 65535) (e0_m_now : ∀ k : Nat, k = 17 → -1 ≤ Int32.toInt (rD k) ∧ Int32.toInt (rD k) ≤ SB) (e1_m_now : ∀ k : Nat, k = 19 → 0 ≤ Int32.toInt (rD k) ∧ Int32.toInt (rD k) ≤ 9) (h_m_x : ∀ k : Nat, 0 ≤ Int32.toInt (m_x k) ∧ Int32.toInt (m_x k) ≤ 99) (h_m_height : ∀ k : Nat, 0 ≤ Int32.toInt (jA k) ∧ Int32.toInt (jA k) ≤ 99) (h_m_ripe : ∀ k : Nat, 0 ≤ Int32.toInt (rW k) ∧ Int32.toInt (rW k) ≤ 9) (h_m_foot : ∀ k : Nat, 0 ≤ Int32.toInt (oY k) ∧ Int32.toInt (oY k) ≤ 99) (h_m_fork : ∀ k : Nat, 0 ≤ Int32.toInt (pR k) ∧ Int32.toInt (pR k) ≤ 99) (e0_m_told : ∀ k : Nat, k = 4 → 1 ≤ Int32.toInt (pX k) ∧ Int32.toInt (pX k) ≤ 30) (e1_m_told : ∀ k : Nat, k = 3 → 0 ≤ Int32.toInt (pX k) ∧ Int32.toInt (pX k) ≤ 9) (h_m_hand : ∀ k : Nat, 0 ≤ Int32.toInt (tD k) ∧ Int32.toInt (tD k) ≤ 65535) (hc0 : -1 ≤ SB ∧ SB ≤ 7) (hc1 : (Int32.toInt aG ≤ 0 ∧ SB = 0) ∨ (1 ≤ Int32.toInt aG ∧ SB = Int32.toInt aG - 1)) (hpost : ∀ (r : Int32) (m_rowMany' : Int32) (m_thrown' : Int32) (m_wanted' : Int32) (m_row' : Nat → Int32) (m_hand' : Nat → Int32), (0 ≤ Int32.toInt r ∧ Int32.toInt r ≤ 255) → (1 ≤ Int32.toInt m_rowMany' ∧ Int32.toInt m_rowMany' ≤ 1) → (0 ≤ Int32.toInt m_thrown' ∧ Int32.toInt m_thrown' ≤ 0) → (0 ≤ Int32.toInt m_wanted' ∧ Int32.toInt m_wanted' ≤ 65535) → (∀ k : Nat, 0 ≤ Int32.toInt (m_hand' k) ∧ Int32.toInt (m_hand' k) ≤ 65535) → post r m_rowMany' m_thrown' m_wanted' m_row' m_hand') : wp_X10_needed post bW aG bQ dG dU rD m_x jA rW oY pR pX uM tD := by
  have l0 := li_0
  have l1 := li_18
  intro v52 ev52
  have hv52 := congrArg Int32.toInt ev52
  refine t_X10_layHands_ h_m_fruits h_m_standings h_m_wanted e0_m_now e1_m_now h_m_x h_m_height h_m_ripe h_m_foot h_m_fork e0_m_told e1_m_told h_m_hand (by omega) (by omega) (fun m_wanted_54 m_hand_55 h_m_wanted_54 h_m_hand_55 => ?_)
  exact ⟨18, tb_X10_needed_15 bW aG rD m_x jA rW oY pR pX h_m_fruits h_m_standings e0_m_now e1_m_now h_m_x h_m_height h_m_ripe h_m_foot h_m_fork e0_m_told e1_m_told hc0 hc1 hpost _ 0 0 0 bQ 0 m_wanted_54 uM m_hand_55 (by omega) (by omega) (by omega) h_m_rowMany (by omega) h_m_wanted_54 h_m_hand_55 (by omega)⟩
set_option maxHeartbeats 8000000 in
set_option maxRecDepth 200000 in
theorem ts_X10_birds_82 {post : Int32 → Int32 → Int32 → Int32 → (Nat → Int32) → (Nat → Int32) → Prop} {SB : Int} {K25 : Int32 → Int32 → Int32 → Int32 → Int32 → Int32 → (Nat → Int32) → (Nat → Int32) → Prop} {n25 : Int} (bW aG : Int32) (rD m_x jA pY rW oY pR pX : Nat → Int32) (h_m_fruits : 0 ≤ Int32.toInt bW ∧ Int32.toInt bW ≤ 16) (h_m_standings : 0 ≤ Int32.toInt aG ∧ Int32.toInt aG ≤ 8) (e0_m_now : ∀ k : Nat, k = 17 → -1 ≤ Int32.toInt (rD k) ∧ Int32.toInt (rD k) ≤ SB) (e1_m_now : ∀ k : Nat, k = 19 → 0 ≤ Int32.toInt (rD k) ∧ Int32.toInt (rD k) ≤ 9) (h_m_x : ∀ k : Nat, 0 ≤ Int32.toInt (m_x k) ∧ Int32.toInt (m_x k) ≤ 99) (h_m_height : ∀ k : Nat, 0 ≤ Int32.toInt (jA k) ∧ Int32.toInt (jA k) ≤ 99) (h_m_worth : ∀ k : Nat, 0 ≤ Int32.toInt (pY k) ∧ Int32.toInt (pY k) ≤ 9) (h_m_ripe : ∀ k : Nat, 0 ≤ Int32.toInt (rW k) ∧ Int32.toInt (rW k) ≤ 9) (h_m_foot : ∀ k : Nat, 0 ≤ Int32.toInt (oY k) ∧ Int32.toInt (oY k) ≤ 99) (h_m_fork : ∀ k : Nat, 0 ≤ Int32.toInt (pR k) ∧ Int32.toInt (pR k) ≤ 99) (e0_m_told : ∀ k : Nat, k = 4 → 1 ≤ Int32.toInt (pX k) ∧ Int32.toInt (pX k) ≤ 30) (e1_m_told : ∀ k : Nat, k = 3 → 0 ≤ Int32.toInt (pX k) ∧ Int32.toInt (pX k) ≤ 9) (hc0 : -1 ≤ SB ∧ SB ≤ 7) (hc1 : (Int32.toInt aG ≤ 0 ∧ SB = 0) ∨ (1 ≤ Int32.toInt aG ∧ SB = Int32.toInt aG - 1)) (hpost : ∀ (r : Int32) (m_rowMany' : Int32) (m_thrown' : Int32) (m_wanted' : Int32) (m_row' : Nat → Int32) (m_hand' : Nat → Int32), (0 ≤ Int32.toInt m_rowMany' ∧ Int32.toInt m_rowMany' ≤ 16) → (0 ≤ Int32.toInt m_thrown' ∧ Int32.toInt m_thrown' ≤ 0) → (0 ≤ Int32.toInt m_wanted' ∧ Int32.toInt m_wanted' ≤ 65535) → (∀ k : Nat, 0 ≤ Int32.toInt (m_hand' k) ∧ Int32.toInt (m_hand' k) ≤ 65535) → post r m_rowMany' m_thrown' m_wanted' m_row' m_hand') (hK25 : ∀ (x1 : Int32) (x2 : Int32) (x3 : Int32) (bQ : Int32) (dG : Int32) (dU : Int32) (uM : Nat → Int32) (tD : Nat → Int32), (0 ≤ Int32.toInt x1 ∧ Int32.toInt x1 ≤ 8) → (0 ≤ Int32.toInt x2 ∧ Int32.toInt x2 ≤ 255) → (1 ≤ Int32.toInt x3 ∧ Int32.toInt x3 ≤ 256) → (0 ≤ Int32.toInt bQ ∧ Int32.toInt bQ ≤ 16) → (0 ≤ Int32.toInt dG ∧ Int32.toInt dG ≤ 0) → (0 ≤ Int32.toInt dU ∧ Int32.toInt dU ≤ 65535) → (∀ k : Nat, 0 ≤ Int32.toInt (tD k) ∧ Int32.toInt (tD k) ≤ 65535) → (256 - Int32.toInt x3 < n25) → K25 x1 x2 x3 bQ dG dU uM tD) (x1 x2 x3 bQ dG dU : Int32) (uM tD : Nat → Int32) (h_x1 : 0 ≤ Int32.toInt x1 ∧ Int32.toInt x1 ≤ 8) (h_x2 : 0 ≤ Int32.toInt x2 ∧ Int32.toInt x2 ≤ 255) (h_x3 : 1 ≤ Int32.toInt x3 ∧ Int32.toInt x3 ≤ 255) (h_m_rowMany : 0 ≤ Int32.toInt bQ ∧ Int32.toInt bQ ≤ 16) (h_m_thrown : 0 ≤ Int32.toInt dG ∧ Int32.toInt dG ≤ 0) (h_m_wanted : 0 ≤ Int32.toInt dU ∧ Int32.toInt dU ≤ 65535) (h_m_hand : ∀ k : Nat, 0 ≤ Int32.toInt (tD k) ∧ Int32.toInt (tD k) ≤ 65535) (hn25 : 256 - Int32.toInt x3 ≤ n25) : ws_X10_birds_82 post K25 bW aG rD m_x jA pY rW oY pR pX x1 x2 x3 bQ dG dU uM tD := by
  have l0 := li_1
  intro v1 ev1
  have f2 : Int32.toInt (x3 + 1) = Int32.toInt x3 + Int32.toInt (1 : Int32) := ta_add _ _ (by omega)
  rw [← ev1] at f2
  exact hK25 x1 x2 v1 bQ dG dU uM tD h_x1 h_x2 (by omega) h_m_rowMany h_m_thrown h_m_wanted h_m_hand (by omega)
set_option maxHeartbeats 8000000 in
set_option maxRecDepth 200000 in
theorem ts_X10_birds_80 {post : Int32 → Int32 → Int32 → Int32 → (Nat → Int32) → (Nat → Int32) → Prop} {SB : Int} {K25 : Int32 → Int32 → Int32 → Int32 → Int32 → Int32 → (Nat → Int32) → (Nat → Int32) → Prop} {n25 : Int} (bW aG : Int32) (rD m_x jA pY rW oY pR pX : Nat → Int32) (h_m_fruits : 0 ≤ Int32.toInt bW ∧ Int32.toInt bW ≤ 16) (h_m_standings : 0 ≤ Int32.toInt aG ∧ Int32.toInt aG ≤ 8) (e0_m_now : ∀ k : Nat, k = 17 → -1 ≤ Int32.toInt (rD k) ∧ Int32.toInt (rD k) ≤ SB) (e1_m_now : ∀ k : Nat, k = 19 → 0 ≤ Int32.toInt (rD k) ∧ Int32.toInt (rD k) ≤ 9) (h_m_x : ∀ k : Nat, 0 ≤ Int32.toInt (m_x k) ∧ Int32.toInt (m_x k) ≤ 99) (h_m_height : ∀ k : Nat, 0 ≤ Int32.toInt (jA k) ∧ Int32.toInt (jA k) ≤ 99) (h_m_worth : ∀ k : Nat, 0 ≤ Int32.toInt (pY k) ∧ Int32.toInt (pY k) ≤ 9) (h_m_ripe : ∀ k : Nat, 0 ≤ Int32.toInt (rW k) ∧ Int32.toInt (rW k) ≤ 9) (h_m_foot : ∀ k : Nat, 0 ≤ Int32.toInt (oY k) ∧ Int32.toInt (oY k) ≤ 99) (h_m_fork : ∀ k : Nat, 0 ≤ Int32.toInt (pR k) ∧ Int32.toInt (pR k) ≤ 99) (e0_m_told : ∀ k : Nat, k = 4 → 1 ≤ Int32.toInt (pX k) ∧ Int32.toInt (pX k) ≤ 30) (e1_m_told : ∀ k : Nat, k = 3 → 0 ≤ Int32.toInt (pX k) ∧ Int32.toInt (pX k) ≤ 9) (hc0 : -1 ≤ SB ∧ SB ≤ 7) (hc1 : (Int32.toInt aG ≤ 0 ∧ SB = 0) ∨ (1 ≤ Int32.toInt aG ∧ SB = Int32.toInt aG - 1)) (hpost : ∀ (r : Int32) (m_rowMany' : Int32) (m_thrown' : Int32) (m_wanted' : Int32) (m_row' : Nat → Int32) (m_hand' : Nat → Int32), (0 ≤ Int32.toInt m_rowMany' ∧ Int32.toInt m_rowMany' ≤ 16) → (0 ≤ Int32.toInt m_thrown' ∧ Int32.toInt m_thrown' ≤ 0) → (0 ≤ Int32.toInt m_wanted' ∧ Int32.toInt m_wanted' ≤ 65535) → (∀ k : Nat, 0 ≤ Int32.toInt (m_hand' k) ∧ Int32.toInt (m_hand' k) ≤ 65535) → post r m_rowMany' m_thrown' m_wanted' m_row' m_hand') (hK25 : ∀ (x1 : Int32) (x2 : Int32) (x3 : Int32) (bQ : Int32) (dG : Int32) (dU : Int32) (uM : Nat → Int32) (tD : Nat → Int32), (0 ≤ Int32.toInt x1 ∧ Int32.toInt x1 ≤ 8) → (0 ≤ Int32.toInt x2 ∧ Int32.toInt x2 ≤ 255) → (1 ≤ Int32.toInt x3 ∧ Int32.toInt x3 ≤ 256) → (0 ≤ Int32.toInt bQ ∧ Int32.toInt bQ ≤ 16) → (0 ≤ Int32.toInt dG ∧ Int32.toInt dG ≤ 0) → (0 ≤ Int32.toInt dU ∧ Int32.toInt dU ≤ 65535) → (∀ k : Nat, 0 ≤ Int32.toInt (tD k) ∧ Int32.toInt (tD k) ≤ 65535) → (256 - Int32.toInt x3 < n25) → K25 x1 x2 x3 bQ dG dU uM tD) (x1 x3 bQ dG dU : Int32) (uM tD : Nat → Int32) (h_x1 : 0 ≤ Int32.toInt x1 ∧ Int32.toInt x1 ≤ 8) (h_x3 : 1 ≤ Int32.toInt x3 ∧ Int32.toInt x3 ≤ 255) (h_m_rowMany : 0 ≤ Int32.toInt bQ ∧ Int32.toInt bQ ≤ 16) (h_m_thrown : 0 ≤ Int32.toInt dG ∧ Int32.toInt dG ≤ 0) (h_m_wanted : 0 ≤ Int32.toInt dU ∧ Int32.toInt dU ≤ 65535) (h_m_hand : ∀ k : Nat, 0 ≤ Int32.toInt (tD k) ∧ Int32.toInt (tD k) ≤ 65535) (hn25 : 256 - Int32.toInt x3 ≤ n25) : ws_X10_birds_80 post K25 bW aG rD m_x jA pY rW oY pR pX x1 x3 bQ dG dU uM tD := by
  exact ts_X10_birds_82 bW aG rD m_x jA pY rW oY pR pX h_m_fruits h_m_standings e0_m_now e1_m_now h_m_x h_m_height h_m_worth h_m_ripe h_m_foot h_m_fork e0_m_told e1_m_told hc0 hc1 hpost hK25 x1 x3 x3 bQ dG dU uM tD h_x1 (by omega) h_x3 h_m_rowMany h_m_thrown h_m_wanted h_m_hand hn25
set_option maxHeartbeats 8000000 in
set_option maxRecDepth 200000 in
theorem ts_X10_birds_25 {post : Int32 → Int32 → Int32 → Int32 → (Nat → Int32) → (Nat → Int32) → Prop} {SB : Int} {next : Int32 → Int32 → Int32 → Int32 → Int32 → Int32 → (Nat → Int32) → (Nat → Int32) → Prop} {n25 : Int} (bW aG : Int32) (rD m_x jA pY rW oY pR pX : Nat → Int32) (h_m_fruits : 0 ≤ Int32.toInt bW ∧ Int32.toInt bW ≤ 16) (h_m_standings : 0 ≤ Int32.toInt aG ∧ Int32.toInt aG ≤ 8) (e0_m_now : ∀ k : Nat, k = 17 → -1 ≤ Int32.toInt (rD k) ∧ Int32.toInt (rD k) ≤ SB) (e1_m_now : ∀ k : Nat, k = 19 → 0 ≤ Int32.toInt (rD k) ∧ Int32.toInt (rD k) ≤ 9) (h_m_x : ∀ k : Nat, 0 ≤ Int32.toInt (m_x k) ∧ Int32.toInt (m_x k) ≤ 99) (h_m_height : ∀ k : Nat, 0 ≤ Int32.toInt (jA k) ∧ Int32.toInt (jA k) ≤ 99) (h_m_worth : ∀ k : Nat, 0 ≤ Int32.toInt (pY k) ∧ Int32.toInt (pY k) ≤ 9) (h_m_ripe : ∀ k : Nat, 0 ≤ Int32.toInt (rW k) ∧ Int32.toInt (rW k) ≤ 9) (h_m_foot : ∀ k : Nat, 0 ≤ Int32.toInt (oY k) ∧ Int32.toInt (oY k) ≤ 99) (h_m_fork : ∀ k : Nat, 0 ≤ Int32.toInt (pR k) ∧ Int32.toInt (pR k) ≤ 99) (e0_m_told : ∀ k : Nat, k = 4 → 1 ≤ Int32.toInt (pX k) ∧ Int32.toInt (pX k) ≤ 30) (e1_m_told : ∀ k : Nat, k = 3 → 0 ≤ Int32.toInt (pX k) ∧ Int32.toInt (pX k) ≤ 9) (hc0 : -1 ≤ SB ∧ SB ≤ 7) (hc1 : (Int32.toInt aG ≤ 0 ∧ SB = 0) ∨ (1 ≤ Int32.toInt aG ∧ SB = Int32.toInt aG - 1)) (hpost : ∀ (r : Int32) (m_rowMany' : Int32) (m_thrown' : Int32) (m_wanted' : Int32) (m_row' : Nat → Int32) (m_hand' : Nat → Int32), (0 ≤ Int32.toInt m_rowMany' ∧ Int32.toInt m_rowMany' ≤ 16) → (0 ≤ Int32.toInt m_thrown' ∧ Int32.toInt m_thrown' ≤ 0) → (0 ≤ Int32.toInt m_wanted' ∧ Int32.toInt m_wanted' ≤ 65535) → (∀ k : Nat, 0 ≤ Int32.toInt (m_hand' k) ∧ Int32.toInt (m_hand' k) ≤ 65535) → post r m_rowMany' m_thrown' m_wanted' m_row' m_hand') (hKn : ∀ (x1 : Int32) (x2 : Int32) (x3 : Int32) (bQ : Int32) (dG : Int32) (dU : Int32) (uM : Nat → Int32) (tD : Nat → Int32), (0 ≤ Int32.toInt x1 ∧ Int32.toInt x1 ≤ 8) → (0 ≤ Int32.toInt x2 ∧ Int32.toInt x2 ≤ 255) → (1 ≤ Int32.toInt x3 ∧ Int32.toInt x3 ≤ 256) → (0 ≤ Int32.toInt bQ ∧ Int32.toInt bQ ≤ 16) → (0 ≤ Int32.toInt dG ∧ Int32.toInt dG ≤ 0) → (0 ≤ Int32.toInt dU ∧ Int32.toInt dU ≤ 65535) → (∀ k : Nat, 0 ≤ Int32.toInt (tD k) ∧ Int32.toInt (tD k) ≤ 65535) → (256 - Int32.toInt x3 < n25) → next x1 x2 x3 bQ dG dU uM tD) (x1 x2 x3 bQ dG dU : Int32) (uM tD : Nat → Int32) (h_x1 : 0 ≤ Int32.toInt x1 ∧ Int32.toInt x1 ≤ 8) (h_x2 : 0 ≤ Int32.toInt x2 ∧ Int32.toInt x2 ≤ 255) (h_x3 : 1 ≤ Int32.toInt x3 ∧ Int32.toInt x3 ≤ 256) (h_m_rowMany : 0 ≤ Int32.toInt bQ ∧ Int32.toInt bQ ≤ 16) (h_m_thrown : 0 ≤ Int32.toInt dG ∧ Int32.toInt dG ≤ 0) (h_m_wanted : 0 ≤ Int32.toInt dU ∧ Int32.toInt dU ≤ 65535) (h_m_hand : ∀ k : Nat, 0 ≤ Int32.toInt (tD k) ∧ Int32.toInt (tD k) ≤ 65535) (hn25 : 256 - Int32.toInt x3 ≤ n25) : ws_X10_birds_25 post next bW aG rD m_x jA pY rW oY pR pX x1 x2 x3 bQ dG dU uM tD := by
  have l0 := li_0
  have l1 := li_1
  have l2 := li_1431655765
  have l3 := li_16
  have l4 := li_252645135
  have l5 := li_63
  have l6 := li_858993459
  intro v3 ev3
  have f4 := ti_shl1 8 256 aG (by decide) (by omega)
  have hv3 := congrArg Int32.toInt ev3
  have f6 : Int32.toInt (v3 - 1) = Int32.toInt v3 - Int32.toInt (1 : Int32) := ta_sub _ _ (by omega)
  refine And.intro (fun c5 => ?_) (fun c5 => ?_)
  · skip
    have c5 := (fa_lt _ _).mp c5
    refine And.intro (t_in (by omega)) ?_
    intro v7 ev7
    have f8 : Int32.toInt (0 + 1) = Int32.toInt (0 : Int32) + Int32.toInt (1 : Int32) := ta_add _ _ (by omega)
    rw [← ev7] at f8
    refine t_X10_handOf h_x2 h_m_standings h_m_hand (fun r9 h_r9 => ?_)
    intro v10 ev10
    have f12 := ti_andl dU (r9 ^^^ (-1)) (by omega)
    have hv10 := congrArg Int32.toInt ev10
    refine And.intro (t_in (by omega)) ?_
    intro v13 ev13
    have f14 : Int32.toInt (v7 + 1) = Int32.toInt v7 + Int32.toInt (1 : Int32) := ta_add _ _ (by omega)
    rw [← ev13] at f14
    refine t_X10_handOf h_x2 h_m_standings h_m_hand (fun r15 h_r15 => ?_)
    intro v16 ev16
    have f18 := ti_andl dU (r15 ^^^ (-1)) (by omega)
    have hv16 := congrArg Int32.toInt ev16
    intro v19 ev19
    have hv19 := congrArg Int32.toInt ev19
    refine t_X10_worthOfAll (by omega) h_m_fruits h_m_worth (fun r21 => ?_)
    exact hpost _ _ _ _ _ _ (by omega) h_m_thrown h_m_wanted h_m_hand
  · skip
    have c5 := mt (fa_lt _ _).mpr c5
    intro v22 ev22
    intro v23 ev23
    have f25 := ti_andr v22 1431655765 (by omega)
    have f24 : Int32.toInt (x3 - (v22 &&& 1431655765)) = Int32.toInt x3 - Int32.toInt (v22 &&& 1431655765) := ta_sub _ _ (by omega)
    rw [← ev23] at f24
    intro v26 ev26
    have f27 := ti_andr v23 858993459 (by omega)
    have hv26 := congrArg Int32.toInt ev26
    intro v28 ev28
    intro v29 ev29
    have f31 := ti_andr v28 858993459 (by omega)
    have f30 : Int32.toInt (v26 + (v28 &&& 858993459)) = Int32.toInt v26 + Int32.toInt (v28 &&& 858993459) := ta_add _ _ (by omega)
    rw [← ev29] at f30
    intro v32 ev32
    have hv32 := congrArg Int32.toInt ev32
    intro v34 ev34
    have f35 := ti_andr v32 252645135 (by omega)
    have hv34 := congrArg Int32.toInt ev34
    intro v36 ev36
    have hv36 := congrArg Int32.toInt ev36
    intro v38 ev38
    have hv38 := congrArg Int32.toInt ev38
    have f41 := ti_andr v38 63 (by omega)
    refine And.intro (fun c40 => ?_) (fun c40 => ?_)
    · skip
      have c40 := (fa_le _ _).mp c40
      refine t_X10_handOf (by omega) h_m_standings h_m_hand (fun r42 h_r42 => ?_)
      intro v43 ev43
      have f45 := ti_andl dU (r42 ^^^ (-1)) (by omega)
      have hv43 := congrArg Int32.toInt ev43
      intro v46 ev46
      have hv46 := congrArg Int32.toInt ev46
      refine t_X10_worthOfAll (by omega) h_m_fruits h_m_worth (fun r48 => ?_)
      refine t_X10_handOf h_x2 h_m_standings h_m_hand (fun r49 h_r49 => ?_)
      intro v50 ev50
      have f52 := ti_andl dU (r49 ^^^ (-1)) (by omega)
      have hv50 := congrArg Int32.toInt ev50
      intro v53 ev53
      have hv53 := congrArg Int32.toInt ev53
      refine t_X10_worthOfAll (by omega) h_m_fruits h_m_worth (fun r54 => ?_)
      intro v55 ev55
      have hv55 := congrArg Int32.toInt ev55
      have f58 := tp_r v55
      refine And.intro (fun c57 => ?_) (fun c57 => ?_)
      · skip
        have c57 := (fa_lt _ _).mp c57
        exact ts_X10_birds_80 bW aG rD m_x jA pY rW oY pR pX h_m_fruits h_m_standings e0_m_now e1_m_now h_m_x h_m_height h_m_worth h_m_ripe h_m_foot h_m_fork e0_m_told e1_m_told hc0 hc1 hpost hKn x1 x3 bQ dG dU uM tD h_x1 (by omega) h_m_rowMany h_m_thrown h_m_wanted h_m_hand hn25
      · skip
        have c57 := mt (fa_lt _ _).mpr c57
        refine And.intro (fun c59 => ?_) (fun c59 => ?_)
        · skip
          have c59 := mt (fa_eq _ _).mpr c59
          exact ts_X10_birds_82 bW aG rD m_x jA pY rW oY pR pX h_m_fruits h_m_standings e0_m_now e1_m_now h_m_x h_m_height h_m_worth h_m_ripe h_m_foot h_m_fork e0_m_told e1_m_told hc0 hc1 hpost hKn x1 x2 x3 bQ dG dU uM tD h_x1 h_x2 (by omega) h_m_rowMany h_m_thrown h_m_wanted h_m_hand hn25
        · skip
          have c59 := (fa_eq _ _).mp c59
          intro v60 ev60
          intro v61 ev61
          have f63 := ti_andr v60 1431655765 (by omega)
          have f62 : Int32.toInt (x2 - (v60 &&& 1431655765)) = Int32.toInt x2 - Int32.toInt (v60 &&& 1431655765) := ta_sub _ _ (by omega)
          rw [← ev61] at f62
          intro v64 ev64
          have f65 := ti_andr v61 858993459 (by omega)
          have hv64 := congrArg Int32.toInt ev64
          intro v66 ev66
          intro v67 ev67
          have f69 := ti_andr v66 858993459 (by omega)
          have f68 : Int32.toInt (v64 + (v66 &&& 858993459)) = Int32.toInt v64 + Int32.toInt (v66 &&& 858993459) := ta_add _ _ (by omega)
          rw [← ev67] at f68
          intro v70 ev70
          have hv70 := congrArg Int32.toInt ev70
          intro v72 ev72
          have f73 := ti_andr v70 252645135 (by omega)
          have hv72 := congrArg Int32.toInt ev72
          intro v74 ev74
          have hv74 := congrArg Int32.toInt ev74
          intro v76 ev76
          have hv76 := congrArg Int32.toInt ev76
          have f79 := ti_andr v76 63 (by omega)
          refine And.intro (fun c78 => ?_) (fun c78 => ?_)
          · skip
            have c78 := (fa_le _ _).mp c78
            exact ts_X10_birds_82 bW aG rD m_x jA pY rW oY pR pX h_m_fruits h_m_standings e0_m_now e1_m_now h_m_x h_m_height h_m_worth h_m_ripe h_m_foot h_m_fork e0_m_told e1_m_told hc0 hc1 hpost hKn x1 x2 x3 bQ dG dU uM tD h_x1 h_x2 (by omega) h_m_rowMany h_m_thrown h_m_wanted h_m_hand hn25
          · skip
            have c78 := mt (fa_le _ _).mpr c78
            exact ts_X10_birds_80 bW aG rD m_x jA pY rW oY pR pX h_m_fruits h_m_standings e0_m_now e1_m_now h_m_x h_m_height h_m_worth h_m_ripe h_m_foot h_m_fork e0_m_told e1_m_told hc0 hc1 hpost hKn x1 x3 bQ dG dU uM tD h_x1 (by omega) h_m_rowMany h_m_thrown h_m_wanted h_m_hand hn25
    · skip
      have c40 := mt (fa_le _ _).mpr c40
      exact ts_X10_birds_82 bW aG rD m_x jA pY rW oY pR pX h_m_fruits h_m_standings e0_m_now e1_m_now h_m_x h_m_height h_m_worth h_m_ripe h_m_foot h_m_fork e0_m_told e1_m_told hc0 hc1 hpost hKn x1 x2 x3 bQ dG dU uM tD h_x1 h_x2 (by omega) h_m_rowMany h_m_thrown h_m_wanted h_m_hand hn25
set_option maxHeartbeats 8000000 in
set_option maxRecDepth 200000 in
theorem tb_X10_birds_25 {post : Int32 → Int32 → Int32 → Int32 → (Nat → Int32) → (Nat → Int32) → Prop} {SB : Int} (bW aG : Int32) (rD m_x jA pY rW oY pR pX : Nat → Int32) (h_m_fruits : 0 ≤ Int32.toInt bW ∧ Int32.toInt bW ≤ 16) (h_m_standings : 0 ≤ Int32.toInt aG ∧ Int32.toInt aG ≤ 8) (e0_m_now : ∀ k : Nat, k = 17 → -1 ≤ Int32.toInt (rD k) ∧ Int32.toInt (rD k) ≤ SB) (e1_m_now : ∀ k : Nat, k = 19 → 0 ≤ Int32.toInt (rD k) ∧ Int32.toInt (rD k) ≤ 9) (h_m_x : ∀ k : Nat, 0 ≤ Int32.toInt (m_x k) ∧ Int32.toInt (m_x k) ≤ 99) (h_m_height : ∀ k : Nat, 0 ≤ Int32.toInt (jA k) ∧ Int32.toInt (jA k) ≤ 99) (h_m_worth : ∀ k : Nat, 0 ≤ Int32.toInt (pY k) ∧ Int32.toInt (pY k) ≤ 9) (h_m_ripe : ∀ k : Nat, 0 ≤ Int32.toInt (rW k) ∧ Int32.toInt (rW k) ≤ 9) (h_m_foot : ∀ k : Nat, 0 ≤ Int32.toInt (oY k) ∧ Int32.toInt (oY k) ≤ 99) (h_m_fork : ∀ k : Nat, 0 ≤ Int32.toInt (pR k) ∧ Int32.toInt (pR k) ≤ 99) (e0_m_told : ∀ k : Nat, k = 4 → 1 ≤ Int32.toInt (pX k) ∧ Int32.toInt (pX k) ≤ 30) (e1_m_told : ∀ k : Nat, k = 3 → 0 ≤ Int32.toInt (pX k) ∧ Int32.toInt (pX k) ≤ 9) (hc0 : -1 ≤ SB ∧ SB ≤ 7) (hc1 : (Int32.toInt aG ≤ 0 ∧ SB = 0) ∨ (1 ≤ Int32.toInt aG ∧ SB = Int32.toInt aG - 1)) (hpost : ∀ (r : Int32) (m_rowMany' : Int32) (m_thrown' : Int32) (m_wanted' : Int32) (m_row' : Nat → Int32) (m_hand' : Nat → Int32), (0 ≤ Int32.toInt m_rowMany' ∧ Int32.toInt m_rowMany' ≤ 16) → (0 ≤ Int32.toInt m_thrown' ∧ Int32.toInt m_thrown' ≤ 0) → (0 ≤ Int32.toInt m_wanted' ∧ Int32.toInt m_wanted' ≤ 65535) → (∀ k : Nat, 0 ≤ Int32.toInt (m_hand' k) ∧ Int32.toInt (m_hand' k) ≤ 65535) → post r m_rowMany' m_thrown' m_wanted' m_row' m_hand') : ∀ (n : Nat) (x1 x2 x3 bQ dG dU : Int32) (uM tD : Nat → Int32), (0 ≤ Int32.toInt x1 ∧ Int32.toInt x1 ≤ 8) → (0 ≤ Int32.toInt x2 ∧ Int32.toInt x2 ≤ 255) → (1 ≤ Int32.toInt x3 ∧ Int32.toInt x3 ≤ 256) → (0 ≤ Int32.toInt bQ ∧ Int32.toInt bQ ≤ 16) → (0 ≤ Int32.toInt dG ∧ Int32.toInt dG ≤ 0) → (0 ≤ Int32.toInt dU ∧ Int32.toInt dU ≤ 65535) → (∀ k : Nat, 0 ≤ Int32.toInt (tD k) ∧ Int32.toInt (tD k) ≤ 65535) → (256 - Int32.toInt x3 < (n : Int)) → wb_X10_birds_25 post bW aG rD m_x jA pY rW oY pR pX n x1 x2 x3 bQ dG dU uM tD := by
  intro n
  induction n with
  | zero =>
    intro x1 x2 x3 bQ dG dU uM tD h_x1 h_x2 h_x3 h_m_rowMany h_m_thrown h_m_wanted h_m_hand hm
    exfalso; omega
  | succ n ih =>
    intro x1 x2 x3 bQ dG dU uM tD h_x1 h_x2 h_x3 h_m_rowMany h_m_thrown h_m_wanted h_m_hand hm
    exact ts_X10_birds_25 bW aG rD m_x jA pY rW oY pR pX h_m_fruits h_m_standings e0_m_now e1_m_now h_m_x h_m_height h_m_worth h_m_ripe h_m_foot h_m_fork e0_m_told e1_m_told hc0 hc1 hpost ih x1 x2 x3 bQ dG dU uM tD h_x1 h_x2 h_x3 h_m_rowMany h_m_thrown h_m_wanted h_m_hand (by omega)
set_option maxHeartbeats 8000000 in
set_option maxRecDepth 200000 in
theorem t_X10_birds {post : Int32 → Int32 → Int32 → Int32 → (Nat → Int32) → (Nat → Int32) → Prop} {SB : Int} {p0 bW aG bQ dG dU : Int32} {rD m_x jA pY rW oY pR pX uM tD : Nat → Int32} (h_m_fruits : 0 ≤ Int32.toInt bW ∧ Int32.toInt bW ≤ 16) (h_m_standings : 0 ≤ Int32.toInt aG ∧ Int32.toInt aG ≤ 8) (h_m_rowMany : 0 ≤ Int32.toInt bQ ∧ Int32.toInt bQ ≤ 16) (h_m_thrown : 0 ≤ Int32.toInt dG ∧ Int32.toInt dG ≤ 1) (h_m_wanted : 0 ≤ Int32.toInt dU ∧ Int32.toInt dU ≤ 65535) (e0_m_now : ∀ k : Nat, k = 17 → -1 ≤ Int32.toInt (rD k) ∧ Int32.toInt (rD k) ≤ SB) (e1_m_now : ∀ k : Nat, k = 19 → 0 ≤ Int32.toInt (rD k) ∧ Int32.toInt (rD k) ≤ 9) (h_m_x : ∀ k : Nat, 0 ≤ Int32.toInt (m_x k) ∧ Int32.toInt (m_x k) ≤ 99) (h_m_height : ∀ k : Nat, 0 ≤ Int32.toInt (jA k) ∧ Int32.toInt (jA k) ≤ 99) (h_m_worth : ∀ k : Nat, 0 ≤ Int32.toInt (pY k) ∧ Int32.toInt (pY k) ≤ 9) (h_m_ripe : ∀ k : Nat, 0 ≤ Int32.toInt (rW k) ∧ Int32.toInt (rW k) ≤ 9) (h_m_foot : ∀ k : Nat, 0 ≤ Int32.toInt (oY k) ∧ Int32.toInt (oY k) ≤ 99) (h_m_fork : ∀ k : Nat, 0 ≤ Int32.toInt (pR k) ∧ Int32.toInt (pR k) ≤ 99) (e0_m_told : ∀ k : Nat, k = 4 → 1 ≤ Int32.toInt (pX k) ∧ Int32.toInt (pX k) ≤ 30) (e1_m_told : ∀ k : Nat, k = 3 → 0 ≤ Int32.toInt (pX k) ∧ Int32.toInt (pX k) ≤ 9) (h_m_hand : ∀ k : Nat, 0 ≤ Int32.toInt (tD k) ∧ Int32.toInt (tD k) ≤ 65535) (hc0 : -1 ≤ SB ∧ SB ≤ 7) (hc1 : (Int32.toInt aG ≤ 0 ∧ SB = 0) ∨ (1 ≤ Int32.toInt aG ∧ SB = Int32.toInt aG - 1)) (hpost : ∀ (r : Int32) (m_rowMany' : Int32) (m_thrown' : Int32) (m_wanted' : Int32) (m_row' : Nat → Int32) (m_hand' : Nat → Int32), (0 ≤ Int32.toInt m_rowMany' ∧ Int32.toInt m_rowMany' ≤ 16) → (0 ≤ Int32.toInt m_thrown' ∧ Int32.toInt m_thrown' ≤ 0) → (0 ≤ Int32.toInt m_wanted' ∧ Int32.toInt m_wanted' ≤ 65535) → (∀ k : Nat, 0 ≤ Int32.toInt (m_hand' k) ∧ Int32.toInt (m_hand' k) ≤ 65535) → post r m_rowMany' m_thrown' m_wanted' m_row' m_hand') : wp_X10_birds post p0 bW aG bQ dG dU rD m_x jA pY rW oY pR pX uM tD := by
  have l0 := li_0
  have l1 := li_1
  have l2 := li_18
  have l3 := li_8
  have f81 := tp_r p0
  refine And.intro (fun c80 => ?_) (fun c80 => ?_)
  · skip
    have c80 := (fa_lt _ _).mp c80
    refine And.intro (fun h9 => absurd h9 (by decide)) (fun _ => ?_)
    exact hpost _ _ _ _ _ _ h_m_rowMany (by omega) h_m_wanted h_m_hand
  · skip
    have c80 := mt (fa_lt _ _).mpr c80
    refine And.intro (fun c82 => ?_) (fun c82 => ?_)
    · skip
      have c82 := (fa_lt _ _).mp c82
      refine And.intro (fun h9 => absurd h9 (by decide)) (fun _ => ?_)
      exact hpost _ _ _ _ _ _ h_m_rowMany (by omega) h_m_wanted h_m_hand
    · skip
      have c82 := mt (fa_lt _ _).mpr c82
      refine And.intro (fun _ => ?_) (fun h9 => absurd h9 (by decide))
      intro v83 ev83
      have hv83 := congrArg Int32.toInt ev83
      refine t_X10_layHands_ h_m_fruits h_m_standings h_m_wanted e0_m_now e1_m_now h_m_x h_m_height h_m_ripe h_m_foot h_m_fork e0_m_told e1_m_told h_m_hand (by omega) (by omega) (fun aIB m_hand_86 h_m_wanted_85 h_m_hand_86 => ?_)
      exact ⟨257, tb_X10_birds_25 bW aG rD m_x jA pY rW oY pR pX h_m_fruits h_m_standings e0_m_now e1_m_now h_m_x h_m_height h_m_worth h_m_ripe h_m_foot h_m_fork e0_m_told e1_m_told hc0 hc1 hpost _ p0 0 1 bQ 0 aIB uM m_hand_86 (by omega) (by omega) (by omega) h_m_rowMany (by omega) h_m_wanted_85 h_m_hand_86 (by omega)⟩
set_option maxHeartbeats 8000000 in
set_option maxRecDepth 200000 in
theorem ts_X10_next_71 {post : Int32 → Int32 → Int32 → Int32 → (Nat → Int32) → (Nat → Int32) → Prop} {SB : Int} {K28 : Int32 → Int32 → Int32 → Int32 → Int32 → Int32 → (Nat → Int32) → (Nat → Int32) → Prop} {n28 : Int} (bW aG : Int32) (rD m_x jA pY rW oY pR pX : Nat → Int32) (h_m_fruits : 0 ≤ Int32.toInt bW ∧ Int32.toInt bW ≤ 16) (h_m_standings : 0 ≤ Int32.toInt aG ∧ Int32.toInt aG ≤ 8) (e0_m_now : ∀ k : Nat, k = 17 → -1 ≤ Int32.toInt (rD k) ∧ Int32.toInt (rD k) ≤ SB) (e1_m_now : ∀ k : Nat, k = 19 → 0 ≤ Int32.toInt (rD k) ∧ Int32.toInt (rD k) ≤ 9) (h_m_x : ∀ k : Nat, 0 ≤ Int32.toInt (m_x k) ∧ Int32.toInt (m_x k) ≤ 99) (h_m_height : ∀ k : Nat, 0 ≤ Int32.toInt (jA k) ∧ Int32.toInt (jA k) ≤ 99) (h_m_worth : ∀ k : Nat, 0 ≤ Int32.toInt (pY k) ∧ Int32.toInt (pY k) ≤ 9) (h_m_ripe : ∀ k : Nat, 0 ≤ Int32.toInt (rW k) ∧ Int32.toInt (rW k) ≤ 9) (h_m_foot : ∀ k : Nat, 0 ≤ Int32.toInt (oY k) ∧ Int32.toInt (oY k) ≤ 99) (h_m_fork : ∀ k : Nat, 0 ≤ Int32.toInt (pR k) ∧ Int32.toInt (pR k) ≤ 99) (e0_m_told : ∀ k : Nat, k = 4 → 1 ≤ Int32.toInt (pX k) ∧ Int32.toInt (pX k) ≤ 30) (e1_m_told : ∀ k : Nat, k = 3 → 0 ≤ Int32.toInt (pX k) ∧ Int32.toInt (pX k) ≤ 9) (hc0 : -1 ≤ SB ∧ SB ≤ 7) (hc1 : (Int32.toInt aG ≤ 0 ∧ SB = 0) ∨ (1 ≤ Int32.toInt aG ∧ SB = Int32.toInt aG - 1)) (hpost : ∀ (r : Int32) (m_rowMany' : Int32) (m_thrown' : Int32) (m_wanted' : Int32) (m_row' : Nat → Int32) (m_hand' : Nat → Int32), (-2 ≤ Int32.toInt r ∧ Int32.toInt r ≤ 7) → (0 ≤ Int32.toInt m_rowMany' ∧ Int32.toInt m_rowMany' ≤ 16) → (0 ≤ Int32.toInt m_thrown' ∧ Int32.toInt m_thrown' ≤ 0) → (0 ≤ Int32.toInt m_wanted' ∧ Int32.toInt m_wanted' ≤ 65535) → (∀ k : Nat, 0 ≤ Int32.toInt (m_hand' k) ∧ Int32.toInt (m_hand' k) ≤ 65535) → post r m_rowMany' m_thrown' m_wanted' m_row' m_hand') (hK28 : ∀ (x1 : Int32) (x2 : Int32) (x3 : Int32) (bQ : Int32) (dG : Int32) (dU : Int32) (uM : Nat → Int32) (tD : Nat → Int32), (0 ≤ Int32.toInt x1 ∧ Int32.toInt x1 ≤ 255) → (-2 ≤ Int32.toInt x2 ∧ Int32.toInt x2 ≤ 7) → (0 ≤ Int32.toInt x3 ∧ Int32.toInt x3 ≤ 8) → (0 ≤ Int32.toInt bQ ∧ Int32.toInt bQ ≤ 16) → (0 ≤ Int32.toInt dG ∧ Int32.toInt dG ≤ 0) → (0 ≤ Int32.toInt dU ∧ Int32.toInt dU ≤ 65535) → (∀ k : Nat, 0 ≤ Int32.toInt (tD k) ∧ Int32.toInt (tD k) ≤ 65535) → (8 - Int32.toInt x3 < n28) → K28 x1 x2 x3 bQ dG dU uM tD) (x1 x2 x3 bQ dG dU : Int32) (uM tD : Nat → Int32) (h_x1 : 0 ≤ Int32.toInt x1 ∧ Int32.toInt x1 ≤ 255) (h_x2 : -2 ≤ Int32.toInt x2 ∧ Int32.toInt x2 ≤ 7) (h_x3 : 0 ≤ Int32.toInt x3 ∧ Int32.toInt x3 ≤ 7) (h_m_rowMany : 0 ≤ Int32.toInt bQ ∧ Int32.toInt bQ ≤ 16) (h_m_thrown : 0 ≤ Int32.toInt dG ∧ Int32.toInt dG ≤ 0) (h_m_wanted : 0 ≤ Int32.toInt dU ∧ Int32.toInt dU ≤ 65535) (h_m_hand : ∀ k : Nat, 0 ≤ Int32.toInt (tD k) ∧ Int32.toInt (tD k) ≤ 65535) (hn28 : 8 - Int32.toInt x3 ≤ n28) : ws_X10_next_71 post K28 bW aG rD m_x jA pY rW oY pR pX x1 x2 x3 bQ dG dU uM tD := by
  have l0 := li_1
  intro v1 ev1
  have f2 : Int32.toInt (x3 + 1) = Int32.toInt x3 + Int32.toInt (1 : Int32) := ta_add _ _ (by omega)
  rw [← ev1] at f2
  exact hK28 x1 x2 v1 bQ dG dU uM tD h_x1 h_x2 (by omega) h_m_rowMany h_m_thrown h_m_wanted h_m_hand (by omega)
set_option maxHeartbeats 8000000 in
set_option maxRecDepth 200000 in
theorem ts_X10_next_69 {post : Int32 → Int32 → Int32 → Int32 → (Nat → Int32) → (Nat → Int32) → Prop} {SB : Int} {K28 : Int32 → Int32 → Int32 → Int32 → Int32 → Int32 → (Nat → Int32) → (Nat → Int32) → Prop} {n28 : Int} (bW aG : Int32) (rD m_x jA pY rW oY pR pX : Nat → Int32) (h_m_fruits : 0 ≤ Int32.toInt bW ∧ Int32.toInt bW ≤ 16) (h_m_standings : 0 ≤ Int32.toInt aG ∧ Int32.toInt aG ≤ 8) (e0_m_now : ∀ k : Nat, k = 17 → -1 ≤ Int32.toInt (rD k) ∧ Int32.toInt (rD k) ≤ SB) (e1_m_now : ∀ k : Nat, k = 19 → 0 ≤ Int32.toInt (rD k) ∧ Int32.toInt (rD k) ≤ 9) (h_m_x : ∀ k : Nat, 0 ≤ Int32.toInt (m_x k) ∧ Int32.toInt (m_x k) ≤ 99) (h_m_height : ∀ k : Nat, 0 ≤ Int32.toInt (jA k) ∧ Int32.toInt (jA k) ≤ 99) (h_m_worth : ∀ k : Nat, 0 ≤ Int32.toInt (pY k) ∧ Int32.toInt (pY k) ≤ 9) (h_m_ripe : ∀ k : Nat, 0 ≤ Int32.toInt (rW k) ∧ Int32.toInt (rW k) ≤ 9) (h_m_foot : ∀ k : Nat, 0 ≤ Int32.toInt (oY k) ∧ Int32.toInt (oY k) ≤ 99) (h_m_fork : ∀ k : Nat, 0 ≤ Int32.toInt (pR k) ∧ Int32.toInt (pR k) ≤ 99) (e0_m_told : ∀ k : Nat, k = 4 → 1 ≤ Int32.toInt (pX k) ∧ Int32.toInt (pX k) ≤ 30) (e1_m_told : ∀ k : Nat, k = 3 → 0 ≤ Int32.toInt (pX k) ∧ Int32.toInt (pX k) ≤ 9) (hc0 : -1 ≤ SB ∧ SB ≤ 7) (hc1 : (Int32.toInt aG ≤ 0 ∧ SB = 0) ∨ (1 ≤ Int32.toInt aG ∧ SB = Int32.toInt aG - 1)) (hpost : ∀ (r : Int32) (m_rowMany' : Int32) (m_thrown' : Int32) (m_wanted' : Int32) (m_row' : Nat → Int32) (m_hand' : Nat → Int32), (-2 ≤ Int32.toInt r ∧ Int32.toInt r ≤ 7) → (0 ≤ Int32.toInt m_rowMany' ∧ Int32.toInt m_rowMany' ≤ 16) → (0 ≤ Int32.toInt m_thrown' ∧ Int32.toInt m_thrown' ≤ 0) → (0 ≤ Int32.toInt m_wanted' ∧ Int32.toInt m_wanted' ≤ 65535) → (∀ k : Nat, 0 ≤ Int32.toInt (m_hand' k) ∧ Int32.toInt (m_hand' k) ≤ 65535) → post r m_rowMany' m_thrown' m_wanted' m_row' m_hand') (hK28 : ∀ (x1 : Int32) (x2 : Int32) (x3 : Int32) (bQ : Int32) (dG : Int32) (dU : Int32) (uM : Nat → Int32) (tD : Nat → Int32), (0 ≤ Int32.toInt x1 ∧ Int32.toInt x1 ≤ 255) → (-2 ≤ Int32.toInt x2 ∧ Int32.toInt x2 ≤ 7) → (0 ≤ Int32.toInt x3 ∧ Int32.toInt x3 ≤ 8) → (0 ≤ Int32.toInt bQ ∧ Int32.toInt bQ ≤ 16) → (0 ≤ Int32.toInt dG ∧ Int32.toInt dG ≤ 0) → (0 ≤ Int32.toInt dU ∧ Int32.toInt dU ≤ 65535) → (∀ k : Nat, 0 ≤ Int32.toInt (tD k) ∧ Int32.toInt (tD k) ≤ 65535) → (8 - Int32.toInt x3 < n28) → K28 x1 x2 x3 bQ dG dU uM tD) (x1 x3 bQ dG dU : Int32) (uM tD : Nat → Int32) (h_x1 : 0 ≤ Int32.toInt x1 ∧ Int32.toInt x1 ≤ 255) (h_x3 : 0 ≤ Int32.toInt x3 ∧ Int32.toInt x3 ≤ 7) (h_m_rowMany : 0 ≤ Int32.toInt bQ ∧ Int32.toInt bQ ≤ 16) (h_m_thrown : 0 ≤ Int32.toInt dG ∧ Int32.toInt dG ≤ 0) (h_m_wanted : 0 ≤ Int32.toInt dU ∧ Int32.toInt dU ≤ 65535) (h_m_hand : ∀ k : Nat, 0 ≤ Int32.toInt (tD k) ∧ Int32.toInt (tD k) ≤ 65535) (hn28 : 8 - Int32.toInt x3 ≤ n28) : ws_X10_next_69 post K28 bW aG rD m_x jA pY rW oY pR pX x1 x3 bQ dG dU uM tD := by
  exact ts_X10_next_71 bW aG rD m_x jA pY rW oY pR pX h_m_fruits h_m_standings e0_m_now e1_m_now h_m_x h_m_height h_m_worth h_m_ripe h_m_foot h_m_fork e0_m_told e1_m_told hc0 hc1 hpost hK28 x1 x3 x3 bQ dG dU uM tD h_x1 (by omega) h_x3 h_m_rowMany h_m_thrown h_m_wanted h_m_hand hn28
set_option maxHeartbeats 8000000 in
set_option maxRecDepth 200000 in
theorem ts_X10_next_28 {post : Int32 → Int32 → Int32 → Int32 → (Nat → Int32) → (Nat → Int32) → Prop} {SB : Int} {next : Int32 → Int32 → Int32 → Int32 → Int32 → Int32 → (Nat → Int32) → (Nat → Int32) → Prop} {n28 : Int} (bW aG : Int32) (rD m_x jA pY rW oY pR pX : Nat → Int32) (h_m_fruits : 0 ≤ Int32.toInt bW ∧ Int32.toInt bW ≤ 16) (h_m_standings : 0 ≤ Int32.toInt aG ∧ Int32.toInt aG ≤ 8) (e0_m_now : ∀ k : Nat, k = 17 → -1 ≤ Int32.toInt (rD k) ∧ Int32.toInt (rD k) ≤ SB) (e1_m_now : ∀ k : Nat, k = 19 → 0 ≤ Int32.toInt (rD k) ∧ Int32.toInt (rD k) ≤ 9) (h_m_x : ∀ k : Nat, 0 ≤ Int32.toInt (m_x k) ∧ Int32.toInt (m_x k) ≤ 99) (h_m_height : ∀ k : Nat, 0 ≤ Int32.toInt (jA k) ∧ Int32.toInt (jA k) ≤ 99) (h_m_worth : ∀ k : Nat, 0 ≤ Int32.toInt (pY k) ∧ Int32.toInt (pY k) ≤ 9) (h_m_ripe : ∀ k : Nat, 0 ≤ Int32.toInt (rW k) ∧ Int32.toInt (rW k) ≤ 9) (h_m_foot : ∀ k : Nat, 0 ≤ Int32.toInt (oY k) ∧ Int32.toInt (oY k) ≤ 99) (h_m_fork : ∀ k : Nat, 0 ≤ Int32.toInt (pR k) ∧ Int32.toInt (pR k) ≤ 99) (e0_m_told : ∀ k : Nat, k = 4 → 1 ≤ Int32.toInt (pX k) ∧ Int32.toInt (pX k) ≤ 30) (e1_m_told : ∀ k : Nat, k = 3 → 0 ≤ Int32.toInt (pX k) ∧ Int32.toInt (pX k) ≤ 9) (hc0 : -1 ≤ SB ∧ SB ≤ 7) (hc1 : (Int32.toInt aG ≤ 0 ∧ SB = 0) ∨ (1 ≤ Int32.toInt aG ∧ SB = Int32.toInt aG - 1)) (hpost : ∀ (r : Int32) (m_rowMany' : Int32) (m_thrown' : Int32) (m_wanted' : Int32) (m_row' : Nat → Int32) (m_hand' : Nat → Int32), (-2 ≤ Int32.toInt r ∧ Int32.toInt r ≤ 7) → (0 ≤ Int32.toInt m_rowMany' ∧ Int32.toInt m_rowMany' ≤ 16) → (0 ≤ Int32.toInt m_thrown' ∧ Int32.toInt m_thrown' ≤ 0) → (0 ≤ Int32.toInt m_wanted' ∧ Int32.toInt m_wanted' ≤ 65535) → (∀ k : Nat, 0 ≤ Int32.toInt (m_hand' k) ∧ Int32.toInt (m_hand' k) ≤ 65535) → post r m_rowMany' m_thrown' m_wanted' m_row' m_hand') (hKn : ∀ (x1 : Int32) (x2 : Int32) (x3 : Int32) (bQ : Int32) (dG : Int32) (dU : Int32) (uM : Nat → Int32) (tD : Nat → Int32), (0 ≤ Int32.toInt x1 ∧ Int32.toInt x1 ≤ 255) → (-2 ≤ Int32.toInt x2 ∧ Int32.toInt x2 ≤ 7) → (0 ≤ Int32.toInt x3 ∧ Int32.toInt x3 ≤ 8) → (0 ≤ Int32.toInt bQ ∧ Int32.toInt bQ ≤ 16) → (0 ≤ Int32.toInt dG ∧ Int32.toInt dG ≤ 0) → (0 ≤ Int32.toInt dU ∧ Int32.toInt dU ≤ 65535) → (∀ k : Nat, 0 ≤ Int32.toInt (tD k) ∧ Int32.toInt (tD k) ≤ 65535) → (8 - Int32.toInt x3 < n28) → next x1 x2 x3 bQ dG dU uM tD) (x1 x2 x3 bQ dG dU : Int32) (uM tD : Nat → Int32) (h_x1 : 0 ≤ Int32.toInt x1 ∧ Int32.toInt x1 ≤ 255) (h_x2 : -2 ≤ Int32.toInt x2 ∧ Int32.toInt x2 ≤ 7) (h_x3 : 0 ≤ Int32.toInt x3 ∧ Int32.toInt x3 ≤ 8) (h_m_rowMany : 0 ≤ Int32.toInt bQ ∧ Int32.toInt bQ ≤ 16) (h_m_thrown : 0 ≤ Int32.toInt dG ∧ Int32.toInt dG ≤ 0) (h_m_wanted : 0 ≤ Int32.toInt dU ∧ Int32.toInt dU ≤ 65535) (h_m_hand : ∀ k : Nat, 0 ≤ Int32.toInt (tD k) ∧ Int32.toInt (tD k) ≤ 65535) (hn28 : 8 - Int32.toInt x3 ≤ n28) : ws_X10_next_28 post next bW aG rD m_x jA pY rW oY pR pX x1 x2 x3 bQ dG dU uM tD := by
  have l0 := li_m2
  have l1 := li_0
  have l2 := li_1
  have l3 := li_16
  refine And.intro (fun c3 => ?_) (fun c3 => ?_)
  · skip
    have c3 := (fa_le _ _).mp c3
    refine And.intro (fun c4 => ?_) (fun c4 => ?_)
    · skip
      have c4 := (fa_le _ _).mp c4
      intro v5 ev5
      have f7 := ti_shl1 7 128 x2 (by decide) (by omega)
      have f6 := ti_or 8 256 x1 (1 <<< (x2 &&& 31)) (by decide) (by omega) (by omega)
      have hv5 := congrArg Int32.toInt ev5
      refine t_X10_handOf (by omega) h_m_standings h_m_hand (fun r8 h_r8 => ?_)
      intro v9 ev9
      have f11 := ti_andl dU (r8 ^^^ (-1)) (by omega)
      have hv9 := congrArg Int32.toInt ev9
      intro v12 ev12
      have hv12 := congrArg Int32.toInt ev12
      refine t_X10_worthOfAll (by omega) h_m_fruits h_m_worth (fun r14 => ?_)
      refine And.intro (t_in (by omega)) ?_
      intro v15 ev15
      have f16 : Int32.toInt (0 + 1) = Int32.toInt (0 : Int32) + Int32.toInt (1 : Int32) := ta_add _ _ (by omega)
      rw [← ev15] at f16
      refine t_X10_handOf h_x1 h_m_standings h_m_hand (fun r17 h_r17 => ?_)
      intro v18 ev18
      have f20 := ti_andl dU (r17 ^^^ (-1)) (by omega)
      have hv18 := congrArg Int32.toInt ev18
      intro v21 ev21
      have hv21 := congrArg Int32.toInt ev21
      refine t_X10_worthOfAll (by omega) h_m_fruits h_m_worth (fun r22 => ?_)
      refine And.intro (t_in (by omega)) ?_
      intro v23 ev23
      have f24 : Int32.toInt (v15 + 1) = Int32.toInt v15 + Int32.toInt (1 : Int32) := ta_add _ _ (by omega)
      rw [← ev23] at f24
      exact hpost _ _ _ _ _ _ h_x2 (by omega) h_m_thrown h_m_wanted h_m_hand
    · skip
      have c4 := mt (fa_le _ _).mpr c4
      exact hpost _ _ _ _ _ _ (by omega) h_m_rowMany h_m_thrown h_m_wanted h_m_hand
  · skip
    have c3 := mt (fa_le _ _).mpr c3
    intro v25 ev25
    have f26 := ti_shr x1 x3 (by omega)
    have hv25 := congrArg Int32.toInt ev25
    intro v27 ev27
    have f28 := ti_andr v25 1 (by omega)
    have f29 := ti_andl v25 1 (by omega)
    have hv27 := congrArg Int32.toInt ev27
    refine And.intro (fun c30 => ?_) (fun c30 => ?_)
    · skip
      have c30 := mt (fa_eq _ _).mpr c30
      refine And.intro (fun h9 => absurd h9 (by decide)) (fun _ => ?_)
      refine And.intro (fun c31 => ?_) (fun c31 => ?_)
      · skip
        have c31 := (fa_lt _ _).mp c31
        exact ts_X10_next_69 bW aG rD m_x jA pY rW oY pR pX h_m_fruits h_m_standings e0_m_now e1_m_now h_m_x h_m_height h_m_worth h_m_ripe h_m_foot h_m_fork e0_m_told e1_m_told hc0 hc1 hpost hKn x1 x3 bQ dG dU uM tD h_x1 (by omega) h_m_rowMany h_m_thrown h_m_wanted h_m_hand hn28
      · skip
        have c31 := mt (fa_lt _ _).mpr c31
        intro v32 ev32
        have f34 := ti_shl1 7 128 x3 (by decide) (by omega)
        have f33 := ti_or 8 256 x1 (1 <<< (x3 &&& 31)) (by decide) (by omega) (by omega)
        have hv32 := congrArg Int32.toInt ev32
        refine t_X10_handOf (by omega) h_m_standings h_m_hand (fun r35 h_r35 => ?_)
        intro v36 ev36
        have f38 := ti_andl dU (r35 ^^^ (-1)) (by omega)
        have hv36 := congrArg Int32.toInt ev36
        intro v39 ev39
        have hv39 := congrArg Int32.toInt ev39
        refine t_X10_worthOfAll (by omega) h_m_fruits h_m_worth (fun r41 => ?_)
        intro v42 ev42
        have f44 := ti_shl1 7 128 x2 (by decide) (by omega)
        have f43 := ti_or 8 256 x1 (1 <<< (x2 &&& 31)) (by decide) (by omega) (by omega)
        have hv42 := congrArg Int32.toInt ev42
        refine t_X10_handOf (by omega) h_m_standings h_m_hand (fun r45 h_r45 => ?_)
        intro v46 ev46
        have f48 := ti_andl dU (r45 ^^^ (-1)) (by omega)
        have hv46 := congrArg Int32.toInt ev46
        intro v49 ev49
        have hv49 := congrArg Int32.toInt ev49
        refine t_X10_worthOfAll (by omega) h_m_fruits h_m_worth (fun r50 => ?_)
        have f52 := tp_r r41
        have f53 := tp_r r50
        refine And.intro (fun c51 => ?_) (fun c51 => ?_)
        · skip
          have c51 := (fa_le _ _).mp c51
          exact ts_X10_next_71 bW aG rD m_x jA pY rW oY pR pX h_m_fruits h_m_standings e0_m_now e1_m_now h_m_x h_m_height h_m_worth h_m_ripe h_m_foot h_m_fork e0_m_told e1_m_told hc0 hc1 hpost hKn x1 x2 x3 bQ dG dU uM tD h_x1 h_x2 (by omega) h_m_rowMany h_m_thrown h_m_wanted h_m_hand hn28
        · skip
          have c51 := mt (fa_le _ _).mpr c51
          exact ts_X10_next_69 bW aG rD m_x jA pY rW oY pR pX h_m_fruits h_m_standings e0_m_now e1_m_now h_m_x h_m_height h_m_worth h_m_ripe h_m_foot h_m_fork e0_m_told e1_m_told hc0 hc1 hpost hKn x1 x3 bQ dG dU uM tD h_x1 (by omega) h_m_rowMany h_m_thrown h_m_wanted h_m_hand hn28
    · skip
      have c30 := (fa_eq _ _).mp c30
      refine And.intro (fun _ => ?_) (fun h9 => absurd h9 (by decide))
      exact ts_X10_next_71 bW aG rD m_x jA pY rW oY pR pX h_m_fruits h_m_standings e0_m_now e1_m_now h_m_x h_m_height h_m_worth h_m_ripe h_m_foot h_m_fork e0_m_told e1_m_told hc0 hc1 hpost hKn x1 x2 x3 bQ dG dU uM tD h_x1 h_x2 (by omega) h_m_rowMany h_m_thrown h_m_wanted h_m_hand hn28
set_option maxHeartbeats 8000000 in
set_option maxRecDepth 200000 in
theorem tb_X10_next_28 {post : Int32 → Int32 → Int32 → Int32 → (Nat → Int32) → (Nat → Int32) → Prop} {SB : Int} (bW aG : Int32) (rD m_x jA pY rW oY pR pX : Nat → Int32) (h_m_fruits : 0 ≤ Int32.toInt bW ∧ Int32.toInt bW ≤ 16) (h_m_standings : 0 ≤ Int32.toInt aG ∧ Int32.toInt aG ≤ 8) (e0_m_now : ∀ k : Nat, k = 17 → -1 ≤ Int32.toInt (rD k) ∧ Int32.toInt (rD k) ≤ SB) (e1_m_now : ∀ k : Nat, k = 19 → 0 ≤ Int32.toInt (rD k) ∧ Int32.toInt (rD k) ≤ 9) (h_m_x : ∀ k : Nat, 0 ≤ Int32.toInt (m_x k) ∧ Int32.toInt (m_x k) ≤ 99) (h_m_height : ∀ k : Nat, 0 ≤ Int32.toInt (jA k) ∧ Int32.toInt (jA k) ≤ 99) (h_m_worth : ∀ k : Nat, 0 ≤ Int32.toInt (pY k) ∧ Int32.toInt (pY k) ≤ 9) (h_m_ripe : ∀ k : Nat, 0 ≤ Int32.toInt (rW k) ∧ Int32.toInt (rW k) ≤ 9) (h_m_foot : ∀ k : Nat, 0 ≤ Int32.toInt (oY k) ∧ Int32.toInt (oY k) ≤ 99) (h_m_fork : ∀ k : Nat, 0 ≤ Int32.toInt (pR k) ∧ Int32.toInt (pR k) ≤ 99) (e0_m_told : ∀ k : Nat, k = 4 → 1 ≤ Int32.toInt (pX k) ∧ Int32.toInt (pX k) ≤ 30) (e1_m_told : ∀ k : Nat, k = 3 → 0 ≤ Int32.toInt (pX k) ∧ Int32.toInt (pX k) ≤ 9) (hc0 : -1 ≤ SB ∧ SB ≤ 7) (hc1 : (Int32.toInt aG ≤ 0 ∧ SB = 0) ∨ (1 ≤ Int32.toInt aG ∧ SB = Int32.toInt aG - 1)) (hpost : ∀ (r : Int32) (m_rowMany' : Int32) (m_thrown' : Int32) (m_wanted' : Int32) (m_row' : Nat → Int32) (m_hand' : Nat → Int32), (-2 ≤ Int32.toInt r ∧ Int32.toInt r ≤ 7) → (0 ≤ Int32.toInt m_rowMany' ∧ Int32.toInt m_rowMany' ≤ 16) → (0 ≤ Int32.toInt m_thrown' ∧ Int32.toInt m_thrown' ≤ 0) → (0 ≤ Int32.toInt m_wanted' ∧ Int32.toInt m_wanted' ≤ 65535) → (∀ k : Nat, 0 ≤ Int32.toInt (m_hand' k) ∧ Int32.toInt (m_hand' k) ≤ 65535) → post r m_rowMany' m_thrown' m_wanted' m_row' m_hand') : ∀ (n : Nat) (x1 x2 x3 bQ dG dU : Int32) (uM tD : Nat → Int32), (0 ≤ Int32.toInt x1 ∧ Int32.toInt x1 ≤ 255) → (-2 ≤ Int32.toInt x2 ∧ Int32.toInt x2 ≤ 7) → (0 ≤ Int32.toInt x3 ∧ Int32.toInt x3 ≤ 8) → (0 ≤ Int32.toInt bQ ∧ Int32.toInt bQ ≤ 16) → (0 ≤ Int32.toInt dG ∧ Int32.toInt dG ≤ 0) → (0 ≤ Int32.toInt dU ∧ Int32.toInt dU ≤ 65535) → (∀ k : Nat, 0 ≤ Int32.toInt (tD k) ∧ Int32.toInt (tD k) ≤ 65535) → (8 - Int32.toInt x3 < (n : Int)) → wb_X10_next_28 post bW aG rD m_x jA pY rW oY pR pX n x1 x2 x3 bQ dG dU uM tD := by
  intro n
  induction n with
  | zero =>
    intro x1 x2 x3 bQ dG dU uM tD h_x1 h_x2 h_x3 h_m_rowMany h_m_thrown h_m_wanted h_m_hand hm
    exfalso; omega
  | succ n ih =>
    intro x1 x2 x3 bQ dG dU uM tD h_x1 h_x2 h_x3 h_m_rowMany h_m_thrown h_m_wanted h_m_hand hm
    exact ts_X10_next_28 bW aG rD m_x jA pY rW oY pR pX h_m_fruits h_m_standings e0_m_now e1_m_now h_m_x h_m_height h_m_worth h_m_ripe h_m_foot h_m_fork e0_m_told e1_m_told hc0 hc1 hpost ih x1 x2 x3 bQ dG dU uM tD h_x1 h_x2 h_x3 h_m_rowMany h_m_thrown h_m_wanted h_m_hand (by omega)
set_option maxHeartbeats 8000000 in
set_option maxRecDepth 200000 in
theorem t_X10_next {post : Int32 → Int32 → Int32 → Int32 → (Nat → Int32) → (Nat → Int32) → Prop} {SB : Int} {p0 bW aG bQ dG dU : Int32} {rD m_x jA pY rW oY pR pX uM tD : Nat → Int32} (h_m_fruits : 0 ≤ Int32.toInt bW ∧ Int32.toInt bW ≤ 16) (h_m_standings : 0 ≤ Int32.toInt aG ∧ Int32.toInt aG ≤ 8) (h_m_rowMany : 0 ≤ Int32.toInt bQ ∧ Int32.toInt bQ ≤ 16) (h_m_thrown : 0 ≤ Int32.toInt dG ∧ Int32.toInt dG ≤ 1) (h_m_wanted : 0 ≤ Int32.toInt dU ∧ Int32.toInt dU ≤ 65535) (e0_m_now : ∀ k : Nat, k = 17 → -1 ≤ Int32.toInt (rD k) ∧ Int32.toInt (rD k) ≤ SB) (e1_m_now : ∀ k : Nat, k = 19 → 0 ≤ Int32.toInt (rD k) ∧ Int32.toInt (rD k) ≤ 9) (h_m_x : ∀ k : Nat, 0 ≤ Int32.toInt (m_x k) ∧ Int32.toInt (m_x k) ≤ 99) (h_m_height : ∀ k : Nat, 0 ≤ Int32.toInt (jA k) ∧ Int32.toInt (jA k) ≤ 99) (h_m_worth : ∀ k : Nat, 0 ≤ Int32.toInt (pY k) ∧ Int32.toInt (pY k) ≤ 9) (h_m_ripe : ∀ k : Nat, 0 ≤ Int32.toInt (rW k) ∧ Int32.toInt (rW k) ≤ 9) (h_m_foot : ∀ k : Nat, 0 ≤ Int32.toInt (oY k) ∧ Int32.toInt (oY k) ≤ 99) (h_m_fork : ∀ k : Nat, 0 ≤ Int32.toInt (pR k) ∧ Int32.toInt (pR k) ≤ 99) (e0_m_told : ∀ k : Nat, k = 4 → 1 ≤ Int32.toInt (pX k) ∧ Int32.toInt (pX k) ≤ 30) (e1_m_told : ∀ k : Nat, k = 3 → 0 ≤ Int32.toInt (pX k) ∧ Int32.toInt (pX k) ≤ 9) (h_m_hand : ∀ k : Nat, 0 ≤ Int32.toInt (tD k) ∧ Int32.toInt (tD k) ≤ 65535) (hc0 : -1 ≤ SB ∧ SB ≤ 7) (hc1 : (Int32.toInt aG ≤ 0 ∧ SB = 0) ∨ (1 ≤ Int32.toInt aG ∧ SB = Int32.toInt aG - 1)) (hpost : ∀ (r : Int32) (m_rowMany' : Int32) (m_thrown' : Int32) (m_wanted' : Int32) (m_row' : Nat → Int32) (m_hand' : Nat → Int32), (-2 ≤ Int32.toInt r ∧ Int32.toInt r ≤ 7) → (0 ≤ Int32.toInt m_rowMany' ∧ Int32.toInt m_rowMany' ≤ 16) → (0 ≤ Int32.toInt m_thrown' ∧ Int32.toInt m_thrown' ≤ 0) → (0 ≤ Int32.toInt m_wanted' ∧ Int32.toInt m_wanted' ≤ 65535) → (∀ k : Nat, 0 ≤ Int32.toInt (m_hand' k) ∧ Int32.toInt (m_hand' k) ≤ 65535) → post r m_rowMany' m_thrown' m_wanted' m_row' m_hand') : wp_X10_next post p0 bW aG bQ dG dU rD m_x jA pY rW oY pR pX uM tD := by
  have l0 := li_m1
  have l1 := li_m2
  have l2 := li_0
  have l3 := li_1
  have l4 := li_18
  intro v54 ev54
  have f55 := ti_shl1 8 256 aG (by decide) (by omega)
  have hv54 := congrArg Int32.toInt ev54
  have f57 := tp_r p0
  refine And.intro (fun c56 => ?_) (fun c56 => ?_)
  · skip
    have c56 := (fa_lt _ _).mp c56
    refine And.intro (fun h9 => absurd h9 (by decide)) (fun _ => ?_)
    exact hpost _ _ _ _ _ _ (by omega) h_m_rowMany (by omega) h_m_wanted h_m_hand
  · skip
    have c56 := mt (fa_lt _ _).mpr c56
    have f59 : Int32.toInt (v54 - 1) = Int32.toInt v54 - Int32.toInt (1 : Int32) := ta_sub _ _ (by omega)
    refine And.intro (fun c58 => ?_) (fun c58 => ?_)
    · skip
      have c58 := (fa_lt _ _).mp c58
      refine And.intro (fun h9 => absurd h9 (by decide)) (fun _ => ?_)
      exact hpost _ _ _ _ _ _ (by omega) h_m_rowMany (by omega) h_m_wanted h_m_hand
    · skip
      have c58 := mt (fa_lt _ _).mpr c58
      refine And.intro (fun _ => ?_) (fun h9 => absurd h9 (by decide))
      intro v60 ev60
      have hv60 := congrArg Int32.toInt ev60
      refine t_X10_layHands_ h_m_fruits h_m_standings h_m_wanted e0_m_now e1_m_now h_m_x h_m_height h_m_ripe h_m_foot h_m_fork e0_m_told e1_m_told h_m_hand (by omega) (by omega) (fun m_wanted_62 m_hand_63 h_m_wanted_62 h_m_hand_63 => ?_)
      exact ⟨10, tb_X10_next_28 bW aG rD m_x jA pY rW oY pR pX h_m_fruits h_m_standings e0_m_now e1_m_now h_m_x h_m_height h_m_worth h_m_ripe h_m_foot h_m_fork e0_m_told e1_m_told hc0 hc1 hpost _ p0 (-2) 0 bQ 0 m_wanted_62 uM m_hand_63 (by omega) (by omega) (by omega) h_m_rowMany (by omega) h_m_wanted_62 h_m_hand_63 (by omega)⟩
set_option maxHeartbeats 8000000 in
set_option maxRecDepth 200000 in
theorem ts_X10_layMoves_113 {post : (Nat → Int32) → Prop} {K2 : Int32 → (Nat → Int32) → Prop} {K12 : Int32 → Int32 → (Nat → Int32) → Prop} {K58 : Int32 → Int32 → Int32 → Int32 → (Nat → Int32) → Prop} {n2 n12 n58 : Int} (aG : Int32) (oY pX : Nat → Int32) (h_m_standings : 0 ≤ Int32.toInt aG ∧ Int32.toInt aG ≤ 8) (h_m_foot : ∀ k : Nat, 0 ≤ Int32.toInt (oY k) ∧ Int32.toInt (oY k) ≤ 99) (e0_m_told : ∀ k : Nat, k = 4 → 1 ≤ Int32.toInt (pX k) ∧ Int32.toInt (pX k) ≤ 30) (e1_m_told : ∀ k : Nat, k = 3 → 0 ≤ Int32.toInt (pX k) ∧ Int32.toInt (pX k) ≤ 9) (hpost : ∀ (m_moves' : Nat → Int32), (∀ k : Nat, 0 ≤ Int32.toInt (m_moves' k) ∧ Int32.toInt (m_moves' k) ≤ 1000000) → (MVT m_moves' oY pX aG) → post m_moves') (hK2 : ∀ (x1 : Int32) (uG : Nat → Int32), (0 ≤ Int32.toInt x1 ∧ Int32.toInt x1 ≤ 256) → (∀ k : Nat, 0 ≤ Int32.toInt (uG k) ∧ Int32.toInt (uG k) ≤ 1000000) → (MVa uG oY pX aG x1) → (256 - Int32.toInt x1 < n2) → K2 x1 uG) (hK12 : ∀ (x1 : Int32) (x2 : Int32) (uG : Nat → Int32), (0 ≤ Int32.toInt x1 ∧ Int32.toInt x1 ≤ 255) → (0 ≤ Int32.toInt x2 ∧ Int32.toInt x2 ≤ 9) → (∀ k : Nat, 0 ≤ Int32.toInt (uG k) ∧ Int32.toInt (uG k) ≤ 1000000) → (MVb uG oY pX aG x1 x2) → (LB x1 aG) → (256 - Int32.toInt x1 ≤ n2) → (9 - Int32.toInt x2 < n12) → K12 x1 x2 uG) (hK58 : ∀ (x1 : Int32) (x2 : Int32) (x3 : Int32) (x4 : Int32) (uG : Nat → Int32), (0 ≤ Int32.toInt x1 ∧ Int32.toInt x1 ≤ 255) → (0 ≤ Int32.toInt x2 ∧ Int32.toInt x2 ≤ 8) → (0 ≤ Int32.toInt x3 ∧ Int32.toInt x3 ≤ 1000000) → (0 ≤ Int32.toInt x4 ∧ Int32.toInt x4 ≤ 8) → (∀ k : Nat, 0 ≤ Int32.toInt (uG k) ∧ Int32.toInt (uG k) ≤ 1000000) → (MVb uG oY pX aG x1 x2) → (LB x1 aG) → (VAL aG x2 x1) → (PB uG oY pX x1 x2 x4 x3) → (Int32.toInt x4 ≤ Int32.toInt aG) → (256 - Int32.toInt x1 ≤ n2) → (9 - Int32.toInt x2 ≤ n12) → (8 - Int32.toInt x4 < n58) → K58 x1 x2 x3 x4 uG) (x1 x2 x3 x4 : Int32) (uG : Nat → Int32) (h_x1 : 0 ≤ Int32.toInt x1 ∧ Int32.toInt x1 ≤ 255) (h_x2 : 0 ≤ Int32.toInt x2 ∧ Int32.toInt x2 ≤ 8) (h_x3 : 0 ≤ Int32.toInt x3 ∧ Int32.toInt x3 ≤ 1000000) (h_x4 : 0 ≤ Int32.toInt x4 ∧ Int32.toInt x4 ≤ 7) (h_m_moves : ∀ k : Nat, 0 ≤ Int32.toInt (uG k) ∧ Int32.toInt (uG k) ≤ 1000000) (hx0 : MVb uG oY pX aG x1 x2) (hx1 : LB x1 aG) (hx2 : VAL aG x2 x1) (hx3 : PB1 uG oY pX x1 x2 x4 x3) (hx4 : Int32.toInt x4 < Int32.toInt aG) (hn2 : 256 - Int32.toInt x1 ≤ n2) (hn12 : 9 - Int32.toInt x2 ≤ n12) (hn58 : 8 - Int32.toInt x4 ≤ n58) : ws_X10_layMoves_113 post K2 K12 K58 aG oY pX x1 x2 x3 x4 uG := by
  have l0 := li_1
  intro v1 ev1
  have f2 : Int32.toInt (x4 + 1) = Int32.toInt x4 + Int32.toInt (1 : Int32) := ta_add _ _ (by omega)
  rw [← ev1] at f2
  exact hK58 x1 x2 x3 v1 uG h_x1 h_x2 h_x3 (by omega) h_m_moves (by first | assumption | exact MVb_0 (by assumption) | exact MVb_s (by assumption) (by omega)) (by first | assumption | exact LB_of (by assumption) (by omega) (by omega) (by omega)) (by first | assumption | exact VAL_8 (by omega) | exact VAL_b (by omega) (by omega) (by assumption) (by assumption) (by assumption)) (by first | assumption | exact PB_init (by omega) | exact PB_s (by assumption) (by omega)) (by omega) hn2 hn12 (by omega)
set_option maxHeartbeats 8000000 in
set_option maxRecDepth 200000 in
theorem ts_X10_layMoves_89 {post : (Nat → Int32) → Prop} {K2 : Int32 → (Nat → Int32) → Prop} {K12 : Int32 → Int32 → (Nat → Int32) → Prop} {K58 : Int32 → Int32 → Int32 → Int32 → (Nat → Int32) → Prop} {n2 n12 n58 : Int} (aG : Int32) (oY pX : Nat → Int32) (h_m_standings : 0 ≤ Int32.toInt aG ∧ Int32.toInt aG ≤ 8) (h_m_foot : ∀ k : Nat, 0 ≤ Int32.toInt (oY k) ∧ Int32.toInt (oY k) ≤ 99) (e0_m_told : ∀ k : Nat, k = 4 → 1 ≤ Int32.toInt (pX k) ∧ Int32.toInt (pX k) ≤ 30) (e1_m_told : ∀ k : Nat, k = 3 → 0 ≤ Int32.toInt (pX k) ∧ Int32.toInt (pX k) ≤ 9) (hpost : ∀ (m_moves' : Nat → Int32), (∀ k : Nat, 0 ≤ Int32.toInt (m_moves' k) ∧ Int32.toInt (m_moves' k) ≤ 1000000) → (MVT m_moves' oY pX aG) → post m_moves') (hK2 : ∀ (x1 : Int32) (uG : Nat → Int32), (0 ≤ Int32.toInt x1 ∧ Int32.toInt x1 ≤ 256) → (∀ k : Nat, 0 ≤ Int32.toInt (uG k) ∧ Int32.toInt (uG k) ≤ 1000000) → (MVa uG oY pX aG x1) → (256 - Int32.toInt x1 < n2) → K2 x1 uG) (hK12 : ∀ (x1 : Int32) (x2 : Int32) (uG : Nat → Int32), (0 ≤ Int32.toInt x1 ∧ Int32.toInt x1 ≤ 255) → (0 ≤ Int32.toInt x2 ∧ Int32.toInt x2 ≤ 9) → (∀ k : Nat, 0 ≤ Int32.toInt (uG k) ∧ Int32.toInt (uG k) ≤ 1000000) → (MVb uG oY pX aG x1 x2) → (LB x1 aG) → (256 - Int32.toInt x1 ≤ n2) → (9 - Int32.toInt x2 < n12) → K12 x1 x2 uG) (hK58 : ∀ (x1 : Int32) (x2 : Int32) (x3 : Int32) (x4 : Int32) (uG : Nat → Int32), (0 ≤ Int32.toInt x1 ∧ Int32.toInt x1 ≤ 255) → (0 ≤ Int32.toInt x2 ∧ Int32.toInt x2 ≤ 8) → (0 ≤ Int32.toInt x3 ∧ Int32.toInt x3 ≤ 1000000) → (0 ≤ Int32.toInt x4 ∧ Int32.toInt x4 ≤ 8) → (∀ k : Nat, 0 ≤ Int32.toInt (uG k) ∧ Int32.toInt (uG k) ≤ 1000000) → (MVb uG oY pX aG x1 x2) → (LB x1 aG) → (VAL aG x2 x1) → (PB uG oY pX x1 x2 x4 x3) → (Int32.toInt x4 ≤ Int32.toInt aG) → (256 - Int32.toInt x1 ≤ n2) → (9 - Int32.toInt x2 ≤ n12) → (8 - Int32.toInt x4 < n58) → K58 x1 x2 x3 x4 uG) (x1 x2 x4 k0 k2 : Int32) (uG : Nat → Int32) (h_x1 : 0 ≤ Int32.toInt x1 ∧ Int32.toInt x1 ≤ 255) (h_x2 : 0 ≤ Int32.toInt x2 ∧ Int32.toInt x2 ≤ 8) (h_x4 : 0 ≤ Int32.toInt x4 ∧ Int32.toInt x4 ≤ 7) (h_k0 : 0 ≤ Int32.toInt k0 ∧ Int32.toInt k0 ≤ 1000000) (h_k2 : -1 ≤ Int32.toInt k2 ∧ Int32.toInt k2 ≤ 7) (h_m_moves : ∀ k : Nat, 0 ≤ Int32.toInt (uG k) ∧ Int32.toInt (uG k) ≤ 1000000) (hx0 : MVb uG oY pX aG x1 x2) (hx1 : LB x1 aG) (hx2 : VAL aG x2 x1) (hx3 : PB uG oY pX x1 x2 x4 k0) (hx4 : bt x1 (Int32.toInt x4).toNat = true) (hx5 : (Int32.toInt x2 = 8 ∧ Int32.toInt k2 = -1) ∨ (Int32.toInt x2 ≠ 8 ∧ Int32.toInt k2 = Int32.toInt x2)) (hx6 : Int32.toInt x4 < Int32.toInt aG) (hn2 : 256 - Int32.toInt x1 ≤ n2) (hn12 : 9 - Int32.toInt x2 ≤ n12) (hn58 : 8 - Int32.toInt x4 ≤ n58) : ws_X10_layMoves_89 post K2 K12 K58 aG oY pX x1 x2 x4 k0 k2 uG := by
  refine t_X10_moveOf h_k2 h_x4 h_m_foot e0_m_told e1_m_told (by omega) (by omega) (fun r3 h_r3 ox4 => ?_)
  intro v5 ev5
  have f6 := ti_shl1 7 128 x4 (by decide) (by omega)
  have hv5 := congrArg Int32.toInt ev5
  intro v7 ev7
  have f9 := ti_andl x1 (v5 ^^^ (-1)) (by omega)
  have hv7 := congrArg Int32.toInt ev7
  intro v10 ev10
  have f11 := ti_shl8 x4 (by omega)
  have hv10 := congrArg Int32.toInt ev10
  intro v12 ev12
  have f13 : Int32.toInt (v10 + v7) = Int32.toInt v10 + Int32.toInt v7 := ta_add _ _ (by omega)
  rw [← ev12] at f13
  refine And.intro (t_in (by omega)) ?_
  intro v14 ev14
  have f16 := h_m_moves v12.toNatClampNeg
  have f15 : Int32.toInt (r3 + (uG v12.toNatClampNeg)) = Int32.toInt r3 + Int32.toInt (uG v12.toNatClampNeg) := ta_add _ _ (by omega)
  rw [← ev14] at f15
  intro v17 ev17
  have f18 := ti_min k0 v14
  have hv17 := congrArg Int32.toInt ev17
  exact ts_X10_layMoves_113 aG oY pX h_m_standings h_m_foot e0_m_told e1_m_told hpost hK2 hK12 hK58 x1 x2 v17 x4 uG h_x1 h_x2 (by omega) h_x4 h_m_moves (by first | assumption | exact MVb_0 (by assumption) | exact MVb_s (by assumption) (by omega)) (by first | assumption | exact LB_of (by assumption) (by omega) (by omega) (by omega)) (by first | assumption | exact VAL_8 (by omega) | exact VAL_b (by omega) (by omega) (by assumption) (by assumption) (by assumption)) (by first | assumption | exact PB_skip (by assumption) (by omega) (by assumption) (by assumption) (by assumption) | exact PB_add (by assumption) (by assumption) (by assumption) (by assumption) (by omega) (by assumption) (by assumption) (by assumption) (by omega) (by assumption) (by omega) (by omega) (by omega) h_m_foot e1_m_told) hx6 hn2 hn12 hn58
set_option maxHeartbeats 8000000 in
set_option maxRecDepth 200000 in
theorem ts_X10_layMoves_131 {post : (Nat → Int32) → Prop} {K2 : Int32 → (Nat → Int32) → Prop} {K12 : Int32 → Int32 → (Nat → Int32) → Prop} {n2 n12 : Int} (aG : Int32) (oY pX : Nat → Int32) (h_m_standings : 0 ≤ Int32.toInt aG ∧ Int32.toInt aG ≤ 8) (h_m_foot : ∀ k : Nat, 0 ≤ Int32.toInt (oY k) ∧ Int32.toInt (oY k) ≤ 99) (e0_m_told : ∀ k : Nat, k = 4 → 1 ≤ Int32.toInt (pX k) ∧ Int32.toInt (pX k) ≤ 30) (e1_m_told : ∀ k : Nat, k = 3 → 0 ≤ Int32.toInt (pX k) ∧ Int32.toInt (pX k) ≤ 9) (hpost : ∀ (m_moves' : Nat → Int32), (∀ k : Nat, 0 ≤ Int32.toInt (m_moves' k) ∧ Int32.toInt (m_moves' k) ≤ 1000000) → (MVT m_moves' oY pX aG) → post m_moves') (hK2 : ∀ (x1 : Int32) (uG : Nat → Int32), (0 ≤ Int32.toInt x1 ∧ Int32.toInt x1 ≤ 256) → (∀ k : Nat, 0 ≤ Int32.toInt (uG k) ∧ Int32.toInt (uG k) ≤ 1000000) → (MVa uG oY pX aG x1) → (256 - Int32.toInt x1 < n2) → K2 x1 uG) (hK12 : ∀ (x1 : Int32) (x2 : Int32) (uG : Nat → Int32), (0 ≤ Int32.toInt x1 ∧ Int32.toInt x1 ≤ 255) → (0 ≤ Int32.toInt x2 ∧ Int32.toInt x2 ≤ 9) → (∀ k : Nat, 0 ≤ Int32.toInt (uG k) ∧ Int32.toInt (uG k) ≤ 1000000) → (MVb uG oY pX aG x1 x2) → (LB x1 aG) → (256 - Int32.toInt x1 ≤ n2) → (9 - Int32.toInt x2 < n12) → K12 x1 x2 uG) (x1 x2 : Int32) (uG : Nat → Int32) (h_x1 : 0 ≤ Int32.toInt x1 ∧ Int32.toInt x1 ≤ 255) (h_x2 : 0 ≤ Int32.toInt x2 ∧ Int32.toInt x2 ≤ 8) (h_m_moves : ∀ k : Nat, 0 ≤ Int32.toInt (uG k) ∧ Int32.toInt (uG k) ≤ 1000000) (hx0 : MVb1 uG oY pX aG x1 x2) (hx1 : LB x1 aG) (hn2 : 256 - Int32.toInt x1 ≤ n2) (hn12 : 9 - Int32.toInt x2 ≤ n12) : ws_X10_layMoves_131 post K2 K12 aG oY pX x1 x2 uG := by
  have l0 := li_1
  intro v19 ev19
  have f20 : Int32.toInt (x2 + 1) = Int32.toInt x2 + Int32.toInt (1 : Int32) := ta_add _ _ (by omega)
  rw [← ev19] at f20
  exact hK12 x1 v19 uG h_x1 (by omega) h_m_moves (by first | assumption | exact MVb_0 (by assumption) | exact MVb_s (by assumption) (by omega)) (by first | assumption | exact LB_of (by assumption) (by omega) (by omega) (by omega)) hn2 (by omega)
set_option maxHeartbeats 8000000 in
set_option maxRecDepth 200000 in
theorem ts_X10_layMoves_58 {post : (Nat → Int32) → Prop} {K2 : Int32 → (Nat → Int32) → Prop} {K12 : Int32 → Int32 → (Nat → Int32) → Prop} {next : Int32 → Int32 → Int32 → Int32 → (Nat → Int32) → Prop} {n58 n2 n12 : Int} (aG : Int32) (oY pX : Nat → Int32) (h_m_standings : 0 ≤ Int32.toInt aG ∧ Int32.toInt aG ≤ 8) (h_m_foot : ∀ k : Nat, 0 ≤ Int32.toInt (oY k) ∧ Int32.toInt (oY k) ≤ 99) (e0_m_told : ∀ k : Nat, k = 4 → 1 ≤ Int32.toInt (pX k) ∧ Int32.toInt (pX k) ≤ 30) (e1_m_told : ∀ k : Nat, k = 3 → 0 ≤ Int32.toInt (pX k) ∧ Int32.toInt (pX k) ≤ 9) (hpost : ∀ (m_moves' : Nat → Int32), (∀ k : Nat, 0 ≤ Int32.toInt (m_moves' k) ∧ Int32.toInt (m_moves' k) ≤ 1000000) → (MVT m_moves' oY pX aG) → post m_moves') (hK2 : ∀ (x1 : Int32) (uG : Nat → Int32), (0 ≤ Int32.toInt x1 ∧ Int32.toInt x1 ≤ 256) → (∀ k : Nat, 0 ≤ Int32.toInt (uG k) ∧ Int32.toInt (uG k) ≤ 1000000) → (MVa uG oY pX aG x1) → (256 - Int32.toInt x1 < n2) → K2 x1 uG) (hK12 : ∀ (x1 : Int32) (x2 : Int32) (uG : Nat → Int32), (0 ≤ Int32.toInt x1 ∧ Int32.toInt x1 ≤ 255) → (0 ≤ Int32.toInt x2 ∧ Int32.toInt x2 ≤ 9) → (∀ k : Nat, 0 ≤ Int32.toInt (uG k) ∧ Int32.toInt (uG k) ≤ 1000000) → (MVb uG oY pX aG x1 x2) → (LB x1 aG) → (256 - Int32.toInt x1 ≤ n2) → (9 - Int32.toInt x2 < n12) → K12 x1 x2 uG) (hKn : ∀ (x1 : Int32) (x2 : Int32) (x3 : Int32) (x4 : Int32) (uG : Nat → Int32), (0 ≤ Int32.toInt x1 ∧ Int32.toInt x1 ≤ 255) → (0 ≤ Int32.toInt x2 ∧ Int32.toInt x2 ≤ 8) → (0 ≤ Int32.toInt x3 ∧ Int32.toInt x3 ≤ 1000000) → (0 ≤ Int32.toInt x4 ∧ Int32.toInt x4 ≤ 8) → (∀ k : Nat, 0 ≤ Int32.toInt (uG k) ∧ Int32.toInt (uG k) ≤ 1000000) → (MVb uG oY pX aG x1 x2) → (LB x1 aG) → (VAL aG x2 x1) → (PB uG oY pX x1 x2 x4 x3) → (Int32.toInt x4 ≤ Int32.toInt aG) → (256 - Int32.toInt x1 ≤ n2) → (9 - Int32.toInt x2 ≤ n12) → (8 - Int32.toInt x4 < n58) → next x1 x2 x3 x4 uG) (x1 x2 x3 x4 : Int32) (uG : Nat → Int32) (h_x1 : 0 ≤ Int32.toInt x1 ∧ Int32.toInt x1 ≤ 255) (h_x2 : 0 ≤ Int32.toInt x2 ∧ Int32.toInt x2 ≤ 8) (h_x3 : 0 ≤ Int32.toInt x3 ∧ Int32.toInt x3 ≤ 1000000) (h_x4 : 0 ≤ Int32.toInt x4 ∧ Int32.toInt x4 ≤ 8) (h_m_moves : ∀ k : Nat, 0 ≤ Int32.toInt (uG k) ∧ Int32.toInt (uG k) ≤ 1000000) (hx0 : MVb uG oY pX aG x1 x2) (hx1 : LB x1 aG) (hx2 : VAL aG x2 x1) (hx3 : PB uG oY pX x1 x2 x4 x3) (hx4 : Int32.toInt x4 ≤ Int32.toInt aG) (hn2 : 256 - Int32.toInt x1 ≤ n2) (hn12 : 9 - Int32.toInt x2 ≤ n12) (hn58 : 8 - Int32.toInt x4 ≤ n58) : ws_X10_layMoves_58 post K2 K12 next aG oY pX x1 x2 x3 x4 uG := by
  have l0 := li_m1
  have l1 := li_1
  have l2 := li_8
  refine And.intro (fun c21 => ?_) (fun c21 => ?_)
  · skip
    have c21 := (fa_le _ _).mp c21
    intro v22 ev22
    have f23 := ti_shl8 x2 (by omega)
    have hv22 := congrArg Int32.toInt ev22
    intro v24 ev24
    have f25 : Int32.toInt (v22 + x1) = Int32.toInt v22 + Int32.toInt x1 := ta_add _ _ (by omega)
    rw [← ev24] at f25
    refine And.intro (t_in (by omega)) ?_
    have a26 : ∀ k : Nat, 0 ≤ Int32.toInt ((upd uG v24.toNatClampNeg x3) k) ∧ Int32.toInt ((upd uG v24.toNatClampNeg x3) k) ≤ 1000000 := t_upd (fun k => by have q9 := h_m_moves k; omega) (by omega)
    exact ts_X10_layMoves_131 aG oY pX h_m_standings h_m_foot e0_m_told e1_m_told hpost hK2 hK12 x1 x2 (upd uG v24.toNatClampNeg x3) h_x1 h_x2 (fun k => by have q9 := a26 k; omega) (by first | assumption | exact MVb1_sk1 (by assumption) (by omega) (by omega) | exact MVb1_sk2 (by assumption) (by omega) (by assumption) (by assumption) (by assumption) | exact MVb1_up (by assumption) (by assumption) (by assumption) (by assumption) (by omega) (by omega) (by omega) (by omega) (by omega) (by omega) h_m_foot e1_m_told) (by first | assumption | exact LB_of (by assumption) (by omega) (by omega) (by omega)) hn2 hn12
  · skip
    have c21 := mt (fa_le _ _).mpr c21
    intro v27 ev27
    have f28 := ti_shr x1 x4 (by omega)
    have hv27 := congrArg Int32.toInt ev27
    intro v29 ev29
    have f30 := ti_andr v27 1 (by omega)
    have f31 := ti_andl v27 1 (by omega)
    have hv29 := congrArg Int32.toInt ev29
    refine And.intro (fun c32 => ?_) (fun c32 => ?_)
    · skip
      have c32 := mt (fa_eq _ _).mpr c32
      refine And.intro (fun _ => ?_) (fun h9 => absurd h9 (by decide))
      exact ts_X10_layMoves_113 aG oY pX h_m_standings h_m_foot e0_m_told e1_m_told hpost hK2 hK12 hKn x1 x2 x3 x4 uG h_x1 h_x2 h_x3 (by omega) h_m_moves (by first | assumption | exact MVb_0 (by assumption) | exact MVb_s (by assumption) (by omega)) (by first | assumption | exact LB_of (by assumption) (by omega) (by omega) (by omega)) (by first | assumption | exact VAL_8 (by omega) | exact VAL_b (by omega) (by omega) (by assumption) (by assumption) (by assumption)) (by first | assumption | exact PB_skip (by assumption) (by omega) (by assumption) (by assumption) (by assumption) | exact PB_add (by assumption) (by assumption) (by assumption) (by assumption) (by omega) (by assumption) (by assumption) (by assumption) (by omega) (by assumption) (by omega) (by omega) (by omega) h_m_foot e1_m_told) (by omega) hn2 hn12 hn58
    · skip
      have c32 := (fa_eq _ _).mp c32
      refine And.intro (fun h9 => absurd h9 (by decide)) (fun _ => ?_)
      refine And.intro (fun c33 => ?_) (fun c33 => ?_)
      · skip
        have c33 := mt (fa_eq _ _).mpr c33
        exact ts_X10_layMoves_89 aG oY pX h_m_standings h_m_foot e0_m_told e1_m_told hpost hK2 hK12 hKn x1 x2 x4 x3 x2 uG h_x1 h_x2 (by omega) h_x3 (by omega) h_m_moves (by first | assumption | exact MVb_0 (by assumption) | exact MVb_s (by assumption) (by omega)) (by first | assumption | exact LB_of (by assumption) (by omega) (by omega) (by omega)) (by first | assumption | exact VAL_8 (by omega) | exact VAL_b (by omega) (by omega) (by assumption) (by assumption) (by assumption)) (by first | assumption ) (has_1 (by assumption) (by assumption) (by assumption) (by omega)) (by omega) (by omega) hn2 hn12 hn58
      · skip
        have c33 := (fa_eq _ _).mp c33
        exact ts_X10_layMoves_89 aG oY pX h_m_standings h_m_foot e0_m_told e1_m_told hpost hK2 hK12 hKn x1 x2 x4 x3 (-1) uG h_x1 h_x2 (by omega) h_x3 (by omega) h_m_moves (by first | assumption | exact MVb_0 (by assumption) | exact MVb_s (by assumption) (by omega)) (by first | assumption | exact LB_of (by assumption) (by omega) (by omega) (by omega)) (by first | assumption | exact VAL_8 (by omega) | exact VAL_b (by omega) (by omega) (by assumption) (by assumption) (by assumption)) (by first | assumption ) (has_1 (by assumption) (by assumption) (by assumption) (by omega)) (by omega) (by omega) hn2 hn12 hn58
set_option maxHeartbeats 8000000 in
set_option maxRecDepth 200000 in
theorem tb_X10_layMoves_58 {post : (Nat → Int32) → Prop} {K2 : Int32 → (Nat → Int32) → Prop} {K12 : Int32 → Int32 → (Nat → Int32) → Prop} {n2 n12 : Int} (aG : Int32) (oY pX : Nat → Int32) (h_m_standings : 0 ≤ Int32.toInt aG ∧ Int32.toInt aG ≤ 8) (h_m_foot : ∀ k : Nat, 0 ≤ Int32.toInt (oY k) ∧ Int32.toInt (oY k) ≤ 99) (e0_m_told : ∀ k : Nat, k = 4 → 1 ≤ Int32.toInt (pX k) ∧ Int32.toInt (pX k) ≤ 30) (e1_m_told : ∀ k : Nat, k = 3 → 0 ≤ Int32.toInt (pX k) ∧ Int32.toInt (pX k) ≤ 9) (hpost : ∀ (m_moves' : Nat → Int32), (∀ k : Nat, 0 ≤ Int32.toInt (m_moves' k) ∧ Int32.toInt (m_moves' k) ≤ 1000000) → (MVT m_moves' oY pX aG) → post m_moves') (hK2 : ∀ (x1 : Int32) (uG : Nat → Int32), (0 ≤ Int32.toInt x1 ∧ Int32.toInt x1 ≤ 256) → (∀ k : Nat, 0 ≤ Int32.toInt (uG k) ∧ Int32.toInt (uG k) ≤ 1000000) → (MVa uG oY pX aG x1) → (256 - Int32.toInt x1 < n2) → K2 x1 uG) (hK12 : ∀ (x1 : Int32) (x2 : Int32) (uG : Nat → Int32), (0 ≤ Int32.toInt x1 ∧ Int32.toInt x1 ≤ 255) → (0 ≤ Int32.toInt x2 ∧ Int32.toInt x2 ≤ 9) → (∀ k : Nat, 0 ≤ Int32.toInt (uG k) ∧ Int32.toInt (uG k) ≤ 1000000) → (MVb uG oY pX aG x1 x2) → (LB x1 aG) → (256 - Int32.toInt x1 ≤ n2) → (9 - Int32.toInt x2 < n12) → K12 x1 x2 uG) : ∀ (n : Nat) (x1 x2 x3 x4 : Int32) (uG : Nat → Int32), (0 ≤ Int32.toInt x1 ∧ Int32.toInt x1 ≤ 255) → (0 ≤ Int32.toInt x2 ∧ Int32.toInt x2 ≤ 8) → (0 ≤ Int32.toInt x3 ∧ Int32.toInt x3 ≤ 1000000) → (0 ≤ Int32.toInt x4 ∧ Int32.toInt x4 ≤ 8) → (∀ k : Nat, 0 ≤ Int32.toInt (uG k) ∧ Int32.toInt (uG k) ≤ 1000000) → (MVb uG oY pX aG x1 x2) → (LB x1 aG) → (VAL aG x2 x1) → (PB uG oY pX x1 x2 x4 x3) → (Int32.toInt x4 ≤ Int32.toInt aG) → (256 - Int32.toInt x1 ≤ n2) → (9 - Int32.toInt x2 ≤ n12) → (8 - Int32.toInt x4 < (n : Int)) → wb_X10_layMoves_58 post K2 K12 aG oY pX n x1 x2 x3 x4 uG := by
  intro n
  induction n with
  | zero =>
    intro x1 x2 x3 x4 uG h_x1 h_x2 h_x3 h_x4 h_m_moves hx0 hx1 hx2 hx3 hx4 hn2 hn12 hm
    exfalso; omega
  | succ n ih =>
    intro x1 x2 x3 x4 uG h_x1 h_x2 h_x3 h_x4 h_m_moves hx0 hx1 hx2 hx3 hx4 hn2 hn12 hm
    exact ts_X10_layMoves_58 aG oY pX h_m_standings h_m_foot e0_m_told e1_m_told hpost hK2 hK12 ih x1 x2 x3 x4 uG h_x1 h_x2 h_x3 h_x4 h_m_moves hx0 hx1 hx2 hx3 hx4 hn2 hn12 (by omega)
set_option maxHeartbeats 8000000 in
set_option maxRecDepth 200000 in
theorem ts_X10_layMoves_54 {post : (Nat → Int32) → Prop} {K2 : Int32 → (Nat → Int32) → Prop} {K12 : Int32 → Int32 → (Nat → Int32) → Prop} {n2 n12 : Int} (aG : Int32) (oY pX : Nat → Int32) (h_m_standings : 0 ≤ Int32.toInt aG ∧ Int32.toInt aG ≤ 8) (h_m_foot : ∀ k : Nat, 0 ≤ Int32.toInt (oY k) ∧ Int32.toInt (oY k) ≤ 99) (e0_m_told : ∀ k : Nat, k = 4 → 1 ≤ Int32.toInt (pX k) ∧ Int32.toInt (pX k) ≤ 30) (e1_m_told : ∀ k : Nat, k = 3 → 0 ≤ Int32.toInt (pX k) ∧ Int32.toInt (pX k) ≤ 9) (hpost : ∀ (m_moves' : Nat → Int32), (∀ k : Nat, 0 ≤ Int32.toInt (m_moves' k) ∧ Int32.toInt (m_moves' k) ≤ 1000000) → (MVT m_moves' oY pX aG) → post m_moves') (hK2 : ∀ (x1 : Int32) (uG : Nat → Int32), (0 ≤ Int32.toInt x1 ∧ Int32.toInt x1 ≤ 256) → (∀ k : Nat, 0 ≤ Int32.toInt (uG k) ∧ Int32.toInt (uG k) ≤ 1000000) → (MVa uG oY pX aG x1) → (256 - Int32.toInt x1 < n2) → K2 x1 uG) (hK12 : ∀ (x1 : Int32) (x2 : Int32) (uG : Nat → Int32), (0 ≤ Int32.toInt x1 ∧ Int32.toInt x1 ≤ 255) → (0 ≤ Int32.toInt x2 ∧ Int32.toInt x2 ≤ 9) → (∀ k : Nat, 0 ≤ Int32.toInt (uG k) ∧ Int32.toInt (uG k) ≤ 1000000) → (MVb uG oY pX aG x1 x2) → (LB x1 aG) → (256 - Int32.toInt x1 ≤ n2) → (9 - Int32.toInt x2 < n12) → K12 x1 x2 uG) (x1 x2 k0 : Int32) (uG : Nat → Int32) (h_x1 : 0 ≤ Int32.toInt x1 ∧ Int32.toInt x1 ≤ 255) (h_x2 : 0 ≤ Int32.toInt x2 ∧ Int32.toInt x2 ≤ 8) (h_k0 : 0 ≤ Int32.toInt k0 ∧ Int32.toInt k0 ≤ 1000000) (h_m_moves : ∀ k : Nat, 0 ≤ Int32.toInt (uG k) ∧ Int32.toInt (uG k) ≤ 1000000) (hx0 : MVb uG oY pX aG x1 x2) (hx1 : LB x1 aG) (hx2 : VAL aG x2 x1) (hx3 : (Int32.toInt x1 = 0 ∧ Int32.toInt k0 = 0) ∨ (Int32.toInt x1 ≠ 0 ∧ Int32.toInt k0 = 1000000)) (hn2 : 256 - Int32.toInt x1 ≤ n2) (hn12 : 9 - Int32.toInt x2 ≤ n12) : ws_X10_layMoves_54 post K2 K12 aG oY pX x1 x2 k0 uG := by
  have l0 := li_0
  exact ⟨10, tb_X10_layMoves_58 aG oY pX h_m_standings h_m_foot e0_m_told e1_m_told hpost hK2 hK12 _ x1 x2 k0 0 uG h_x1 h_x2 h_k0 (by omega) h_m_moves (by first | assumption | exact MVb_0 (by assumption) | exact MVb_s (by assumption) (by omega)) (by first | assumption | exact LB_of (by assumption) (by omega) (by omega) (by omega)) (by first | assumption | exact VAL_8 (by omega) | exact VAL_b (by omega) (by omega) (by assumption) (by assumption) (by assumption)) (by first | assumption | exact PB_init (by omega) | exact PB_s (by assumption) (by omega)) (by omega) hn2 hn12 (by omega)⟩
set_option maxHeartbeats 8000000 in
set_option maxRecDepth 200000 in
theorem ts_X10_layMoves_43 {post : (Nat → Int32) → Prop} {K2 : Int32 → (Nat → Int32) → Prop} {K12 : Int32 → Int32 → (Nat → Int32) → Prop} {n2 n12 : Int} (aG : Int32) (oY pX : Nat → Int32) (h_m_standings : 0 ≤ Int32.toInt aG ∧ Int32.toInt aG ≤ 8) (h_m_foot : ∀ k : Nat, 0 ≤ Int32.toInt (oY k) ∧ Int32.toInt (oY k) ≤ 99) (e0_m_told : ∀ k : Nat, k = 4 → 1 ≤ Int32.toInt (pX k) ∧ Int32.toInt (pX k) ≤ 30) (e1_m_told : ∀ k : Nat, k = 3 → 0 ≤ Int32.toInt (pX k) ∧ Int32.toInt (pX k) ≤ 9) (hpost : ∀ (m_moves' : Nat → Int32), (∀ k : Nat, 0 ≤ Int32.toInt (m_moves' k) ∧ Int32.toInt (m_moves' k) ≤ 1000000) → (MVT m_moves' oY pX aG) → post m_moves') (hK2 : ∀ (x1 : Int32) (uG : Nat → Int32), (0 ≤ Int32.toInt x1 ∧ Int32.toInt x1 ≤ 256) → (∀ k : Nat, 0 ≤ Int32.toInt (uG k) ∧ Int32.toInt (uG k) ≤ 1000000) → (MVa uG oY pX aG x1) → (256 - Int32.toInt x1 < n2) → K2 x1 uG) (hK12 : ∀ (x1 : Int32) (x2 : Int32) (uG : Nat → Int32), (0 ≤ Int32.toInt x1 ∧ Int32.toInt x1 ≤ 255) → (0 ≤ Int32.toInt x2 ∧ Int32.toInt x2 ≤ 9) → (∀ k : Nat, 0 ≤ Int32.toInt (uG k) ∧ Int32.toInt (uG k) ≤ 1000000) → (MVb uG oY pX aG x1 x2) → (LB x1 aG) → (256 - Int32.toInt x1 ≤ n2) → (9 - Int32.toInt x2 < n12) → K12 x1 x2 uG) (x1 x2 : Int32) (uG : Nat → Int32) (h_x1 : 0 ≤ Int32.toInt x1 ∧ Int32.toInt x1 ≤ 255) (h_x2 : 0 ≤ Int32.toInt x2 ∧ Int32.toInt x2 ≤ 8) (h_m_moves : ∀ k : Nat, 0 ≤ Int32.toInt (uG k) ∧ Int32.toInt (uG k) ≤ 1000000) (hx0 : MVb uG oY pX aG x1 x2) (hx1 : LB x1 aG) (hx2 : VAL aG x2 x1) (hn2 : 256 - Int32.toInt x1 ≤ n2) (hn12 : 9 - Int32.toInt x2 ≤ n12) : ws_X10_layMoves_43 post K2 K12 aG oY pX x1 x2 uG := by
  have l0 := li_0
  have l1 := li_1000000
  refine And.intro (fun c34 => ?_) (fun c34 => ?_)
  · skip
    have c34 := mt (fa_eq _ _).mpr c34
    exact ts_X10_layMoves_54 aG oY pX h_m_standings h_m_foot e0_m_told e1_m_told hpost hK2 hK12 x1 x2 1000000 uG h_x1 h_x2 (by omega) h_m_moves (by first | assumption | exact MVb_0 (by assumption) | exact MVb_s (by assumption) (by omega)) (by first | assumption | exact LB_of (by assumption) (by omega) (by omega) (by omega)) (by first | assumption | exact VAL_8 (by omega) | exact VAL_b (by omega) (by omega) (by assumption) (by assumption) (by assumption)) (by omega) hn2 hn12
  · skip
    have c34 := (fa_eq _ _).mp c34
    exact ts_X10_layMoves_54 aG oY pX h_m_standings h_m_foot e0_m_told e1_m_told hpost hK2 hK12 x1 x2 0 uG h_x1 h_x2 (by omega) h_m_moves (by first | assumption | exact MVb_0 (by assumption) | exact MVb_s (by assumption) (by omega)) (by first | assumption | exact LB_of (by assumption) (by omega) (by omega) (by omega)) (by first | assumption | exact VAL_8 (by omega) | exact VAL_b (by omega) (by omega) (by assumption) (by assumption) (by assumption)) (by omega) hn2 hn12
set_option maxHeartbeats 8000000 in
set_option maxRecDepth 200000 in
theorem ts_X10_layMoves_12 {post : (Nat → Int32) → Prop} {K2 : Int32 → (Nat → Int32) → Prop} {next : Int32 → Int32 → (Nat → Int32) → Prop} {n12 n2 : Int} (aG : Int32) (oY pX : Nat → Int32) (h_m_standings : 0 ≤ Int32.toInt aG ∧ Int32.toInt aG ≤ 8) (h_m_foot : ∀ k : Nat, 0 ≤ Int32.toInt (oY k) ∧ Int32.toInt (oY k) ≤ 99) (e0_m_told : ∀ k : Nat, k = 4 → 1 ≤ Int32.toInt (pX k) ∧ Int32.toInt (pX k) ≤ 30) (e1_m_told : ∀ k : Nat, k = 3 → 0 ≤ Int32.toInt (pX k) ∧ Int32.toInt (pX k) ≤ 9) (hpost : ∀ (m_moves' : Nat → Int32), (∀ k : Nat, 0 ≤ Int32.toInt (m_moves' k) ∧ Int32.toInt (m_moves' k) ≤ 1000000) → (MVT m_moves' oY pX aG) → post m_moves') (hK2 : ∀ (x1 : Int32) (uG : Nat → Int32), (0 ≤ Int32.toInt x1 ∧ Int32.toInt x1 ≤ 256) → (∀ k : Nat, 0 ≤ Int32.toInt (uG k) ∧ Int32.toInt (uG k) ≤ 1000000) → (MVa uG oY pX aG x1) → (256 - Int32.toInt x1 < n2) → K2 x1 uG) (hKn : ∀ (x1 : Int32) (x2 : Int32) (uG : Nat → Int32), (0 ≤ Int32.toInt x1 ∧ Int32.toInt x1 ≤ 255) → (0 ≤ Int32.toInt x2 ∧ Int32.toInt x2 ≤ 9) → (∀ k : Nat, 0 ≤ Int32.toInt (uG k) ∧ Int32.toInt (uG k) ≤ 1000000) → (MVb uG oY pX aG x1 x2) → (LB x1 aG) → (256 - Int32.toInt x1 ≤ n2) → (9 - Int32.toInt x2 < n12) → next x1 x2 uG) (x1 x2 : Int32) (uG : Nat → Int32) (h_x1 : 0 ≤ Int32.toInt x1 ∧ Int32.toInt x1 ≤ 255) (h_x2 : 0 ≤ Int32.toInt x2 ∧ Int32.toInt x2 ≤ 9) (h_m_moves : ∀ k : Nat, 0 ≤ Int32.toInt (uG k) ∧ Int32.toInt (uG k) ≤ 1000000) (hx0 : MVb uG oY pX aG x1 x2) (hx1 : LB x1 aG) (hn2 : 256 - Int32.toInt x1 ≤ n2) (hn12 : 9 - Int32.toInt x2 ≤ n12) : ws_X10_layMoves_12 post K2 next aG oY pX x1 x2 uG := by
  have l0 := li_1
  have l1 := li_8
  refine And.intro (fun c35 => ?_) (fun c35 => ?_)
  · skip
    have c35 := (fa_lt _ _).mp c35
    intro v36 ev36
    have f37 : Int32.toInt (x1 + 1) = Int32.toInt x1 + Int32.toInt (1 : Int32) := ta_add _ _ (by omega)
    rw [← ev36] at f37
    exact hK2 v36 uG (by omega) h_m_moves (by first | assumption | exact MVa_0 (by omega) | exact MVa_s (by assumption) (by omega) (by omega) (by omega)) (by omega)
  · skip
    have c35 := mt (fa_lt _ _).mpr c35
    refine And.intro (fun c38 => ?_) (fun c38 => ?_)
    · skip
      have c38 := (fa_le _ _).mp c38
      exact ts_X10_layMoves_43 aG oY pX h_m_standings h_m_foot e0_m_told e1_m_told hpost hK2 hKn x1 x2 uG h_x1 (by omega) h_m_moves (by first | assumption | exact MVb_0 (by assumption) | exact MVb_s (by assumption) (by omega)) (by first | assumption | exact LB_of (by assumption) (by omega) (by omega) (by omega)) (by first | assumption | exact VAL_8 (by omega) | exact VAL_b (by omega) (by omega) (by assumption) (by assumption) (by assumption)) hn2 hn12
    · skip
      have c38 := mt (fa_le _ _).mpr c38
      refine And.intro (fun c39 => ?_) (fun c39 => ?_)
      · skip
        have c39 := (fa_le _ _).mp c39
        exact ts_X10_layMoves_131 aG oY pX h_m_standings h_m_foot e0_m_told e1_m_told hpost hK2 hKn x1 x2 uG h_x1 (by omega) h_m_moves (by first | assumption | exact MVb1_sk1 (by assumption) (by omega) (by omega) | exact MVb1_sk2 (by assumption) (by omega) (by assumption) (by assumption) (by assumption) | exact MVb1_up (by assumption) (by assumption) (by assumption) (by assumption) (by omega) (by omega) (by omega) (by omega) (by omega) (by omega) h_m_foot e1_m_told) (by first | assumption | exact LB_of (by assumption) (by omega) (by omega) (by omega)) hn2 hn12
      · skip
        have c39 := mt (fa_le _ _).mpr c39
        intro v40 ev40
        have f41 := ti_shr x1 x2 (by omega)
        have hv40 := congrArg Int32.toInt ev40
        intro v42 ev42
        have f43 := ti_andr v40 1 (by omega)
        have f44 := ti_andl v40 1 (by omega)
        have hv42 := congrArg Int32.toInt ev42
        refine And.intro (fun c45 => ?_) (fun c45 => ?_)
        · skip
          have c45 := mt (fa_eq _ _).mpr c45
          refine And.intro (fun _ => ?_) (fun h9 => absurd h9 (by decide))
          exact ts_X10_layMoves_43 aG oY pX h_m_standings h_m_foot e0_m_told e1_m_told hpost hK2 hKn x1 x2 uG h_x1 (by omega) h_m_moves (by first | assumption | exact MVb_0 (by assumption) | exact MVb_s (by assumption) (by omega)) (by first | assumption | exact LB_of (by assumption) (by omega) (by omega) (by omega)) (by first | assumption | exact VAL_8 (by omega) | exact VAL_b (by omega) (by omega) (by assumption) (by assumption) (by assumption)) hn2 hn12
        · skip
          have c45 := (fa_eq _ _).mp c45
          refine And.intro (fun h9 => absurd h9 (by decide)) (fun _ => ?_)
          exact ts_X10_layMoves_131 aG oY pX h_m_standings h_m_foot e0_m_told e1_m_told hpost hK2 hKn x1 x2 uG h_x1 (by omega) h_m_moves (by first | assumption | exact MVb1_sk1 (by assumption) (by omega) (by omega) | exact MVb1_sk2 (by assumption) (by omega) (by assumption) (by assumption) (by assumption) | exact MVb1_up (by assumption) (by assumption) (by assumption) (by assumption) (by omega) (by omega) (by omega) (by omega) (by omega) (by omega) h_m_foot e1_m_told) (by first | assumption | exact LB_of (by assumption) (by omega) (by omega) (by omega)) hn2 hn12
set_option maxHeartbeats 8000000 in
set_option maxRecDepth 200000 in
theorem tb_X10_layMoves_12 {post : (Nat → Int32) → Prop} {K2 : Int32 → (Nat → Int32) → Prop} {n2 : Int} (aG : Int32) (oY pX : Nat → Int32) (h_m_standings : 0 ≤ Int32.toInt aG ∧ Int32.toInt aG ≤ 8) (h_m_foot : ∀ k : Nat, 0 ≤ Int32.toInt (oY k) ∧ Int32.toInt (oY k) ≤ 99) (e0_m_told : ∀ k : Nat, k = 4 → 1 ≤ Int32.toInt (pX k) ∧ Int32.toInt (pX k) ≤ 30) (e1_m_told : ∀ k : Nat, k = 3 → 0 ≤ Int32.toInt (pX k) ∧ Int32.toInt (pX k) ≤ 9) (hpost : ∀ (m_moves' : Nat → Int32), (∀ k : Nat, 0 ≤ Int32.toInt (m_moves' k) ∧ Int32.toInt (m_moves' k) ≤ 1000000) → (MVT m_moves' oY pX aG) → post m_moves') (hK2 : ∀ (x1 : Int32) (uG : Nat → Int32), (0 ≤ Int32.toInt x1 ∧ Int32.toInt x1 ≤ 256) → (∀ k : Nat, 0 ≤ Int32.toInt (uG k) ∧ Int32.toInt (uG k) ≤ 1000000) → (MVa uG oY pX aG x1) → (256 - Int32.toInt x1 < n2) → K2 x1 uG) : ∀ (n : Nat) (x1 x2 : Int32) (uG : Nat → Int32), (0 ≤ Int32.toInt x1 ∧ Int32.toInt x1 ≤ 255) → (0 ≤ Int32.toInt x2 ∧ Int32.toInt x2 ≤ 9) → (∀ k : Nat, 0 ≤ Int32.toInt (uG k) ∧ Int32.toInt (uG k) ≤ 1000000) → (MVb uG oY pX aG x1 x2) → (LB x1 aG) → (256 - Int32.toInt x1 ≤ n2) → (9 - Int32.toInt x2 < (n : Int)) → wb_X10_layMoves_12 post K2 aG oY pX n x1 x2 uG := by
  intro n
  induction n with
  | zero =>
    intro x1 x2 uG h_x1 h_x2 h_m_moves hx0 hx1 hn2 hm
    exfalso; omega
  | succ n ih =>
    intro x1 x2 uG h_x1 h_x2 h_m_moves hx0 hx1 hn2 hm
    exact ts_X10_layMoves_12 aG oY pX h_m_standings h_m_foot e0_m_told e1_m_told hpost hK2 ih x1 x2 uG h_x1 h_x2 h_m_moves hx0 hx1 hn2 (by omega)
set_option maxHeartbeats 8000000 in
set_option maxRecDepth 200000 in
theorem ts_X10_layMoves_2 {post : (Nat → Int32) → Prop} {next : Int32 → (Nat → Int32) → Prop} {n2 : Int} (aG : Int32) (oY pX : Nat → Int32) (h_m_standings : 0 ≤ Int32.toInt aG ∧ Int32.toInt aG ≤ 8) (h_m_foot : ∀ k : Nat, 0 ≤ Int32.toInt (oY k) ∧ Int32.toInt (oY k) ≤ 99) (e0_m_told : ∀ k : Nat, k = 4 → 1 ≤ Int32.toInt (pX k) ∧ Int32.toInt (pX k) ≤ 30) (e1_m_told : ∀ k : Nat, k = 3 → 0 ≤ Int32.toInt (pX k) ∧ Int32.toInt (pX k) ≤ 9) (hpost : ∀ (m_moves' : Nat → Int32), (∀ k : Nat, 0 ≤ Int32.toInt (m_moves' k) ∧ Int32.toInt (m_moves' k) ≤ 1000000) → (MVT m_moves' oY pX aG) → post m_moves') (hKn : ∀ (x1 : Int32) (uG : Nat → Int32), (0 ≤ Int32.toInt x1 ∧ Int32.toInt x1 ≤ 256) → (∀ k : Nat, 0 ≤ Int32.toInt (uG k) ∧ Int32.toInt (uG k) ≤ 1000000) → (MVa uG oY pX aG x1) → (256 - Int32.toInt x1 < n2) → next x1 uG) (x1 : Int32) (uG : Nat → Int32) (h_x1 : 0 ≤ Int32.toInt x1 ∧ Int32.toInt x1 ≤ 256) (h_m_moves : ∀ k : Nat, 0 ≤ Int32.toInt (uG k) ∧ Int32.toInt (uG k) ≤ 1000000) (hx0 : MVa uG oY pX aG x1) (hn2 : 256 - Int32.toInt x1 ≤ n2) : ws_X10_layMoves_2 post next aG oY pX x1 uG := by
  have l0 := li_0
  have l1 := li_1
  intro v46 ev46
  have f47 := ti_shl1 8 256 aG (by decide) (by omega)
  have hv46 := congrArg Int32.toInt ev46
  have f49 : Int32.toInt (v46 - 1) = Int32.toInt v46 - Int32.toInt (1 : Int32) := ta_sub _ _ (by omega)
  refine And.intro (fun c48 => ?_) (fun c48 => ?_)
  · skip
    have c48 := (fa_lt _ _).mp c48
    exact hpost _ h_m_moves (MVT_of (by assumption) (by assumption) (by omega) (by omega))
  · skip
    have c48 := mt (fa_lt _ _).mpr c48
    exact ⟨11, tb_X10_layMoves_12 aG oY pX h_m_standings h_m_foot e0_m_told e1_m_told hpost hKn _ x1 0 uG (by omega) (by omega) h_m_moves (by first | assumption | exact MVb_0 (by assumption) | exact MVb_s (by assumption) (by omega)) (by first | assumption | exact LB_of (by assumption) (by omega) (by omega) (by omega)) hn2 (by omega)⟩
set_option maxHeartbeats 8000000 in
set_option maxRecDepth 200000 in
theorem tb_X10_layMoves_2 {post : (Nat → Int32) → Prop} (aG : Int32) (oY pX : Nat → Int32) (h_m_standings : 0 ≤ Int32.toInt aG ∧ Int32.toInt aG ≤ 8) (h_m_foot : ∀ k : Nat, 0 ≤ Int32.toInt (oY k) ∧ Int32.toInt (oY k) ≤ 99) (e0_m_told : ∀ k : Nat, k = 4 → 1 ≤ Int32.toInt (pX k) ∧ Int32.toInt (pX k) ≤ 30) (e1_m_told : ∀ k : Nat, k = 3 → 0 ≤ Int32.toInt (pX k) ∧ Int32.toInt (pX k) ≤ 9) (hpost : ∀ (m_moves' : Nat → Int32), (∀ k : Nat, 0 ≤ Int32.toInt (m_moves' k) ∧ Int32.toInt (m_moves' k) ≤ 1000000) → (MVT m_moves' oY pX aG) → post m_moves') : ∀ (n : Nat) (x1 : Int32) (uG : Nat → Int32), (0 ≤ Int32.toInt x1 ∧ Int32.toInt x1 ≤ 256) → (∀ k : Nat, 0 ≤ Int32.toInt (uG k) ∧ Int32.toInt (uG k) ≤ 1000000) → (MVa uG oY pX aG x1) → (256 - Int32.toInt x1 < (n : Int)) → wb_X10_layMoves_2 post aG oY pX n x1 uG := by
  intro n
  induction n with
  | zero =>
    intro x1 uG h_x1 h_m_moves hx0 hm
    exfalso; omega
  | succ n ih =>
    intro x1 uG h_x1 h_m_moves hx0 hm
    exact ts_X10_layMoves_2 aG oY pX h_m_standings h_m_foot e0_m_told e1_m_told hpost ih x1 uG h_x1 h_m_moves hx0 (by omega)
set_option maxHeartbeats 8000000 in
set_option maxRecDepth 200000 in
theorem t_X10_layMoves {post : (Nat → Int32) → Prop} {aG : Int32} {oY pX uG : Nat → Int32} (h_m_standings : 0 ≤ Int32.toInt aG ∧ Int32.toInt aG ≤ 8) (h_m_foot : ∀ k : Nat, 0 ≤ Int32.toInt (oY k) ∧ Int32.toInt (oY k) ≤ 99) (e0_m_told : ∀ k : Nat, k = 4 → 1 ≤ Int32.toInt (pX k) ∧ Int32.toInt (pX k) ≤ 30) (e1_m_told : ∀ k : Nat, k = 3 → 0 ≤ Int32.toInt (pX k) ∧ Int32.toInt (pX k) ≤ 9) (h_m_moves : ∀ k : Nat, 0 ≤ Int32.toInt (uG k) ∧ Int32.toInt (uG k) ≤ 1000000) (hpost : ∀ (m_moves' : Nat → Int32), (∀ k : Nat, 0 ≤ Int32.toInt (m_moves' k) ∧ Int32.toInt (m_moves' k) ≤ 1000000) → (MVT m_moves' oY pX aG) → post m_moves') : wp_X10_layMoves post aG oY pX uG := by
  have l0 := li_0
  exact ⟨258, tb_X10_layMoves_2 aG oY pX h_m_standings h_m_foot e0_m_told e1_m_told hpost _ 0 uG (by omega) h_m_moves (by first | assumption | exact MVa_0 (by omega) | exact MVa_s (by assumption) (by omega) (by omega) (by omega)) (by omega)⟩
