set_option maxHeartbeats 8000000 in
set_option maxRecDepth 200000 in
theorem ts_X10_count_110 {post : Int32 → Int32 → Prop} {SB : Int} (m_fruits : Int32) (m_standings : Int32) (m_typed : Int32) (m_rowMany : Int32) (m_undoMany : Int32) (m_now : Nat → Int32) (m_worth : Nat → Int32) (h_m_fruits : 0 ≤ Int32.toInt m_fruits ∧ Int32.toInt m_fruits ≤ 16) (h_m_standings : 0 ≤ Int32.toInt m_standings ∧ Int32.toInt m_standings ≤ 8) (h_m_typed : 0 ≤ Int32.toInt m_typed ∧ Int32.toInt m_typed ≤ 80) (h_m_rowMany : 0 ≤ Int32.toInt m_rowMany ∧ Int32.toInt m_rowMany ≤ 16) (h_m_undoMany : 0 ≤ Int32.toInt m_undoMany ∧ Int32.toInt m_undoMany ≤ 12) (e0_m_now : ∀ k : Nat, k = 17 → -1 ≤ Int32.toInt (m_now k) ∧ Int32.toInt (m_now k) ≤ SB) (e1_m_now : ∀ k : Nat, k = 19 → 0 ≤ Int32.toInt (m_now k) ∧ Int32.toInt (m_now k) ≤ 9) (h_m_worth : ∀ k : Nat, 0 ≤ Int32.toInt (m_worth k) ∧ Int32.toInt (m_worth k) ≤ 9) (hc0 : -1 ≤ SB ∧ SB ≤ 7) (hc1 : (Int32.toInt m_standings ≤ 0 ∧ SB = 0) ∨ (1 ≤ Int32.toInt m_standings ∧ SB = Int32.toInt m_standings - 1)) (hpost : ∀ (r : Int32) (m_thrown' : Int32), (0 ≤ Int32.toInt m_thrown' ∧ Int32.toInt m_thrown' ≤ 0) → post r m_thrown') (x1 : Int32) (m_thrown : Int32) (h_x1 : 5 ≤ Int32.toInt x1 ∧ Int32.toInt x1 ≤ 8) (h_m_thrown : 0 ≤ Int32.toInt m_thrown ∧ Int32.toInt m_thrown ≤ 0) : ws_X10_count_110 post m_fruits m_standings m_typed m_rowMany m_undoMany m_now m_worth x1 m_thrown := by
  have l0 : Int32.toInt (5 : Int32) = 5 := (by decide)
  intro v1 ev1
  have f2 : Int32.toInt (x1 - 5) = Int32.toInt x1 - Int32.toInt (5 : Int32) := ta_sub _ _ (by omega)
  rw [← ev1] at f2
  refine t_X10_which (by omega) (by omega) e0_m_now e1_m_now (by omega) (fun r3 h_r3 ox4 => ?_)
  exact hpost _ _ (by omega)
set_option maxHeartbeats 8000000 in
set_option maxRecDepth 200000 in
theorem t_X10_count {post : Int32 → Int32 → Prop} {SB : Int} {p0 : Int32} {m_fruits : Int32} {m_standings : Int32} {m_typed : Int32} {m_rowMany : Int32} {m_thrown : Int32} {m_undoMany : Int32} {m_now : Nat → Int32} {m_worth : Nat → Int32} (h_m_fruits : 0 ≤ Int32.toInt m_fruits ∧ Int32.toInt m_fruits ≤ 16) (h_m_standings : 0 ≤ Int32.toInt m_standings ∧ Int32.toInt m_standings ≤ 8) (h_m_typed : 0 ≤ Int32.toInt m_typed ∧ Int32.toInt m_typed ≤ 80) (h_m_rowMany : 0 ≤ Int32.toInt m_rowMany ∧ Int32.toInt m_rowMany ≤ 16) (h_m_thrown : 0 ≤ Int32.toInt m_thrown ∧ Int32.toInt m_thrown ≤ 1) (h_m_undoMany : 0 ≤ Int32.toInt m_undoMany ∧ Int32.toInt m_undoMany ≤ 12) (e0_m_now : ∀ k : Nat, k = 17 → -1 ≤ Int32.toInt (m_now k) ∧ Int32.toInt (m_now k) ≤ SB) (e1_m_now : ∀ k : Nat, k = 19 → 0 ≤ Int32.toInt (m_now k) ∧ Int32.toInt (m_now k) ≤ 9) (h_m_worth : ∀ k : Nat, 0 ≤ Int32.toInt (m_worth k) ∧ Int32.toInt (m_worth k) ≤ 9) (hc0 : -1 ≤ SB ∧ SB ≤ 7) (hc1 : (Int32.toInt m_standings ≤ 0 ∧ SB = 0) ∨ (1 ≤ Int32.toInt m_standings ∧ SB = Int32.toInt m_standings - 1)) (hpost : ∀ (r : Int32) (m_thrown' : Int32), (0 ≤ Int32.toInt m_thrown' ∧ Int32.toInt m_thrown' ≤ 0) → post r m_thrown') : wp_X10_count post p0 m_fruits m_standings m_typed m_rowMany m_thrown m_undoMany m_now m_worth := by
  have l0 : Int32.toInt (0 : Int32) = 0 := (by decide)
  have l1 : Int32.toInt (1 : Int32) = 1 := (by decide)
  have l2 : Int32.toInt (10 : Int32) = 10 := (by decide)
  have l3 : Int32.toInt (11 : Int32) = 11 := (by decide)
  have l4 : Int32.toInt (12 : Int32) = 12 := (by decide)
  have l5 : Int32.toInt (13 : Int32) = 13 := (by decide)
  have l6 : Int32.toInt (16 : Int32) = 16 := (by decide)
  have l7 : Int32.toInt (17 : Int32) = 17 := (by decide)
  have l8 : Int32.toInt (19 : Int32) = 19 := (by decide)
  have l9 : Int32.toInt (2 : Int32) = 2 := (by decide)
  have l10 : Int32.toInt (20 : Int32) = 20 := (by decide)
  have l11 : Int32.toInt (3 : Int32) = 3 := (by decide)
  have l12 : Int32.toInt (4 : Int32) = 4 := (by decide)
  have l13 : Int32.toInt (5 : Int32) = 5 := (by decide)
  have l14 : Int32.toInt (6 : Int32) = 6 := (by decide)
  have l15 : Int32.toInt (7 : Int32) = 7 := (by decide)
  have l16 : Int32.toInt (8 : Int32) = 8 := (by decide)
  have l17 : Int32.toInt (9 : Int32) = 9 := (by decide)
  have f5 := tp_r p0
  refine And.intro (fun c6 => ?_) ?_
  · skip
    have c6 := (fa_eq _ _).mp c6
    exact hpost _ _ (by omega)
  refine And.intro (fun c7 => ?_) ?_
  · skip
    have c7 := (fa_eq _ _).mp c7
    exact hpost _ _ (by omega)
  refine And.intro (fun c8 => ?_) ?_
  · skip
    have c8 := (fa_eq _ _).mp c8
    have q9 := e0_m_now (17 : Int32).toNatClampNeg (by have e9 : (17 : Int32).toNatClampNeg = (Int32.toInt (17 : Int32)).toNat := rfl; omega)
    exact hpost _ _ (by omega)
  refine And.intro (fun c10 => ?_) ?_
  · skip
    have c10 := (fa_eq _ _).mp c10
    have q11 := e1_m_now (19 : Int32).toNatClampNeg (by have e9 : (19 : Int32).toNatClampNeg = (Int32.toInt (19 : Int32)).toNat := rfl; omega)
    exact hpost _ _ (by omega)
  refine And.intro (fun c12 => ?_) ?_
  · skip
    have c12 := (fa_eq _ _).mp c12
    exact hpost _ _ (by omega)
  refine And.intro (fun c13 => ?_) ?_
  · skip
    have c13 := (fa_eq _ _).mp c13
    exact ts_X10_count_110 m_fruits m_standings m_typed m_rowMany m_undoMany m_now m_worth h_m_fruits h_m_standings h_m_typed h_m_rowMany h_m_undoMany e0_m_now e1_m_now h_m_worth hc0 hc1 hpost p0 0 (by omega) (by omega)
  refine And.intro (fun c14 => ?_) ?_
  · skip
    have c14 := (fa_eq _ _).mp c14
    exact ts_X10_count_110 m_fruits m_standings m_typed m_rowMany m_undoMany m_now m_worth h_m_fruits h_m_standings h_m_typed h_m_rowMany h_m_undoMany e0_m_now e1_m_now h_m_worth hc0 hc1 hpost p0 0 (by omega) (by omega)
  refine And.intro (fun c15 => ?_) ?_
  · skip
    have c15 := (fa_eq _ _).mp c15
    exact ts_X10_count_110 m_fruits m_standings m_typed m_rowMany m_undoMany m_now m_worth h_m_fruits h_m_standings h_m_typed h_m_rowMany h_m_undoMany e0_m_now e1_m_now h_m_worth hc0 hc1 hpost p0 0 (by omega) (by omega)
  refine And.intro (fun c16 => ?_) ?_
  · skip
    have c16 := (fa_eq _ _).mp c16
    exact ts_X10_count_110 m_fruits m_standings m_typed m_rowMany m_undoMany m_now m_worth h_m_fruits h_m_standings h_m_typed h_m_rowMany h_m_undoMany e0_m_now e1_m_now h_m_worth hc0 hc1 hpost p0 0 (by omega) (by omega)
  refine And.intro (fun c17 => ?_) ?_
  · skip
    have c17 := (fa_eq _ _).mp c17
    exact hpost _ _ (by omega)
  refine And.intro (fun c18 => ?_) ?_
  · skip
    have c18 := (fa_eq _ _).mp c18
    refine t_X10_which (by omega) (by omega) e0_m_now e1_m_now (by omega) (fun r19 h_r19 ox20 => ?_)
    intro v21 ev21
    have hv21 := congrArg Int32.toInt ev21
    refine t_X10_worthOfAll (by omega) (by omega) (fun k => by have q9 := h_m_worth k; omega) (fun r23 => ?_)
    exact hpost _ _ (by omega)
  refine And.intro (fun c24 => ?_) ?_
  · skip
    have c24 := (fa_eq _ _).mp c24
    exact hpost _ _ (by omega)
  refine And.intro (fun c25 => ?_) ?_
  · skip
    have c25 := (fa_eq _ _).mp c25
    exact hpost _ _ (by omega)
  refine And.intro (fun c26 => ?_) ?_
  · skip
    have c26 := (fa_eq _ _).mp c26
    exact hpost _ _ (by omega)
  intro c27 c28 c29 c30 c31 c32 c33 c34 c35 c36 c37 c38 c39 c40
  have c27 := mt (fa_eq _ _).mpr c27
  have c28 := mt (fa_eq _ _).mpr c28
  have c29 := mt (fa_eq _ _).mpr c29
  have c30 := mt (fa_eq _ _).mpr c30
  have c31 := mt (fa_eq _ _).mpr c31
  have c32 := mt (fa_eq _ _).mpr c32
  have c33 := mt (fa_eq _ _).mpr c33
  have c34 := mt (fa_eq _ _).mpr c34
  have c35 := mt (fa_eq _ _).mpr c35
  have c36 := mt (fa_eq _ _).mpr c36
  have c37 := mt (fa_eq _ _).mpr c37
  have c38 := mt (fa_eq _ _).mpr c38
  have c39 := mt (fa_eq _ _).mpr c39
  have c40 := mt (fa_eq _ _).mpr c40
  exact hpost _ _ (by omega)
set_option maxHeartbeats 8000000 in
set_option maxRecDepth 200000 in
theorem t_X10_row {post : Int32 → Int32 → Prop} {p0 : Int32} {m_rowMany : Int32} {m_thrown : Int32} {m_row : Nat → Int32} (h_m_rowMany : 0 ≤ Int32.toInt m_rowMany ∧ Int32.toInt m_rowMany ≤ 16) (h_m_thrown : 0 ≤ Int32.toInt m_thrown ∧ Int32.toInt m_thrown ≤ 1) (hpost : ∀ (r : Int32) (m_thrown' : Int32), (0 ≤ Int32.toInt m_thrown' ∧ Int32.toInt m_thrown' ≤ 1) → post r m_thrown') : wp_X10_row post p0 m_rowMany m_thrown m_row := by
  have l0 : Int32.toInt (0 : Int32) = 0 := (by decide)
  have l1 : Int32.toInt (1 : Int32) = 1 := (by decide)
  intro v1 ev1
  have f2 : Int32.toInt (m_rowMany - 1) = Int32.toInt m_rowMany - Int32.toInt (1 : Int32) := ta_sub _ _ (by omega)
  rw [← ev1] at f2
  have f4 := tp_r p0
  refine And.intro (fun c3 => ?_) (fun c3 => ?_)
  · skip
    have c3 := (fa_lt _ _).mp c3
    refine And.intro (fun _ => ?_) (fun h9 => absurd h9 (by decide))
    exact hpost _ _ (by omega)
  · skip
    have c3 := mt (fa_lt _ _).mpr c3
    refine And.intro (fun c5 => ?_) (fun c5 => ?_)
    · skip
      have c5 := (fa_lt _ _).mp c5
      refine And.intro (fun _ => ?_) (fun h9 => absurd h9 (by decide))
      exact hpost _ _ (by omega)
    · skip
      have c5 := mt (fa_lt _ _).mpr c5
      refine And.intro (fun h9 => absurd h9 (by decide)) (fun _ => ?_)
      refine And.intro (t_in (by omega)) ?_
      intro v6 ev6
      have hv6 := congrArg Int32.toInt ev6
      exact hpost _ _ (by omega)
