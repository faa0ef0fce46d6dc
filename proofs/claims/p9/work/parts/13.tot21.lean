set_option maxHeartbeats 8000000 in
set_option maxRecDepth 200000 in
theorem ts_X10_marks_66 {post : Int32 → Int32 → Prop} {K32 : Int32 → Int32 → Int32 → Int32 → Int32 → Prop} {n32 : Int} (m_standings : Int32) (m_foot : Nat → Int32) (h_m_standings : 0 ≤ Int32.toInt m_standings ∧ Int32.toInt m_standings ≤ 8) (h_m_foot : ∀ k : Nat, 0 ≤ Int32.toInt (m_foot k) ∧ Int32.toInt (m_foot k) ≤ 99) (hpost : ∀ (r : Int32) (m_thrown' : Int32), (-1 ≤ Int32.toInt r ∧ Int32.toInt r ≤ 255) → (0 ≤ Int32.toInt m_thrown' ∧ Int32.toInt m_thrown' ≤ 0) → post r m_thrown') (hK32 : ∀ (x1 : Int32) (x2 : Int32) (x3 : Int32) (x4 : Int32) (m_thrown : Int32), (0 ≤ Int32.toInt x1 ∧ Int32.toInt x1 ≤ 99) → (0 ≤ Int32.toInt x2 ∧ Int32.toInt x2 ≤ 99) → (0 ≤ Int32.toInt x3 ∧ Int32.toInt x3 ≤ 255) → (0 ≤ Int32.toInt x4 ∧ Int32.toInt x4 ≤ 8) → (0 ≤ Int32.toInt m_thrown ∧ Int32.toInt m_thrown ≤ 0) → (8 - Int32.toInt x4 < n32) → K32 x1 x2 x3 x4 m_thrown) (x1 : Int32) (x2 : Int32) (x4 : Int32) (k0 : Int32) (k1 : Int32) (m_thrown : Int32) (h_x1 : 0 ≤ Int32.toInt x1 ∧ Int32.toInt x1 ≤ 99) (h_x2 : 0 ≤ Int32.toInt x2 ∧ Int32.toInt x2 ≤ 99) (h_x4 : 0 ≤ Int32.toInt x4 ∧ Int32.toInt x4 ≤ 7) (h_k0 : 0 ≤ Int32.toInt k0 ∧ Int32.toInt k0 ≤ 255) (h_k1 : 0 ≤ Int32.toInt k1 ∧ Int32.toInt k1 ≤ 128) (h_m_thrown : 0 ≤ Int32.toInt m_thrown ∧ Int32.toInt m_thrown ≤ 0) (hn32 : 8 - Int32.toInt x4 ≤ n32) : ws_X10_marks_66 post K32 m_standings m_foot x1 x2 x4 k0 k1 m_thrown := by
  have l0 : Int32.toInt (1 : Int32) = 1 := (by decide)
  intro v1 ev1
  have f2 := ti_or 8 256 k0 k1 (by decide) (by omega) (by omega)
  have hv1 := congrArg Int32.toInt ev1
  intro v3 ev3
  have f4 : Int32.toInt (x4 + 1) = Int32.toInt x4 + Int32.toInt (1 : Int32) := ta_add _ _ (by omega)
  rw [← ev3] at f4
  exact hK32 x1 x2 v1 v3 m_thrown (by omega) (by omega) (by omega) (by omega) (by omega) (by omega)
set_option maxHeartbeats 8000000 in
set_option maxRecDepth 200000 in
theorem ts_X10_marks_32 {post : Int32 → Int32 → Prop} {next : Int32 → Int32 → Int32 → Int32 → Int32 → Prop} {n32 : Int} (m_standings : Int32) (m_foot : Nat → Int32) (h_m_standings : 0 ≤ Int32.toInt m_standings ∧ Int32.toInt m_standings ≤ 8) (h_m_foot : ∀ k : Nat, 0 ≤ Int32.toInt (m_foot k) ∧ Int32.toInt (m_foot k) ≤ 99) (hpost : ∀ (r : Int32) (m_thrown' : Int32), (-1 ≤ Int32.toInt r ∧ Int32.toInt r ≤ 255) → (0 ≤ Int32.toInt m_thrown' ∧ Int32.toInt m_thrown' ≤ 0) → post r m_thrown') (hKn : ∀ (x1 : Int32) (x2 : Int32) (x3 : Int32) (x4 : Int32) (m_thrown : Int32), (0 ≤ Int32.toInt x1 ∧ Int32.toInt x1 ≤ 99) → (0 ≤ Int32.toInt x2 ∧ Int32.toInt x2 ≤ 99) → (0 ≤ Int32.toInt x3 ∧ Int32.toInt x3 ≤ 255) → (0 ≤ Int32.toInt x4 ∧ Int32.toInt x4 ≤ 8) → (0 ≤ Int32.toInt m_thrown ∧ Int32.toInt m_thrown ≤ 0) → (8 - Int32.toInt x4 < n32) → next x1 x2 x3 x4 m_thrown) (x1 : Int32) (x2 : Int32) (x3 : Int32) (x4 : Int32) (m_thrown : Int32) (h_x1 : 0 ≤ Int32.toInt x1 ∧ Int32.toInt x1 ≤ 99) (h_x2 : 0 ≤ Int32.toInt x2 ∧ Int32.toInt x2 ≤ 99) (h_x3 : 0 ≤ Int32.toInt x3 ∧ Int32.toInt x3 ≤ 255) (h_x4 : 0 ≤ Int32.toInt x4 ∧ Int32.toInt x4 ≤ 8) (h_m_thrown : 0 ≤ Int32.toInt m_thrown ∧ Int32.toInt m_thrown ≤ 0) (hn32 : 8 - Int32.toInt x4 ≤ n32) : ws_X10_marks_32 post next m_standings m_foot x1 x2 x3 x4 m_thrown := by
  have l0 : Int32.toInt (0 : Int32) = 0 := (by decide)
  refine And.intro (fun c5 => ?_) (fun c5 => ?_)
  · skip
    have c5 := (fa_le _ _).mp c5
    exact hpost _ _ (by omega) (by omega)
  · skip
    have c5 := mt (fa_le _ _).mpr c5
    refine And.intro (t_in (by omega)) ?_
    intro v6 ev6
    have f7 := h_m_foot x4.toNatClampNeg
    have hv6 := congrArg Int32.toInt ev6
    intro v8 ev8
    have f9 : Int32.toInt (v6 - x1) = Int32.toInt v6 - Int32.toInt x1 := ta_sub _ _ (by omega)
    rw [← ev8] at f9
    intro v10 ev10
    have f11 := ti_abs v8 (by omega)
    have hv10 := congrArg Int32.toInt ev10
    refine And.intro (fun c12 => ?_) (fun c12 => ?_)
    · skip
      have c12 := (fa_lt _ _).mp c12
      exact ts_X10_marks_66 m_standings m_foot h_m_standings h_m_foot hpost hKn x1 x2 x4 x3 0 m_thrown (by omega) (by omega) (by omega) (by omega) (by omega) (by omega) (by omega)
    · skip
      have c12 := mt (fa_lt _ _).mpr c12
      intro v13 ev13
      have f14 := ti_shl1 7 128 x4 (by decide) (by omega)
      have hv13 := congrArg Int32.toInt ev13
      exact ts_X10_marks_66 m_standings m_foot h_m_standings h_m_foot hpost hKn x1 x2 x4 x3 v13 m_thrown (by omega) (by omega) (by omega) (by omega) (by omega) (by omega) (by omega)
set_option maxHeartbeats 8000000 in
set_option maxRecDepth 200000 in
theorem tb_X10_marks_32 {post : Int32 → Int32 → Prop} (m_standings : Int32) (m_foot : Nat → Int32) (h_m_standings : 0 ≤ Int32.toInt m_standings ∧ Int32.toInt m_standings ≤ 8) (h_m_foot : ∀ k : Nat, 0 ≤ Int32.toInt (m_foot k) ∧ Int32.toInt (m_foot k) ≤ 99) (hpost : ∀ (r : Int32) (m_thrown' : Int32), (-1 ≤ Int32.toInt r ∧ Int32.toInt r ≤ 255) → (0 ≤ Int32.toInt m_thrown' ∧ Int32.toInt m_thrown' ≤ 0) → post r m_thrown') : ∀ (n : Nat) (x1 : Int32) (x2 : Int32) (x3 : Int32) (x4 : Int32) (m_thrown : Int32), (0 ≤ Int32.toInt x1 ∧ Int32.toInt x1 ≤ 99) → (0 ≤ Int32.toInt x2 ∧ Int32.toInt x2 ≤ 99) → (0 ≤ Int32.toInt x3 ∧ Int32.toInt x3 ≤ 255) → (0 ≤ Int32.toInt x4 ∧ Int32.toInt x4 ≤ 8) → (0 ≤ Int32.toInt m_thrown ∧ Int32.toInt m_thrown ≤ 0) → (8 - Int32.toInt x4 < (n : Int)) → wb_X10_marks_32 post m_standings m_foot n x1 x2 x3 x4 m_thrown := by
  intro n
  induction n with
  | zero =>
    intro x1 x2 x3 x4 m_thrown h_x1 h_x2 h_x3 h_x4 h_m_thrown hm
    exfalso; omega
  | succ n ih =>
    intro x1 x2 x3 x4 m_thrown h_x1 h_x2 h_x3 h_x4 h_m_thrown hm
    exact ts_X10_marks_32 m_standings m_foot h_m_standings h_m_foot hpost ih x1 x2 x3 x4 m_thrown h_x1 h_x2 h_x3 h_x4 h_m_thrown (by omega)
set_option maxHeartbeats 8000000 in
set_option maxRecDepth 200000 in
theorem t_X10_marks {post : Int32 → Int32 → Prop} {p0 : Int32} {p1 : Int32} {m_standings : Int32} {m_thrown : Int32} {m_foot : Nat → Int32} (h_m_standings : 0 ≤ Int32.toInt m_standings ∧ Int32.toInt m_standings ≤ 8) (h_m_thrown : 0 ≤ Int32.toInt m_thrown ∧ Int32.toInt m_thrown ≤ 1) (h_m_foot : ∀ k : Nat, 0 ≤ Int32.toInt (m_foot k) ∧ Int32.toInt (m_foot k) ≤ 99) (hpost : ∀ (r : Int32) (m_thrown' : Int32), (-1 ≤ Int32.toInt r ∧ Int32.toInt r ≤ 255) → (0 ≤ Int32.toInt m_thrown' ∧ Int32.toInt m_thrown' ≤ 0) → post r m_thrown') : wp_X10_marks post p0 p1 m_standings m_thrown m_foot := by
  have l0 : Int32.toInt ((-1) : Int32) = -1 := (by decide)
  have l1 : Int32.toInt (0 : Int32) = 0 := (by decide)
  have l2 : Int32.toInt (99 : Int32) = 99 := (by decide)
  have f16 := tp_r p0
  refine And.intro (fun c15 => ?_) (fun c15 => ?_)
  · skip
    have c15 := (fa_lt _ _).mp c15
    refine And.intro (fun _ => ?_) (fun h9 => absurd h9 (by decide))
    exact hpost _ _ (by omega) (by omega)
  · skip
    have c15 := mt (fa_lt _ _).mpr c15
    refine And.intro (fun c17 => ?_) (fun c17 => ?_)
    · skip
      have c17 := (fa_lt _ _).mp c17
      refine And.intro (fun _ => ?_) (fun h9 => absurd h9 (by decide))
      exact hpost _ _ (by omega) (by omega)
    · skip
      have c17 := mt (fa_lt _ _).mpr c17
      refine And.intro (fun h9 => absurd h9 (by decide)) (fun _ => ?_)
      have f19 := tp_r p1
      refine And.intro (fun c18 => ?_) (fun c18 => ?_)
      · skip
        have c18 := (fa_lt _ _).mp c18
        refine And.intro (fun h9 => absurd h9 (by decide)) (fun _ => ?_)
        exact hpost _ _ (by omega) (by omega)
      · skip
        have c18 := mt (fa_lt _ _).mpr c18
        refine And.intro (fun c20 => ?_) (fun c20 => ?_)
        · skip
          have c20 := (fa_lt _ _).mp c20
          refine And.intro (fun h9 => absurd h9 (by decide)) (fun _ => ?_)
          exact hpost _ _ (by omega) (by omega)
        · skip
          have c20 := mt (fa_lt _ _).mpr c20
          refine And.intro (fun _ => ?_) (fun h9 => absurd h9 (by decide))
          exact ⟨10, tb_X10_marks_32 m_standings m_foot h_m_standings h_m_foot hpost _ p0 p1 0 0 0 (by omega) (by omega) (by omega) (by omega) (by omega) (by omega)⟩
set_option maxHeartbeats 8000000 in
set_option maxRecDepth 200000 in
theorem ts_X10_fits_156 {post : Int32 → Int32 → Int32 → Int32 → (Nat → Int32) → (Nat → Int32) → Prop} {SB : Int} {K73 : Int32 → Int32 → Int32 → Int32 → Int32 → Int32 → Int32 → Int32 → Int32 → (Nat → Int32) → (Nat → Int32) → Prop} {n73 : Int} (m_fruits : Int32) (m_standings : Int32) (m_now : Nat → Int32) (m_x : Nat → Int32) (m_height : Nat → Int32) (m_ripe : Nat → Int32) (m_foot : Nat → Int32) (m_fork : Nat → Int32) (m_told : Nat → Int32) (h_m_fruits : 0 ≤ Int32.toInt m_fruits ∧ Int32.toInt m_fruits ≤ 16) (h_m_standings : 0 ≤ Int32.toInt m_standings ∧ Int32.toInt m_standings ≤ 8) (e0_m_now : ∀ k : Nat, k = 17 → -1 ≤ Int32.toInt (m_now k) ∧ Int32.toInt (m_now k) ≤ SB) (e1_m_now : ∀ k : Nat, k = 19 → 0 ≤ Int32.toInt (m_now k) ∧ Int32.toInt (m_now k) ≤ 9) (h_m_x : ∀ k : Nat, 0 ≤ Int32.toInt (m_x k) ∧ Int32.toInt (m_x k) ≤ 99) (h_m_height : ∀ k : Nat, 0 ≤ Int32.toInt (m_height k) ∧ Int32.toInt (m_height k) ≤ 99) (h_m_ripe : ∀ k : Nat, 0 ≤ Int32.toInt (m_ripe k) ∧ Int32.toInt (m_ripe k) ≤ 9) (h_m_foot : ∀ k : Nat, 0 ≤ Int32.toInt (m_foot k) ∧ Int32.toInt (m_foot k) ≤ 99) (h_m_fork : ∀ k : Nat, 0 ≤ Int32.toInt (m_fork k) ∧ Int32.toInt (m_fork k) ≤ 99) (e0_m_told : ∀ k : Nat, k = 4 → 1 ≤ Int32.toInt (m_told k) ∧ Int32.toInt (m_told k) ≤ 30) (e1_m_told : ∀ k : Nat, k = 3 → 0 ≤ Int32.toInt (m_told k) ∧ Int32.toInt (m_told k) ≤ 9) (hc0 : -1 ≤ SB ∧ SB ≤ 7) (hc1 : (Int32.toInt m_standings ≤ 0 ∧ SB = 0) ∨ (1 ≤ Int32.toInt m_standings ∧ SB = Int32.toInt m_standings - 1)) (hpost : ∀ (r : Int32) (m_rowMany' : Int32) (m_thrown' : Int32) (m_wanted' : Int32) (m_row' : Nat → Int32) (m_hand' : Nat → Int32), (0 ≤ Int32.toInt m_rowMany' ∧ Int32.toInt m_rowMany' ≤ 16) → (0 ≤ Int32.toInt m_thrown' ∧ Int32.toInt m_thrown' ≤ 0) → (0 ≤ Int32.toInt m_wanted' ∧ Int32.toInt m_wanted' ≤ 65535) → (∀ k : Nat, 0 ≤ Int32.toInt (m_hand' k) ∧ Int32.toInt (m_hand' k) ≤ 65535) → post r m_rowMany' m_thrown' m_wanted' m_row' m_hand') (hK73 : ∀ (x1 : Int32) (x2 : Int32) (x3 : Int32) (x4 : Int32) (x5 : Int32) (x6 : Int32) (m_rowMany : Int32) (m_thrown : Int32) (m_wanted : Int32) (m_row : Nat → Int32) (m_hand : Nat → Int32), (0 ≤ Int32.toInt x1 ∧ Int32.toInt x1 ≤ 65535) → (0 ≤ Int32.toInt x2 ∧ Int32.toInt x2 ≤ 255) → (-1 ≤ Int32.toInt x4 ∧ Int32.toInt x4 ≤ 255) → (-1 ≤ Int32.toInt x5 ∧ Int32.toInt x5 ≤ 255) → (0 ≤ Int32.toInt x6 ∧ Int32.toInt x6 ≤ 256) → (0 ≤ Int32.toInt m_rowMany ∧ Int32.toInt m_rowMany ≤ 16) → (0 ≤ Int32.toInt m_thrown ∧ Int32.toInt m_thrown ≤ 0) → (0 ≤ Int32.toInt m_wanted ∧ Int32.toInt m_wanted ≤ 65535) → (∀ k : Nat, 0 ≤ Int32.toInt (m_hand k) ∧ Int32.toInt (m_hand k) ≤ 65535) → (256 - Int32.toInt x6 < n73) → K73 x1 x2 x3 x4 x5 x6 m_rowMany m_thrown m_wanted m_row m_hand) (x1 : Int32) (x2 : Int32) (x3 : Int32) (x4 : Int32) (x5 : Int32) (x6 : Int32) (m_rowMany : Int32) (m_thrown : Int32) (m_wanted : Int32) (m_row : Nat → Int32) (m_hand : Nat → Int32) (h_x1 : 0 ≤ Int32.toInt x1 ∧ Int32.toInt x1 ≤ 65535) (h_x2 : 0 ≤ Int32.toInt x2 ∧ Int32.toInt x2 ≤ 255) (h_x4 : -1 ≤ Int32.toInt x4 ∧ Int32.toInt x4 ≤ 255) (h_x5 : -1 ≤ Int32.toInt x5 ∧ Int32.toInt x5 ≤ 255) (h_x6 : 0 ≤ Int32.toInt x6 ∧ Int32.toInt x6 ≤ 255) (h_m_rowMany : 0 ≤ Int32.toInt m_rowMany ∧ Int32.toInt m_rowMany ≤ 16) (h_m_thrown : 0 ≤ Int32.toInt m_thrown ∧ Int32.toInt m_thrown ≤ 0) (h_m_wanted : 0 ≤ Int32.toInt m_wanted ∧ Int32.toInt m_wanted ≤ 65535) (h_m_hand : ∀ k : Nat, 0 ≤ Int32.toInt (m_hand k) ∧ Int32.toInt (m_hand k) ≤ 65535) (hn73 : 256 - Int32.toInt x6 ≤ n73) : ws_X10_fits_156 post K73 m_fruits m_standings m_now m_x m_height m_ripe m_foot m_fork m_told x1 x2 x3 x4 x5 x6 m_rowMany m_thrown m_wanted m_row m_hand := by
  have l0 : Int32.toInt (1 : Int32) = 1 := (by decide)
  intro v1 ev1
  have f2 : Int32.toInt (x6 + 1) = Int32.toInt x6 + Int32.toInt (1 : Int32) := ta_add _ _ (by omega)
  rw [← ev1] at f2
  have f3 := tp_r x3
  exact hK73 x1 x2 x3 x4 x5 v1 m_rowMany m_thrown m_wanted m_row m_hand (by omega) (by omega) (by omega) (by omega) (by omega) (by omega) (by omega) (by omega) (fun k => by have q9 := h_m_hand k; omega) (by omega)
set_option maxHeartbeats 8000000 in
set_option maxRecDepth 200000 in
theorem ts_X10_fits_152 {post : Int32 → Int32 → Int32 → Int32 → (Nat → Int32) → (Nat → Int32) → Prop} {SB : Int} {K73 : Int32 → Int32 → Int32 → Int32 → Int32 → Int32 → Int32 → Int32 → Int32 → (Nat → Int32) → (Nat → Int32) → Prop} {n73 : Int} (m_fruits : Int32) (m_standings : Int32) (m_now : Nat → Int32) (m_x : Nat → Int32) (m_height : Nat → Int32) (m_ripe : Nat → Int32) (m_foot : Nat → Int32) (m_fork : Nat → Int32) (m_told : Nat → Int32) (h_m_fruits : 0 ≤ Int32.toInt m_fruits ∧ Int32.toInt m_fruits ≤ 16) (h_m_standings : 0 ≤ Int32.toInt m_standings ∧ Int32.toInt m_standings ≤ 8) (e0_m_now : ∀ k : Nat, k = 17 → -1 ≤ Int32.toInt (m_now k) ∧ Int32.toInt (m_now k) ≤ SB) (e1_m_now : ∀ k : Nat, k = 19 → 0 ≤ Int32.toInt (m_now k) ∧ Int32.toInt (m_now k) ≤ 9) (h_m_x : ∀ k : Nat, 0 ≤ Int32.toInt (m_x k) ∧ Int32.toInt (m_x k) ≤ 99) (h_m_height : ∀ k : Nat, 0 ≤ Int32.toInt (m_height k) ∧ Int32.toInt (m_height k) ≤ 99) (h_m_ripe : ∀ k : Nat, 0 ≤ Int32.toInt (m_ripe k) ∧ Int32.toInt (m_ripe k) ≤ 9) (h_m_foot : ∀ k : Nat, 0 ≤ Int32.toInt (m_foot k) ∧ Int32.toInt (m_foot k) ≤ 99) (h_m_fork : ∀ k : Nat, 0 ≤ Int32.toInt (m_fork k) ∧ Int32.toInt (m_fork k) ≤ 99) (e0_m_told : ∀ k : Nat, k = 4 → 1 ≤ Int32.toInt (m_told k) ∧ Int32.toInt (m_told k) ≤ 30) (e1_m_told : ∀ k : Nat, k = 3 → 0 ≤ Int32.toInt (m_told k) ∧ Int32.toInt (m_told k) ≤ 9) (hc0 : -1 ≤ SB ∧ SB ≤ 7) (hc1 : (Int32.toInt m_standings ≤ 0 ∧ SB = 0) ∨ (1 ≤ Int32.toInt m_standings ∧ SB = Int32.toInt m_standings - 1)) (hpost : ∀ (r : Int32) (m_rowMany' : Int32) (m_thrown' : Int32) (m_wanted' : Int32) (m_row' : Nat → Int32) (m_hand' : Nat → Int32), (0 ≤ Int32.toInt m_rowMany' ∧ Int32.toInt m_rowMany' ≤ 16) → (0 ≤ Int32.toInt m_thrown' ∧ Int32.toInt m_thrown' ≤ 0) → (0 ≤ Int32.toInt m_wanted' ∧ Int32.toInt m_wanted' ≤ 65535) → (∀ k : Nat, 0 ≤ Int32.toInt (m_hand' k) ∧ Int32.toInt (m_hand' k) ≤ 65535) → post r m_rowMany' m_thrown' m_wanted' m_row' m_hand') (hK73 : ∀ (x1 : Int32) (x2 : Int32) (x3 : Int32) (x4 : Int32) (x5 : Int32) (x6 : Int32) (m_rowMany : Int32) (m_thrown : Int32) (m_wanted : Int32) (m_row : Nat → Int32) (m_hand : Nat → Int32), (0 ≤ Int32.toInt x1 ∧ Int32.toInt x1 ≤ 65535) → (0 ≤ Int32.toInt x2 ∧ Int32.toInt x2 ≤ 255) → (-1 ≤ Int32.toInt x4 ∧ Int32.toInt x4 ≤ 255) → (-1 ≤ Int32.toInt x5 ∧ Int32.toInt x5 ≤ 255) → (0 ≤ Int32.toInt x6 ∧ Int32.toInt x6 ≤ 256) → (0 ≤ Int32.toInt m_rowMany ∧ Int32.toInt m_rowMany ≤ 16) → (0 ≤ Int32.toInt m_thrown ∧ Int32.toInt m_thrown ≤ 0) → (0 ≤ Int32.toInt m_wanted ∧ Int32.toInt m_wanted ≤ 65535) → (∀ k : Nat, 0 ≤ Int32.toInt (m_hand k) ∧ Int32.toInt (m_hand k) ≤ 65535) → (256 - Int32.toInt x6 < n73) → K73 x1 x2 x3 x4 x5 x6 m_rowMany m_thrown m_wanted m_row m_hand) (x1 : Int32) (x2 : Int32) (x3 : Int32) (x4 : Int32) (x6 : Int32) (m_rowMany : Int32) (m_thrown : Int32) (m_wanted : Int32) (m_row : Nat → Int32) (m_hand : Nat → Int32) (h_x1 : 0 ≤ Int32.toInt x1 ∧ Int32.toInt x1 ≤ 65535) (h_x2 : 0 ≤ Int32.toInt x2 ∧ Int32.toInt x2 ≤ 255) (h_x4 : 0 ≤ Int32.toInt x4 ∧ Int32.toInt x4 ≤ 255) (h_x6 : 0 ≤ Int32.toInt x6 ∧ Int32.toInt x6 ≤ 255) (h_m_rowMany : 0 ≤ Int32.toInt m_rowMany ∧ Int32.toInt m_rowMany ≤ 16) (h_m_thrown : 0 ≤ Int32.toInt m_thrown ∧ Int32.toInt m_thrown ≤ 0) (h_m_wanted : 0 ≤ Int32.toInt m_wanted ∧ Int32.toInt m_wanted ≤ 65535) (h_m_hand : ∀ k : Nat, 0 ≤ Int32.toInt (m_hand k) ∧ Int32.toInt (m_hand k) ≤ 65535) (hn73 : 256 - Int32.toInt x6 ≤ n73) : ws_X10_fits_152 post K73 m_fruits m_standings m_now m_x m_height m_ripe m_foot m_fork m_told x1 x2 x3 x4 x6 m_rowMany m_thrown m_wanted m_row m_hand := by
  have f4 := tp_r x3
  exact ts_X10_fits_156 m_fruits m_standings m_now m_x m_height m_ripe m_foot m_fork m_told h_m_fruits h_m_standings e0_m_now e1_m_now h_m_x h_m_height h_m_ripe h_m_foot h_m_fork e0_m_told e1_m_told hc0 hc1 hpost hK73 x1 x2 x3 x4 x6 x6 m_rowMany m_thrown m_wanted m_row m_hand (by omega) (by omega) (by omega) (by omega) (by omega) (by omega) (by omega) (by omega) (fun k => by have q9 := h_m_hand k; omega) (by omega)
set_option maxHeartbeats 8000000 in
set_option maxRecDepth 200000 in
theorem ts_X10_fits_133 {post : Int32 → Int32 → Int32 → Int32 → (Nat → Int32) → (Nat → Int32) → Prop} {SB : Int} {K73 : Int32 → Int32 → Int32 → Int32 → Int32 → Int32 → Int32 → Int32 → Int32 → (Nat → Int32) → (Nat → Int32) → Prop} {n73 : Int} (m_fruits : Int32) (m_standings : Int32) (m_now : Nat → Int32) (m_x : Nat → Int32) (m_height : Nat → Int32) (m_ripe : Nat → Int32) (m_foot : Nat → Int32) (m_fork : Nat → Int32) (m_told : Nat → Int32) (h_m_fruits : 0 ≤ Int32.toInt m_fruits ∧ Int32.toInt m_fruits ≤ 16) (h_m_standings : 0 ≤ Int32.toInt m_standings ∧ Int32.toInt m_standings ≤ 8) (e0_m_now : ∀ k : Nat, k = 17 → -1 ≤ Int32.toInt (m_now k) ∧ Int32.toInt (m_now k) ≤ SB) (e1_m_now : ∀ k : Nat, k = 19 → 0 ≤ Int32.toInt (m_now k) ∧ Int32.toInt (m_now k) ≤ 9) (h_m_x : ∀ k : Nat, 0 ≤ Int32.toInt (m_x k) ∧ Int32.toInt (m_x k) ≤ 99) (h_m_height : ∀ k : Nat, 0 ≤ Int32.toInt (m_height k) ∧ Int32.toInt (m_height k) ≤ 99) (h_m_ripe : ∀ k : Nat, 0 ≤ Int32.toInt (m_ripe k) ∧ Int32.toInt (m_ripe k) ≤ 9) (h_m_foot : ∀ k : Nat, 0 ≤ Int32.toInt (m_foot k) ∧ Int32.toInt (m_foot k) ≤ 99) (h_m_fork : ∀ k : Nat, 0 ≤ Int32.toInt (m_fork k) ∧ Int32.toInt (m_fork k) ≤ 99) (e0_m_told : ∀ k : Nat, k = 4 → 1 ≤ Int32.toInt (m_told k) ∧ Int32.toInt (m_told k) ≤ 30) (e1_m_told : ∀ k : Nat, k = 3 → 0 ≤ Int32.toInt (m_told k) ∧ Int32.toInt (m_told k) ≤ 9) (hc0 : -1 ≤ SB ∧ SB ≤ 7) (hc1 : (Int32.toInt m_standings ≤ 0 ∧ SB = 0) ∨ (1 ≤ Int32.toInt m_standings ∧ SB = Int32.toInt m_standings - 1)) (hpost : ∀ (r : Int32) (m_rowMany' : Int32) (m_thrown' : Int32) (m_wanted' : Int32) (m_row' : Nat → Int32) (m_hand' : Nat → Int32), (0 ≤ Int32.toInt m_rowMany' ∧ Int32.toInt m_rowMany' ≤ 16) → (0 ≤ Int32.toInt m_thrown' ∧ Int32.toInt m_thrown' ≤ 0) → (0 ≤ Int32.toInt m_wanted' ∧ Int32.toInt m_wanted' ≤ 65535) → (∀ k : Nat, 0 ≤ Int32.toInt (m_hand' k) ∧ Int32.toInt (m_hand' k) ≤ 65535) → post r m_rowMany' m_thrown' m_wanted' m_row' m_hand') (hK73 : ∀ (x1 : Int32) (x2 : Int32) (x3 : Int32) (x4 : Int32) (x5 : Int32) (x6 : Int32) (m_rowMany : Int32) (m_thrown : Int32) (m_wanted : Int32) (m_row : Nat → Int32) (m_hand : Nat → Int32), (0 ≤ Int32.toInt x1 ∧ Int32.toInt x1 ≤ 65535) → (0 ≤ Int32.toInt x2 ∧ Int32.toInt x2 ≤ 255) → (-1 ≤ Int32.toInt x4 ∧ Int32.toInt x4 ≤ 255) → (-1 ≤ Int32.toInt x5 ∧ Int32.toInt x5 ≤ 255) → (0 ≤ Int32.toInt x6 ∧ Int32.toInt x6 ≤ 256) → (0 ≤ Int32.toInt m_rowMany ∧ Int32.toInt m_rowMany ≤ 16) → (0 ≤ Int32.toInt m_thrown ∧ Int32.toInt m_thrown ≤ 0) → (0 ≤ Int32.toInt m_wanted ∧ Int32.toInt m_wanted ≤ 65535) → (∀ k : Nat, 0 ≤ Int32.toInt (m_hand k) ∧ Int32.toInt (m_hand k) ≤ 65535) → (256 - Int32.toInt x6 < n73) → K73 x1 x2 x3 x4 x5 x6 m_rowMany m_thrown m_wanted m_row m_hand) (x1 : Int32) (x2 : Int32) (x3 : Int32) (x4 : Int32) (x5 : Int32) (x6 : Int32) (m_rowMany : Int32) (m_thrown : Int32) (m_wanted : Int32) (m_row : Nat → Int32) (m_hand : Nat → Int32) (h_x1 : 0 ≤ Int32.toInt x1 ∧ Int32.toInt x1 ≤ 65535) (h_x2 : 0 ≤ Int32.toInt x2 ∧ Int32.toInt x2 ≤ 255) (h_x4 : 0 ≤ Int32.toInt x4 ∧ Int32.toInt x4 ≤ 255) (h_x5 : -1 ≤ Int32.toInt x5 ∧ Int32.toInt x5 ≤ 255) (h_x6 : 0 ≤ Int32.toInt x6 ∧ Int32.toInt x6 ≤ 255) (h_m_rowMany : 0 ≤ Int32.toInt m_rowMany ∧ Int32.toInt m_rowMany ≤ 16) (h_m_thrown : 0 ≤ Int32.toInt m_thrown ∧ Int32.toInt m_thrown ≤ 0) (h_m_wanted : 0 ≤ Int32.toInt m_wanted ∧ Int32.toInt m_wanted ≤ 65535) (h_m_hand : ∀ k : Nat, 0 ≤ Int32.toInt (m_hand k) ∧ Int32.toInt (m_hand k) ≤ 65535) (hn73 : 256 - Int32.toInt x6 ≤ n73) : ws_X10_fits_133 post K73 m_fruits m_standings m_now m_x m_height m_ripe m_foot m_fork m_told x1 x2 x3 x4 x5 x6 m_rowMany m_thrown m_wanted m_row m_hand := by
  have l0 : Int32.toInt ((-1) : Int32) = -1 := (by decide)
  have l1 : Int32.toInt (1431655765 : Int32) = 1431655765 := (by decide)
  have l2 : Int32.toInt (252645135 : Int32) = 252645135 := (by decide)
  have l3 : Int32.toInt (63 : Int32) = 63 := (by decide)
  have l4 : Int32.toInt (858993459 : Int32) = 858993459 := (by decide)
  refine And.intro (fun c5 => ?_) (fun c5 => ?_)
  · skip
    have c5 := (fa_eq _ _).mp c5
    have f6 := tp_r x3
    exact ts_X10_fits_152 m_fruits m_standings m_now m_x m_height m_ripe m_foot m_fork m_told h_m_fruits h_m_standings e0_m_now e1_m_now h_m_x h_m_height h_m_ripe h_m_foot h_m_fork e0_m_told e1_m_told hc0 hc1 hpost hK73 x1 x2 x3 x4 x6 m_rowMany m_thrown m_wanted m_row m_hand (by omega) (by omega) (by omega) (by omega) (by omega) (by omega) (by omega) (fun k => by have q9 := h_m_hand k; omega) (by omega)
  · skip
    have c5 := mt (fa_eq _ _).mpr c5
    intro v7 ev7
    intro v8 ev8
    have f10 := ti_andr v7 1431655765 (by omega)
    have f9 : Int32.toInt (x6 - (v7 &&& 1431655765)) = Int32.toInt x6 - Int32.toInt (v7 &&& 1431655765) := ta_sub _ _ (by omega)
    rw [← ev8] at f9
    intro v11 ev11
    have f12 := ti_andr v8 858993459 (by omega)
    have hv11 := congrArg Int32.toInt ev11
    intro v13 ev13
    intro v14 ev14
    have f16 := ti_andr v13 858993459 (by omega)
    have f15 : Int32.toInt (v11 + (v13 &&& 858993459)) = Int32.toInt v11 + Int32.toInt (v13 &&& 858993459) := ta_add _ _ (by omega)
    rw [← ev14] at f15
    intro v17 ev17
    have hv17 := congrArg Int32.toInt ev17
    intro v19 ev19
    have f20 := ti_andr v17 252645135 (by omega)
    have hv19 := congrArg Int32.toInt ev19
    intro v21 ev21
    have hv21 := congrArg Int32.toInt ev21
    intro v23 ev23
    have hv23 := congrArg Int32.toInt ev23
    intro v25 ev25
    intro v26 ev26
    have f28 := ti_andr v25 1431655765 (by omega)
    have f27 : Int32.toInt (x5 - (v25 &&& 1431655765)) = Int32.toInt x5 - Int32.toInt (v25 &&& 1431655765) := ta_sub _ _ (by omega)
    rw [← ev26] at f27
    intro v29 ev29
    have f30 := ti_andr v26 858993459 (by omega)
    have hv29 := congrArg Int32.toInt ev29
    intro v31 ev31
    intro v32 ev32
    have f34 := ti_andr v31 858993459 (by omega)
    have f33 : Int32.toInt (v29 + (v31 &&& 858993459)) = Int32.toInt v29 + Int32.toInt (v31 &&& 858993459) := ta_add _ _ (by omega)
    rw [← ev32] at f33
    intro v35 ev35
    have hv35 := congrArg Int32.toInt ev35
    intro v37 ev37
    have f38 := ti_andr v35 252645135 (by omega)
    have hv37 := congrArg Int32.toInt ev37
    intro v39 ev39
    have hv39 := congrArg Int32.toInt ev39
    intro v41 ev41
    have hv41 := congrArg Int32.toInt ev41
    have f44 := ti_andr v23 63 (by omega)
    have f45 := ti_andr v41 63 (by omega)
    refine And.intro (fun c43 => ?_) (fun c43 => ?_)
    · skip
      have c43 := (fa_le _ _).mp c43
      have f46 := tp_r x3
      exact ts_X10_fits_156 m_fruits m_standings m_now m_x m_height m_ripe m_foot m_fork m_told h_m_fruits h_m_standings e0_m_now e1_m_now h_m_x h_m_height h_m_ripe h_m_foot h_m_fork e0_m_told e1_m_told hc0 hc1 hpost hK73 x1 x2 x3 x4 x5 x6 m_rowMany m_thrown m_wanted m_row m_hand (by omega) (by omega) (by omega) (by omega) (by omega) (by omega) (by omega) (by omega) (fun k => by have q9 := h_m_hand k; omega) (by omega)
    · skip
      have c43 := mt (fa_le _ _).mpr c43
      have f47 := tp_r x3
      exact ts_X10_fits_152 m_fruits m_standings m_now m_x m_height m_ripe m_foot m_fork m_told h_m_fruits h_m_standings e0_m_now e1_m_now h_m_x h_m_height h_m_ripe h_m_foot h_m_fork e0_m_told e1_m_told hc0 hc1 hpost hK73 x1 x2 x3 x4 x6 m_rowMany m_thrown m_wanted m_row m_hand (by omega) (by omega) (by omega) (by omega) (by omega) (by omega) (by omega) (fun k => by have q9 := h_m_hand k; omega) (by omega)
set_option maxHeartbeats 8000000 in
set_option maxRecDepth 200000 in
theorem ts_X10_fits_129 {post : Int32 → Int32 → Int32 → Int32 → (Nat → Int32) → (Nat → Int32) → Prop} {SB : Int} {K73 : Int32 → Int32 → Int32 → Int32 → Int32 → Int32 → Int32 → Int32 → Int32 → (Nat → Int32) → (Nat → Int32) → Prop} {n73 : Int} (m_fruits : Int32) (m_standings : Int32) (m_now : Nat → Int32) (m_x : Nat → Int32) (m_height : Nat → Int32) (m_ripe : Nat → Int32) (m_foot : Nat → Int32) (m_fork : Nat → Int32) (m_told : Nat → Int32) (h_m_fruits : 0 ≤ Int32.toInt m_fruits ∧ Int32.toInt m_fruits ≤ 16) (h_m_standings : 0 ≤ Int32.toInt m_standings ∧ Int32.toInt m_standings ≤ 8) (e0_m_now : ∀ k : Nat, k = 17 → -1 ≤ Int32.toInt (m_now k) ∧ Int32.toInt (m_now k) ≤ SB) (e1_m_now : ∀ k : Nat, k = 19 → 0 ≤ Int32.toInt (m_now k) ∧ Int32.toInt (m_now k) ≤ 9) (h_m_x : ∀ k : Nat, 0 ≤ Int32.toInt (m_x k) ∧ Int32.toInt (m_x k) ≤ 99) (h_m_height : ∀ k : Nat, 0 ≤ Int32.toInt (m_height k) ∧ Int32.toInt (m_height k) ≤ 99) (h_m_ripe : ∀ k : Nat, 0 ≤ Int32.toInt (m_ripe k) ∧ Int32.toInt (m_ripe k) ≤ 9) (h_m_foot : ∀ k : Nat, 0 ≤ Int32.toInt (m_foot k) ∧ Int32.toInt (m_foot k) ≤ 99) (h_m_fork : ∀ k : Nat, 0 ≤ Int32.toInt (m_fork k) ∧ Int32.toInt (m_fork k) ≤ 99) (e0_m_told : ∀ k : Nat, k = 4 → 1 ≤ Int32.toInt (m_told k) ∧ Int32.toInt (m_told k) ≤ 30) (e1_m_told : ∀ k : Nat, k = 3 → 0 ≤ Int32.toInt (m_told k) ∧ Int32.toInt (m_told k) ≤ 9) (hc0 : -1 ≤ SB ∧ SB ≤ 7) (hc1 : (Int32.toInt m_standings ≤ 0 ∧ SB = 0) ∨ (1 ≤ Int32.toInt m_standings ∧ SB = Int32.toInt m_standings - 1)) (hpost : ∀ (r : Int32) (m_rowMany' : Int32) (m_thrown' : Int32) (m_wanted' : Int32) (m_row' : Nat → Int32) (m_hand' : Nat → Int32), (0 ≤ Int32.toInt m_rowMany' ∧ Int32.toInt m_rowMany' ≤ 16) → (0 ≤ Int32.toInt m_thrown' ∧ Int32.toInt m_thrown' ≤ 0) → (0 ≤ Int32.toInt m_wanted' ∧ Int32.toInt m_wanted' ≤ 65535) → (∀ k : Nat, 0 ≤ Int32.toInt (m_hand' k) ∧ Int32.toInt (m_hand' k) ≤ 65535) → post r m_rowMany' m_thrown' m_wanted' m_row' m_hand') (hK73 : ∀ (x1 : Int32) (x2 : Int32) (x3 : Int32) (x4 : Int32) (x5 : Int32) (x6 : Int32) (m_rowMany : Int32) (m_thrown : Int32) (m_wanted : Int32) (m_row : Nat → Int32) (m_hand : Nat → Int32), (0 ≤ Int32.toInt x1 ∧ Int32.toInt x1 ≤ 65535) → (0 ≤ Int32.toInt x2 ∧ Int32.toInt x2 ≤ 255) → (-1 ≤ Int32.toInt x4 ∧ Int32.toInt x4 ≤ 255) → (-1 ≤ Int32.toInt x5 ∧ Int32.toInt x5 ≤ 255) → (0 ≤ Int32.toInt x6 ∧ Int32.toInt x6 ≤ 256) → (0 ≤ Int32.toInt m_rowMany ∧ Int32.toInt m_rowMany ≤ 16) → (0 ≤ Int32.toInt m_thrown ∧ Int32.toInt m_thrown ≤ 0) → (0 ≤ Int32.toInt m_wanted ∧ Int32.toInt m_wanted ≤ 65535) → (∀ k : Nat, 0 ≤ Int32.toInt (m_hand k) ∧ Int32.toInt (m_hand k) ≤ 65535) → (256 - Int32.toInt x6 < n73) → K73 x1 x2 x3 x4 x5 x6 m_rowMany m_thrown m_wanted m_row m_hand) (x1 : Int32) (x2 : Int32) (x3 : Int32) (x5 : Int32) (x6 : Int32) (m_rowMany : Int32) (m_thrown : Int32) (m_wanted : Int32) (m_row : Nat → Int32) (m_hand : Nat → Int32) (h_x1 : 0 ≤ Int32.toInt x1 ∧ Int32.toInt x1 ≤ 65535) (h_x2 : 0 ≤ Int32.toInt x2 ∧ Int32.toInt x2 ≤ 255) (h_x5 : -1 ≤ Int32.toInt x5 ∧ Int32.toInt x5 ≤ 255) (h_x6 : 0 ≤ Int32.toInt x6 ∧ Int32.toInt x6 ≤ 255) (h_m_rowMany : 0 ≤ Int32.toInt m_rowMany ∧ Int32.toInt m_rowMany ≤ 16) (h_m_thrown : 0 ≤ Int32.toInt m_thrown ∧ Int32.toInt m_thrown ≤ 0) (h_m_wanted : 0 ≤ Int32.toInt m_wanted ∧ Int32.toInt m_wanted ≤ 65535) (h_m_hand : ∀ k : Nat, 0 ≤ Int32.toInt (m_hand k) ∧ Int32.toInt (m_hand k) ≤ 65535) (hn73 : 256 - Int32.toInt x6 ≤ n73) : ws_X10_fits_129 post K73 m_fruits m_standings m_now m_x m_height m_ripe m_foot m_fork m_told x1 x2 x3 x5 x6 m_rowMany m_thrown m_wanted m_row m_hand := by
  have f48 := tp_r x3
  exact ts_X10_fits_133 m_fruits m_standings m_now m_x m_height m_ripe m_foot m_fork m_told h_m_fruits h_m_standings e0_m_now e1_m_now h_m_x h_m_height h_m_ripe h_m_foot h_m_fork e0_m_told e1_m_told hc0 hc1 hpost hK73 x1 x2 x3 x6 x5 x6 m_rowMany m_thrown m_wanted m_row m_hand (by omega) (by omega) (by omega) (by omega) (by omega) (by omega) (by omega) (by omega) (fun k => by have q9 := h_m_hand k; omega) (by omega)
set_option maxHeartbeats 8000000 in
set_option maxRecDepth 200000 in
theorem ts_X10_fits_73 {post : Int32 → Int32 → Int32 → Int32 → (Nat → Int32) → (Nat → Int32) → Prop} {SB : Int} {next : Int32 → Int32 → Int32 → Int32 → Int32 → Int32 → Int32 → Int32 → Int32 → (Nat → Int32) → (Nat → Int32) → Prop} {n73 : Int} (m_fruits : Int32) (m_standings : Int32) (m_now : Nat → Int32) (m_x : Nat → Int32) (m_height : Nat → Int32) (m_ripe : Nat → Int32) (m_foot : Nat → Int32) (m_fork : Nat → Int32) (m_told : Nat → Int32) (h_m_fruits : 0 ≤ Int32.toInt m_fruits ∧ Int32.toInt m_fruits ≤ 16) (h_m_standings : 0 ≤ Int32.toInt m_standings ∧ Int32.toInt m_standings ≤ 8) (e0_m_now : ∀ k : Nat, k = 17 → -1 ≤ Int32.toInt (m_now k) ∧ Int32.toInt (m_now k) ≤ SB) (e1_m_now : ∀ k : Nat, k = 19 → 0 ≤ Int32.toInt (m_now k) ∧ Int32.toInt (m_now k) ≤ 9) (h_m_x : ∀ k : Nat, 0 ≤ Int32.toInt (m_x k) ∧ Int32.toInt (m_x k) ≤ 99) (h_m_height : ∀ k : Nat, 0 ≤ Int32.toInt (m_height k) ∧ Int32.toInt (m_height k) ≤ 99) (h_m_ripe : ∀ k : Nat, 0 ≤ Int32.toInt (m_ripe k) ∧ Int32.toInt (m_ripe k) ≤ 9) (h_m_foot : ∀ k : Nat, 0 ≤ Int32.toInt (m_foot k) ∧ Int32.toInt (m_foot k) ≤ 99) (h_m_fork : ∀ k : Nat, 0 ≤ Int32.toInt (m_fork k) ∧ Int32.toInt (m_fork k) ≤ 99) (e0_m_told : ∀ k : Nat, k = 4 → 1 ≤ Int32.toInt (m_told k) ∧ Int32.toInt (m_told k) ≤ 30) (e1_m_told : ∀ k : Nat, k = 3 → 0 ≤ Int32.toInt (m_told k) ∧ Int32.toInt (m_told k) ≤ 9) (hc0 : -1 ≤ SB ∧ SB ≤ 7) (hc1 : (Int32.toInt m_standings ≤ 0 ∧ SB = 0) ∨ (1 ≤ Int32.toInt m_standings ∧ SB = Int32.toInt m_standings - 1)) (hpost : ∀ (r : Int32) (m_rowMany' : Int32) (m_thrown' : Int32) (m_wanted' : Int32) (m_row' : Nat → Int32) (m_hand' : Nat → Int32), (0 ≤ Int32.toInt m_rowMany' ∧ Int32.toInt m_rowMany' ≤ 16) → (0 ≤ Int32.toInt m_thrown' ∧ Int32.toInt m_thrown' ≤ 0) → (0 ≤ Int32.toInt m_wanted' ∧ Int32.toInt m_wanted' ≤ 65535) → (∀ k : Nat, 0 ≤ Int32.toInt (m_hand' k) ∧ Int32.toInt (m_hand' k) ≤ 65535) → post r m_rowMany' m_thrown' m_wanted' m_row' m_hand') (hKn : ∀ (x1 : Int32) (x2 : Int32) (x3 : Int32) (x4 : Int32) (x5 : Int32) (x6 : Int32) (m_rowMany : Int32) (m_thrown : Int32) (m_wanted : Int32) (m_row : Nat → Int32) (m_hand : Nat → Int32), (0 ≤ Int32.toInt x1 ∧ Int32.toInt x1 ≤ 65535) → (0 ≤ Int32.toInt x2 ∧ Int32.toInt x2 ≤ 255) → (-1 ≤ Int32.toInt x4 ∧ Int32.toInt x4 ≤ 255) → (-1 ≤ Int32.toInt x5 ∧ Int32.toInt x5 ≤ 255) → (0 ≤ Int32.toInt x6 ∧ Int32.toInt x6 ≤ 256) → (0 ≤ Int32.toInt m_rowMany ∧ Int32.toInt m_rowMany ≤ 16) → (0 ≤ Int32.toInt m_thrown ∧ Int32.toInt m_thrown ≤ 0) → (0 ≤ Int32.toInt m_wanted ∧ Int32.toInt m_wanted ≤ 65535) → (∀ k : Nat, 0 ≤ Int32.toInt (m_hand k) ∧ Int32.toInt (m_hand k) ≤ 65535) → (256 - Int32.toInt x6 < n73) → next x1 x2 x3 x4 x5 x6 m_rowMany m_thrown m_wanted m_row m_hand) (x1 : Int32) (x2 : Int32) (x3 : Int32) (x4 : Int32) (x5 : Int32) (x6 : Int32) (m_rowMany : Int32) (m_thrown : Int32) (m_wanted : Int32) (m_row : Nat → Int32) (m_hand : Nat → Int32) (h_x1 : 0 ≤ Int32.toInt x1 ∧ Int32.toInt x1 ≤ 65535) (h_x2 : 0 ≤ Int32.toInt x2 ∧ Int32.toInt x2 ≤ 255) (h_x4 : -1 ≤ Int32.toInt x4 ∧ Int32.toInt x4 ≤ 255) (h_x5 : -1 ≤ Int32.toInt x5 ∧ Int32.toInt x5 ≤ 255) (h_x6 : 0 ≤ Int32.toInt x6 ∧ Int32.toInt x6 ≤ 256) (h_m_rowMany : 0 ≤ Int32.toInt m_rowMany ∧ Int32.toInt m_rowMany ≤ 16) (h_m_thrown : 0 ≤ Int32.toInt m_thrown ∧ Int32.toInt m_thrown ≤ 0) (h_m_wanted : 0 ≤ Int32.toInt m_wanted ∧ Int32.toInt m_wanted ≤ 65535) (h_m_hand : ∀ k : Nat, 0 ≤ Int32.toInt (m_hand k) ∧ Int32.toInt (m_hand k) ≤ 65535) (hn73 : 256 - Int32.toInt x6 ≤ n73) : ws_X10_fits_73 post next m_fruits m_standings m_now m_x m_height m_ripe m_foot m_fork m_told x1 x2 x3 x4 x5 x6 m_rowMany m_thrown m_wanted m_row m_hand := by
  have l0 : Int32.toInt ((-1) : Int32) = -1 := (by decide)
  have l1 : Int32.toInt (0 : Int32) = 0 := (by decide)
  have l2 : Int32.toInt (1 : Int32) = 1 := (by decide)
  have l3 : Int32.toInt (1431655765 : Int32) = 1431655765 := (by decide)
  have l4 : Int32.toInt (252645135 : Int32) = 252645135 := (by decide)
  have l5 : Int32.toInt (63 : Int32) = 63 := (by decide)
  have l6 : Int32.toInt (858993459 : Int32) = 858993459 := (by decide)
  intro v49 ev49
  have f50 := ti_shl1 8 256 m_standings (by decide) (by omega)
  have hv49 := congrArg Int32.toInt ev49
  have f52 : Int32.toInt (v49 - 1) = Int32.toInt v49 - Int32.toInt (1 : Int32) := ta_sub _ _ (by omega)
  refine And.intro (fun c51 => ?_) (fun c51 => ?_)
  · skip
    have c51 := (fa_lt _ _).mp c51
    refine And.intro (t_in (by omega)) ?_
    intro v53 ev53
    have f54 : Int32.toInt (0 + 1) = Int32.toInt (0 : Int32) + Int32.toInt (1 : Int32) := ta_add _ _ (by omega)
    rw [← ev53] at f54
    refine And.intro (t_in (by omega)) ?_
    intro v55 ev55
    have f56 : Int32.toInt (v53 + 1) = Int32.toInt v53 + Int32.toInt (1 : Int32) := ta_add _ _ (by omega)
    rw [← ev55] at f56
    exact hpost _ _ _ _ _ _ (by omega) (by omega) (by omega) (fun k => by have q9 := h_m_hand k; omega)
  · skip
    have c51 := mt (fa_lt _ _).mpr c51
    have f59 := ti_andl x6 (x2 ^^^ (-1)) (by omega)
    refine And.intro (fun c57 => ?_) (fun c57 => ?_)
    · skip
      have c57 := mt (fa_eq _ _).mpr c57
      have f60 := tp_r x3
      exact ts_X10_fits_156 m_fruits m_standings m_now m_x m_height m_ripe m_foot m_fork m_told h_m_fruits h_m_standings e0_m_now e1_m_now h_m_x h_m_height h_m_ripe h_m_foot h_m_fork e0_m_told e1_m_told hc0 hc1 hpost hKn x1 x2 x3 x4 x5 x6 m_rowMany m_thrown m_wanted m_row m_hand (by omega) (by omega) (by omega) (by omega) (by omega) (by omega) (by omega) (by omega) (fun k => by have q9 := h_m_hand k; omega) (by omega)
    · skip
      have c57Z := c57
      have c57 := (fa_eq _ _).mp c57
      have s61 := ti_subset x6 x2 (c57Z) (by omega)
      refine t_X10_handOf (by omega) (by omega) (fun k => by have q9 := h_m_hand k; omega) (fun r62 h_r62 => ?_)
      have f65 := ti_andl x1 (r62 ^^^ (-1)) (by omega)
      refine And.intro (fun c63 => ?_) (fun c63 => ?_)
      · skip
        have c63Z := c63
        have c63 := (fa_eq _ _).mp c63
        have s66 := ti_subset x1 r62 (c63Z) (by omega)
        intro v67 ev67
        have hv67 := congrArg Int32.toInt ev67
        refine And.intro (fun c69 => ?_) (fun c69 => ?_)
        · skip
          have c69 := (fa_eq _ _).mp c69
          have f70 := tp_r v67
          exact ts_X10_fits_129 m_fruits m_standings m_now m_x m_height m_ripe m_foot m_fork m_told h_m_fruits h_m_standings e0_m_now e1_m_now h_m_x h_m_height h_m_ripe h_m_foot h_m_fork e0_m_told e1_m_told hc0 hc1 hpost hKn x1 x2 v67 x5 x6 m_rowMany m_thrown m_wanted m_row m_hand (by omega) (by omega) (by omega) (by omega) (by omega) (by omega) (by omega) (fun k => by have q9 := h_m_hand k; omega) (by omega)
        · skip
          have c69 := mt (fa_eq _ _).mpr c69
          intro v71 ev71
          intro v72 ev72
          have f74 := ti_andr v71 1431655765 (by omega)
          have f73 : Int32.toInt (x6 - (v71 &&& 1431655765)) = Int32.toInt x6 - Int32.toInt (v71 &&& 1431655765) := ta_sub _ _ (by omega)
          rw [← ev72] at f73
          intro v75 ev75
          have f76 := ti_andr v72 858993459 (by omega)
          have hv75 := congrArg Int32.toInt ev75
          intro v77 ev77
          intro v78 ev78
          have f80 := ti_andr v77 858993459 (by omega)
          have f79 : Int32.toInt (v75 + (v77 &&& 858993459)) = Int32.toInt v75 + Int32.toInt (v77 &&& 858993459) := ta_add _ _ (by omega)
          rw [← ev78] at f79
          intro v81 ev81
          have hv81 := congrArg Int32.toInt ev81
          intro v83 ev83
          have f84 := ti_andr v81 252645135 (by omega)
          have hv83 := congrArg Int32.toInt ev83
          intro v85 ev85
          have hv85 := congrArg Int32.toInt ev85
          intro v87 ev87
          have hv87 := congrArg Int32.toInt ev87
          intro v89 ev89
          intro v90 ev90
          have f92 := ti_andr v89 1431655765 (by omega)
          have f91 : Int32.toInt (x4 - (v89 &&& 1431655765)) = Int32.toInt x4 - Int32.toInt (v89 &&& 1431655765) := ta_sub _ _ (by omega)
          rw [← ev90] at f91
          intro v93 ev93
          have f94 := ti_andr v90 858993459 (by omega)
          have hv93 := congrArg Int32.toInt ev93
          intro v95 ev95
          intro v96 ev96
          have f98 := ti_andr v95 858993459 (by omega)
          have f97 : Int32.toInt (v93 + (v95 &&& 858993459)) = Int32.toInt v93 + Int32.toInt (v95 &&& 858993459) := ta_add _ _ (by omega)
          rw [← ev96] at f97
          intro v99 ev99
          have hv99 := congrArg Int32.toInt ev99
          intro v101 ev101
          have f102 := ti_andr v99 252645135 (by omega)
          have hv101 := congrArg Int32.toInt ev101
          intro v103 ev103
          have hv103 := congrArg Int32.toInt ev103
          intro v105 ev105
          have hv105 := congrArg Int32.toInt ev105
          have f108 := ti_andr v87 63 (by omega)
          have f109 := ti_andr v105 63 (by omega)
          refine And.intro (fun c107 => ?_) (fun c107 => ?_)
          · skip
            have c107 := (fa_le _ _).mp c107
            have f110 := tp_r v67
            exact ts_X10_fits_133 m_fruits m_standings m_now m_x m_height m_ripe m_foot m_fork m_told h_m_fruits h_m_standings e0_m_now e1_m_now h_m_x h_m_height h_m_ripe h_m_foot h_m_fork e0_m_told e1_m_told hc0 hc1 hpost hKn x1 x2 v67 x4 x5 x6 m_rowMany m_thrown m_wanted m_row m_hand (by omega) (by omega) (by omega) (by omega) (by omega) (by omega) (by omega) (by omega) (fun k => by have q9 := h_m_hand k; omega) (by omega)
          · skip
            have c107 := mt (fa_le _ _).mpr c107
            have f111 := tp_r v67
            exact ts_X10_fits_129 m_fruits m_standings m_now m_x m_height m_ripe m_foot m_fork m_told h_m_fruits h_m_standings e0_m_now e1_m_now h_m_x h_m_height h_m_ripe h_m_foot h_m_fork e0_m_told e1_m_told hc0 hc1 hpost hKn x1 x2 v67 x5 x6 m_rowMany m_thrown m_wanted m_row m_hand (by omega) (by omega) (by omega) (by omega) (by omega) (by omega) (by omega) (fun k => by have q9 := h_m_hand k; omega) (by omega)
      · skip
        have c63 := mt (fa_eq _ _).mpr c63
        have f112 := tp_r x3
        exact ts_X10_fits_156 m_fruits m_standings m_now m_x m_height m_ripe m_foot m_fork m_told h_m_fruits h_m_standings e0_m_now e1_m_now h_m_x h_m_height h_m_ripe h_m_foot h_m_fork e0_m_told e1_m_told hc0 hc1 hpost hKn x1 x2 x3 x4 x5 x6 m_rowMany m_thrown m_wanted m_row m_hand (by omega) (by omega) (by omega) (by omega) (by omega) (by omega) (by omega) (by omega) (fun k => by have q9 := h_m_hand k; omega) (by omega)
set_option maxHeartbeats 8000000 in
set_option maxRecDepth 200000 in
theorem tb_X10_fits_73 {post : Int32 → Int32 → Int32 → Int32 → (Nat → Int32) → (Nat → Int32) → Prop} {SB : Int} (m_fruits : Int32) (m_standings : Int32) (m_now : Nat → Int32) (m_x : Nat → Int32) (m_height : Nat → Int32) (m_ripe : Nat → Int32) (m_foot : Nat → Int32) (m_fork : Nat → Int32) (m_told : Nat → Int32) (h_m_fruits : 0 ≤ Int32.toInt m_fruits ∧ Int32.toInt m_fruits ≤ 16) (h_m_standings : 0 ≤ Int32.toInt m_standings ∧ Int32.toInt m_standings ≤ 8) (e0_m_now : ∀ k : Nat, k = 17 → -1 ≤ Int32.toInt (m_now k) ∧ Int32.toInt (m_now k) ≤ SB) (e1_m_now : ∀ k : Nat, k = 19 → 0 ≤ Int32.toInt (m_now k) ∧ Int32.toInt (m_now k) ≤ 9) (h_m_x : ∀ k : Nat, 0 ≤ Int32.toInt (m_x k) ∧ Int32.toInt (m_x k) ≤ 99) (h_m_height : ∀ k : Nat, 0 ≤ Int32.toInt (m_height k) ∧ Int32.toInt (m_height k) ≤ 99) (h_m_ripe : ∀ k : Nat, 0 ≤ Int32.toInt (m_ripe k) ∧ Int32.toInt (m_ripe k) ≤ 9) (h_m_foot : ∀ k : Nat, 0 ≤ Int32.toInt (m_foot k) ∧ Int32.toInt (m_foot k) ≤ 99) (h_m_fork : ∀ k : Nat, 0 ≤ Int32.toInt (m_fork k) ∧ Int32.toInt (m_fork k) ≤ 99) (e0_m_told : ∀ k : Nat, k = 4 → 1 ≤ Int32.toInt (m_told k) ∧ Int32.toInt (m_told k) ≤ 30) (e1_m_told : ∀ k : Nat, k = 3 → 0 ≤ Int32.toInt (m_told k) ∧ Int32.toInt (m_told k) ≤ 9) (hc0 : -1 ≤ SB ∧ SB ≤ 7) (hc1 : (Int32.toInt m_standings ≤ 0 ∧ SB = 0) ∨ (1 ≤ Int32.toInt m_standings ∧ SB = Int32.toInt m_standings - 1)) (hpost : ∀ (r : Int32) (m_rowMany' : Int32) (m_thrown' : Int32) (m_wanted' : Int32) (m_row' : Nat → Int32) (m_hand' : Nat → Int32), (0 ≤ Int32.toInt m_rowMany' ∧ Int32.toInt m_rowMany' ≤ 16) → (0 ≤ Int32.toInt m_thrown' ∧ Int32.toInt m_thrown' ≤ 0) → (0 ≤ Int32.toInt m_wanted' ∧ Int32.toInt m_wanted' ≤ 65535) → (∀ k : Nat, 0 ≤ Int32.toInt (m_hand' k) ∧ Int32.toInt (m_hand' k) ≤ 65535) → post r m_rowMany' m_thrown' m_wanted' m_row' m_hand') : ∀ (n : Nat) (x1 : Int32) (x2 : Int32) (x3 : Int32) (x4 : Int32) (x5 : Int32) (x6 : Int32) (m_rowMany : Int32) (m_thrown : Int32) (m_wanted : Int32) (m_row : Nat → Int32) (m_hand : Nat → Int32), (0 ≤ Int32.toInt x1 ∧ Int32.toInt x1 ≤ 65535) → (0 ≤ Int32.toInt x2 ∧ Int32.toInt x2 ≤ 255) → (-1 ≤ Int32.toInt x4 ∧ Int32.toInt x4 ≤ 255) → (-1 ≤ Int32.toInt x5 ∧ Int32.toInt x5 ≤ 255) → (0 ≤ Int32.toInt x6 ∧ Int32.toInt x6 ≤ 256) → (0 ≤ Int32.toInt m_rowMany ∧ Int32.toInt m_rowMany ≤ 16) → (0 ≤ Int32.toInt m_thrown ∧ Int32.toInt m_thrown ≤ 0) → (0 ≤ Int32.toInt m_wanted ∧ Int32.toInt m_wanted ≤ 65535) → (∀ k : Nat, 0 ≤ Int32.toInt (m_hand k) ∧ Int32.toInt (m_hand k) ≤ 65535) → (256 - Int32.toInt x6 < (n : Int)) → wb_X10_fits_73 post m_fruits m_standings m_now m_x m_height m_ripe m_foot m_fork m_told n x1 x2 x3 x4 x5 x6 m_rowMany m_thrown m_wanted m_row m_hand := by
  intro n
  induction n with
  | zero =>
    intro x1 x2 x3 x4 x5 x6 m_rowMany m_thrown m_wanted m_row m_hand h_x1 h_x2 h_x4 h_x5 h_x6 h_m_rowMany h_m_thrown h_m_wanted h_m_hand hm
    exfalso; omega
  | succ n ih =>
    intro x1 x2 x3 x4 x5 x6 m_rowMany m_thrown m_wanted m_row m_hand h_x1 h_x2 h_x4 h_x5 h_x6 h_m_rowMany h_m_thrown h_m_wanted h_m_hand hm
    exact ts_X10_fits_73 m_fruits m_standings m_now m_x m_height m_ripe m_foot m_fork m_told h_m_fruits h_m_standings e0_m_now e1_m_now h_m_x h_m_height h_m_ripe h_m_foot h_m_fork e0_m_told e1_m_told hc0 hc1 hpost ih x1 x2 x3 x4 x5 x6 m_rowMany m_thrown m_wanted m_row m_hand h_x1 h_x2 h_x4 h_x5 h_x6 h_m_rowMany h_m_thrown h_m_wanted h_m_hand (by omega)
set_option maxHeartbeats 8000000 in
set_option maxRecDepth 200000 in
theorem ts_X10_fits_54 {post : Int32 → Int32 → Int32 → Int32 → (Nat → Int32) → (Nat → Int32) → Prop} {SB : Int} {K27 : Int32 → Int32 → Int32 → Int32 → Int32 → Int32 → (Nat → Int32) → (Nat → Int32) → Prop} {n27 : Int} (m_fruits : Int32) (m_standings : Int32) (m_now : Nat → Int32) (m_x : Nat → Int32) (m_height : Nat → Int32) (m_ripe : Nat → Int32) (m_foot : Nat → Int32) (m_fork : Nat → Int32) (m_told : Nat → Int32) (h_m_fruits : 0 ≤ Int32.toInt m_fruits ∧ Int32.toInt m_fruits ≤ 16) (h_m_standings : 0 ≤ Int32.toInt m_standings ∧ Int32.toInt m_standings ≤ 8) (e0_m_now : ∀ k : Nat, k = 17 → -1 ≤ Int32.toInt (m_now k) ∧ Int32.toInt (m_now k) ≤ SB) (e1_m_now : ∀ k : Nat, k = 19 → 0 ≤ Int32.toInt (m_now k) ∧ Int32.toInt (m_now k) ≤ 9) (h_m_x : ∀ k : Nat, 0 ≤ Int32.toInt (m_x k) ∧ Int32.toInt (m_x k) ≤ 99) (h_m_height : ∀ k : Nat, 0 ≤ Int32.toInt (m_height k) ∧ Int32.toInt (m_height k) ≤ 99) (h_m_ripe : ∀ k : Nat, 0 ≤ Int32.toInt (m_ripe k) ∧ Int32.toInt (m_ripe k) ≤ 9) (h_m_foot : ∀ k : Nat, 0 ≤ Int32.toInt (m_foot k) ∧ Int32.toInt (m_foot k) ≤ 99) (h_m_fork : ∀ k : Nat, 0 ≤ Int32.toInt (m_fork k) ∧ Int32.toInt (m_fork k) ≤ 99) (e0_m_told : ∀ k : Nat, k = 4 → 1 ≤ Int32.toInt (m_told k) ∧ Int32.toInt (m_told k) ≤ 30) (e1_m_told : ∀ k : Nat, k = 3 → 0 ≤ Int32.toInt (m_told k) ∧ Int32.toInt (m_told k) ≤ 9) (hc0 : -1 ≤ SB ∧ SB ≤ 7) (hc1 : (Int32.toInt m_standings ≤ 0 ∧ SB = 0) ∨ (1 ≤ Int32.toInt m_standings ∧ SB = Int32.toInt m_standings - 1)) (hpost : ∀ (r : Int32) (m_rowMany' : Int32) (m_thrown' : Int32) (m_wanted' : Int32) (m_row' : Nat → Int32) (m_hand' : Nat → Int32), (0 ≤ Int32.toInt m_rowMany' ∧ Int32.toInt m_rowMany' ≤ 16) → (0 ≤ Int32.toInt m_thrown' ∧ Int32.toInt m_thrown' ≤ 0) → (0 ≤ Int32.toInt m_wanted' ∧ Int32.toInt m_wanted' ≤ 65535) → (∀ k : Nat, 0 ≤ Int32.toInt (m_hand' k) ∧ Int32.toInt (m_hand' k) ≤ 65535) → post r m_rowMany' m_thrown' m_wanted' m_row' m_hand') (hK27 : ∀ (x1 : Int32) (x2 : Int32) (x3 : Int32) (m_rowMany : Int32) (m_thrown : Int32) (m_wanted : Int32) (m_row : Nat → Int32) (m_hand : Nat → Int32), (0 ≤ Int32.toInt x1 ∧ Int32.toInt x1 ≤ 65535) → (0 ≤ Int32.toInt x2 ∧ Int32.toInt x2 ≤ 255) → (0 ≤ Int32.toInt x3 ∧ Int32.toInt x3 ≤ 8) → (0 ≤ Int32.toInt m_rowMany ∧ Int32.toInt m_rowMany ≤ 16) → (0 ≤ Int32.toInt m_thrown ∧ Int32.toInt m_thrown ≤ 0) → (0 ≤ Int32.toInt m_wanted ∧ Int32.toInt m_wanted ≤ 65535) → (∀ k : Nat, 0 ≤ Int32.toInt (m_hand k) ∧ Int32.toInt (m_hand k) ≤ 65535) → (8 - Int32.toInt x3 < n27) → K27 x1 x2 x3 m_rowMany m_thrown m_wanted m_row m_hand) (x1 : Int32) (x3 : Int32) (k0 : Int32) (k1 : Int32) (m_rowMany : Int32) (m_thrown : Int32) (m_wanted : Int32) (m_row : Nat → Int32) (m_hand : Nat → Int32) (h_x1 : 0 ≤ Int32.toInt x1 ∧ Int32.toInt x1 ≤ 65535) (h_x3 : 0 ≤ Int32.toInt x3 ∧ Int32.toInt x3 ≤ 7) (h_k0 : 0 ≤ Int32.toInt k0 ∧ Int32.toInt k0 ≤ 255) (h_k1 : 0 ≤ Int32.toInt k1 ∧ Int32.toInt k1 ≤ 128) (h_m_rowMany : 0 ≤ Int32.toInt m_rowMany ∧ Int32.toInt m_rowMany ≤ 16) (h_m_thrown : 0 ≤ Int32.toInt m_thrown ∧ Int32.toInt m_thrown ≤ 0) (h_m_wanted : 0 ≤ Int32.toInt m_wanted ∧ Int32.toInt m_wanted ≤ 65535) (h_m_hand : ∀ k : Nat, 0 ≤ Int32.toInt (m_hand k) ∧ Int32.toInt (m_hand k) ≤ 65535) (hn27 : 8 - Int32.toInt x3 ≤ n27) : ws_X10_fits_54 post K27 m_fruits m_standings m_now m_x m_height m_ripe m_foot m_fork m_told x1 x3 k0 k1 m_rowMany m_thrown m_wanted m_row m_hand := by
  have l0 : Int32.toInt (1 : Int32) = 1 := (by decide)
  intro v113 ev113
  have f114 := ti_or 8 256 k0 k1 (by decide) (by omega) (by omega)
  have hv113 := congrArg Int32.toInt ev113
  intro v115 ev115
  have f116 : Int32.toInt (x3 + 1) = Int32.toInt x3 + Int32.toInt (1 : Int32) := ta_add _ _ (by omega)
  rw [← ev115] at f116
  exact hK27 x1 v113 v115 m_rowMany m_thrown m_wanted m_row m_hand (by omega) (by omega) (by omega) (by omega) (by omega) (by omega) (fun k => by have q9 := h_m_hand k; omega) (by omega)
set_option maxHeartbeats 8000000 in
set_option maxRecDepth 200000 in
theorem ts_X10_fits_27 {post : Int32 → Int32 → Int32 → Int32 → (Nat → Int32) → (Nat → Int32) → Prop} {SB : Int} {next : Int32 → Int32 → Int32 → Int32 → Int32 → Int32 → (Nat → Int32) → (Nat → Int32) → Prop} {n27 : Int} (m_fruits : Int32) (m_standings : Int32) (m_now : Nat → Int32) (m_x : Nat → Int32) (m_height : Nat → Int32) (m_ripe : Nat → Int32) (m_foot : Nat → Int32) (m_fork : Nat → Int32) (m_told : Nat → Int32) (h_m_fruits : 0 ≤ Int32.toInt m_fruits ∧ Int32.toInt m_fruits ≤ 16) (h_m_standings : 0 ≤ Int32.toInt m_standings ∧ Int32.toInt m_standings ≤ 8) (e0_m_now : ∀ k : Nat, k = 17 → -1 ≤ Int32.toInt (m_now k) ∧ Int32.toInt (m_now k) ≤ SB) (e1_m_now : ∀ k : Nat, k = 19 → 0 ≤ Int32.toInt (m_now k) ∧ Int32.toInt (m_now k) ≤ 9) (h_m_x : ∀ k : Nat, 0 ≤ Int32.toInt (m_x k) ∧ Int32.toInt (m_x k) ≤ 99) (h_m_height : ∀ k : Nat, 0 ≤ Int32.toInt (m_height k) ∧ Int32.toInt (m_height k) ≤ 99) (h_m_ripe : ∀ k : Nat, 0 ≤ Int32.toInt (m_ripe k) ∧ Int32.toInt (m_ripe k) ≤ 9) (h_m_foot : ∀ k : Nat, 0 ≤ Int32.toInt (m_foot k) ∧ Int32.toInt (m_foot k) ≤ 99) (h_m_fork : ∀ k : Nat, 0 ≤ Int32.toInt (m_fork k) ∧ Int32.toInt (m_fork k) ≤ 99) (e0_m_told : ∀ k : Nat, k = 4 → 1 ≤ Int32.toInt (m_told k) ∧ Int32.toInt (m_told k) ≤ 30) (e1_m_told : ∀ k : Nat, k = 3 → 0 ≤ Int32.toInt (m_told k) ∧ Int32.toInt (m_told k) ≤ 9) (hc0 : -1 ≤ SB ∧ SB ≤ 7) (hc1 : (Int32.toInt m_standings ≤ 0 ∧ SB = 0) ∨ (1 ≤ Int32.toInt m_standings ∧ SB = Int32.toInt m_standings - 1)) (hpost : ∀ (r : Int32) (m_rowMany' : Int32) (m_thrown' : Int32) (m_wanted' : Int32) (m_row' : Nat → Int32) (m_hand' : Nat → Int32), (0 ≤ Int32.toInt m_rowMany' ∧ Int32.toInt m_rowMany' ≤ 16) → (0 ≤ Int32.toInt m_thrown' ∧ Int32.toInt m_thrown' ≤ 0) → (0 ≤ Int32.toInt m_wanted' ∧ Int32.toInt m_wanted' ≤ 65535) → (∀ k : Nat, 0 ≤ Int32.toInt (m_hand' k) ∧ Int32.toInt (m_hand' k) ≤ 65535) → post r m_rowMany' m_thrown' m_wanted' m_row' m_hand') (hKn : ∀ (x1 : Int32) (x2 : Int32) (x3 : Int32) (m_rowMany : Int32) (m_thrown : Int32) (m_wanted : Int32) (m_row : Nat → Int32) (m_hand : Nat → Int32), (0 ≤ Int32.toInt x1 ∧ Int32.toInt x1 ≤ 65535) → (0 ≤ Int32.toInt x2 ∧ Int32.toInt x2 ≤ 255) → (0 ≤ Int32.toInt x3 ∧ Int32.toInt x3 ≤ 8) → (0 ≤ Int32.toInt m_rowMany ∧ Int32.toInt m_rowMany ≤ 16) → (0 ≤ Int32.toInt m_thrown ∧ Int32.toInt m_thrown ≤ 0) → (0 ≤ Int32.toInt m_wanted ∧ Int32.toInt m_wanted ≤ 65535) → (∀ k : Nat, 0 ≤ Int32.toInt (m_hand k) ∧ Int32.toInt (m_hand k) ≤ 65535) → (8 - Int32.toInt x3 < n27) → next x1 x2 x3 m_rowMany m_thrown m_wanted m_row m_hand) (x1 : Int32) (x2 : Int32) (x3 : Int32) (m_rowMany : Int32) (m_thrown : Int32) (m_wanted : Int32) (m_row : Nat → Int32) (m_hand : Nat → Int32) (h_x1 : 0 ≤ Int32.toInt x1 ∧ Int32.toInt x1 ≤ 65535) (h_x2 : 0 ≤ Int32.toInt x2 ∧ Int32.toInt x2 ≤ 255) (h_x3 : 0 ≤ Int32.toInt x3 ∧ Int32.toInt x3 ≤ 8) (h_m_rowMany : 0 ≤ Int32.toInt m_rowMany ∧ Int32.toInt m_rowMany ≤ 16) (h_m_thrown : 0 ≤ Int32.toInt m_thrown ∧ Int32.toInt m_thrown ≤ 0) (h_m_wanted : 0 ≤ Int32.toInt m_wanted ∧ Int32.toInt m_wanted ≤ 65535) (h_m_hand : ∀ k : Nat, 0 ≤ Int32.toInt (m_hand k) ∧ Int32.toInt (m_hand k) ≤ 65535) (hn27 : 8 - Int32.toInt x3 ≤ n27) : ws_X10_fits_27 post next m_fruits m_standings m_now m_x m_height m_ripe m_foot m_fork m_told x1 x2 x3 m_rowMany m_thrown m_wanted m_row m_hand := by
  have l0 : Int32.toInt ((-1) : Int32) = -1 := (by decide)
  have l1 : Int32.toInt (0 : Int32) = 0 := (by decide)
  refine And.intro (fun c117 => ?_) (fun c117 => ?_)
  · skip
    have c117 := (fa_le _ _).mp c117
    exact ⟨258, tb_X10_fits_73 m_fruits m_standings m_now m_x m_height m_ripe m_foot m_fork m_told h_m_fruits h_m_standings e0_m_now e1_m_now h_m_x h_m_height h_m_ripe h_m_foot h_m_fork e0_m_told e1_m_told hc0 hc1 hpost _ x1 x2 0 (-1) (-1) 0 m_rowMany m_thrown m_wanted m_row m_hand (by omega) (by omega) (by omega) (by omega) (by omega) (by omega) (by omega) (by omega) (fun k => by have q9 := h_m_hand k; omega) (by omega)⟩
  · skip
    have c117 := mt (fa_le _ _).mpr c117
    refine And.intro (t_in (by omega)) ?_
    intro v118 ev118
    have f119 := h_m_hand x3.toNatClampNeg
    have hv118 := congrArg Int32.toInt ev118
    have f121 := ti_andr v118 x1 (by omega)
    have f122 := ti_andl v118 x1 (by omega)
    refine And.intro (fun c120 => ?_) (fun c120 => ?_)
    · skip
      have c120 := (fa_eq _ _).mp c120
      exact ts_X10_fits_54 m_fruits m_standings m_now m_x m_height m_ripe m_foot m_fork m_told h_m_fruits h_m_standings e0_m_now e1_m_now h_m_x h_m_height h_m_ripe h_m_foot h_m_fork e0_m_told e1_m_told hc0 hc1 hpost hKn x1 x3 x2 0 m_rowMany m_thrown m_wanted m_row m_hand (by omega) (by omega) (by omega) (by omega) (by omega) (by omega) (by omega) (fun k => by have q9 := h_m_hand k; omega) (by omega)
    · skip
      have c120 := mt (fa_eq _ _).mpr c120
      intro v123 ev123
      have f124 := ti_shl1 7 128 x3 (by decide) (by omega)
      have hv123 := congrArg Int32.toInt ev123
      exact ts_X10_fits_54 m_fruits m_standings m_now m_x m_height m_ripe m_foot m_fork m_told h_m_fruits h_m_standings e0_m_now e1_m_now h_m_x h_m_height h_m_ripe h_m_foot h_m_fork e0_m_told e1_m_told hc0 hc1 hpost hKn x1 x3 x2 v123 m_rowMany m_thrown m_wanted m_row m_hand (by omega) (by omega) (by omega) (by omega) (by omega) (by omega) (by omega) (fun k => by have q9 := h_m_hand k; omega) (by omega)
set_option maxHeartbeats 8000000 in
set_option maxRecDepth 200000 in
theorem tb_X10_fits_27 {post : Int32 → Int32 → Int32 → Int32 → (Nat → Int32) → (Nat → Int32) → Prop} {SB : Int} (m_fruits : Int32) (m_standings : Int32) (m_now : Nat → Int32) (m_x : Nat → Int32) (m_height : Nat → Int32) (m_ripe : Nat → Int32) (m_foot : Nat → Int32) (m_fork : Nat → Int32) (m_told : Nat → Int32) (h_m_fruits : 0 ≤ Int32.toInt m_fruits ∧ Int32.toInt m_fruits ≤ 16) (h_m_standings : 0 ≤ Int32.toInt m_standings ∧ Int32.toInt m_standings ≤ 8) (e0_m_now : ∀ k : Nat, k = 17 → -1 ≤ Int32.toInt (m_now k) ∧ Int32.toInt (m_now k) ≤ SB) (e1_m_now : ∀ k : Nat, k = 19 → 0 ≤ Int32.toInt (m_now k) ∧ Int32.toInt (m_now k) ≤ 9) (h_m_x : ∀ k : Nat, 0 ≤ Int32.toInt (m_x k) ∧ Int32.toInt (m_x k) ≤ 99) (h_m_height : ∀ k : Nat, 0 ≤ Int32.toInt (m_height k) ∧ Int32.toInt (m_height k) ≤ 99) (h_m_ripe : ∀ k : Nat, 0 ≤ Int32.toInt (m_ripe k) ∧ Int32.toInt (m_ripe k) ≤ 9) (h_m_foot : ∀ k : Nat, 0 ≤ Int32.toInt (m_foot k) ∧ Int32.toInt (m_foot k) ≤ 99) (h_m_fork : ∀ k : Nat, 0 ≤ Int32.toInt (m_fork k) ∧ Int32.toInt (m_fork k) ≤ 99) (e0_m_told : ∀ k : Nat, k = 4 → 1 ≤ Int32.toInt (m_told k) ∧ Int32.toInt (m_told k) ≤ 30) (e1_m_told : ∀ k : Nat, k = 3 → 0 ≤ Int32.toInt (m_told k) ∧ Int32.toInt (m_told k) ≤ 9) (hc0 : -1 ≤ SB ∧ SB ≤ 7) (hc1 : (Int32.toInt m_standings ≤ 0 ∧ SB = 0) ∨ (1 ≤ Int32.toInt m_standings ∧ SB = Int32.toInt m_standings - 1)) (hpost : ∀ (r : Int32) (m_rowMany' : Int32) (m_thrown' : Int32) (m_wanted' : Int32) (m_row' : Nat → Int32) (m_hand' : Nat → Int32), (0 ≤ Int32.toInt m_rowMany' ∧ Int32.toInt m_rowMany' ≤ 16) → (0 ≤ Int32.toInt m_thrown' ∧ Int32.toInt m_thrown' ≤ 0) → (0 ≤ Int32.toInt m_wanted' ∧ Int32.toInt m_wanted' ≤ 65535) → (∀ k : Nat, 0 ≤ Int32.toInt (m_hand' k) ∧ Int32.toInt (m_hand' k) ≤ 65535) → post r m_rowMany' m_thrown' m_wanted' m_row' m_hand') : ∀ (n : Nat) (x1 : Int32) (x2 : Int32) (x3 : Int32) (m_rowMany : Int32) (m_thrown : Int32) (m_wanted : Int32) (m_row : Nat → Int32) (m_hand : Nat → Int32), (0 ≤ Int32.toInt x1 ∧ Int32.toInt x1 ≤ 65535) → (0 ≤ Int32.toInt x2 ∧ Int32.toInt x2 ≤ 255) → (0 ≤ Int32.toInt x3 ∧ Int32.toInt x3 ≤ 8) → (0 ≤ Int32.toInt m_rowMany ∧ Int32.toInt m_rowMany ≤ 16) → (0 ≤ Int32.toInt m_thrown ∧ Int32.toInt m_thrown ≤ 0) → (0 ≤ Int32.toInt m_wanted ∧ Int32.toInt m_wanted ≤ 65535) → (∀ k : Nat, 0 ≤ Int32.toInt (m_hand k) ∧ Int32.toInt (m_hand k) ≤ 65535) → (8 - Int32.toInt x3 < (n : Int)) → wb_X10_fits_27 post m_fruits m_standings m_now m_x m_height m_ripe m_foot m_fork m_told n x1 x2 x3 m_rowMany m_thrown m_wanted m_row m_hand := by
  intro n
  induction n with
  | zero =>
    intro x1 x2 x3 m_rowMany m_thrown m_wanted m_row m_hand h_x1 h_x2 h_x3 h_m_rowMany h_m_thrown h_m_wanted h_m_hand hm
    exfalso; omega
  | succ n ih =>
    intro x1 x2 x3 m_rowMany m_thrown m_wanted m_row m_hand h_x1 h_x2 h_x3 h_m_rowMany h_m_thrown h_m_wanted h_m_hand hm
    exact ts_X10_fits_27 m_fruits m_standings m_now m_x m_height m_ripe m_foot m_fork m_told h_m_fruits h_m_standings e0_m_now e1_m_now h_m_x h_m_height h_m_ripe h_m_foot h_m_fork e0_m_told e1_m_told hc0 hc1 hpost ih x1 x2 x3 m_rowMany m_thrown m_wanted m_row m_hand h_x1 h_x2 h_x3 h_m_rowMany h_m_thrown h_m_wanted h_m_hand (by omega)
set_option maxHeartbeats 8000000 in
set_option maxRecDepth 200000 in
theorem t_X10_fits {post : Int32 → Int32 → Int32 → Int32 → (Nat → Int32) → (Nat → Int32) → Prop} {SB : Int} {p0 : Int32} {m_fruits : Int32} {m_standings : Int32} {m_rowMany : Int32} {m_thrown : Int32} {m_wanted : Int32} {m_now : Nat → Int32} {m_x : Nat → Int32} {m_height : Nat → Int32} {m_ripe : Nat → Int32} {m_foot : Nat → Int32} {m_fork : Nat → Int32} {m_told : Nat → Int32} {m_row : Nat → Int32} {m_hand : Nat → Int32} (h_m_fruits : 0 ≤ Int32.toInt m_fruits ∧ Int32.toInt m_fruits ≤ 16) (h_m_standings : 0 ≤ Int32.toInt m_standings ∧ Int32.toInt m_standings ≤ 8) (h_m_rowMany : 0 ≤ Int32.toInt m_rowMany ∧ Int32.toInt m_rowMany ≤ 16) (h_m_thrown : 0 ≤ Int32.toInt m_thrown ∧ Int32.toInt m_thrown ≤ 1) (h_m_wanted : 0 ≤ Int32.toInt m_wanted ∧ Int32.toInt m_wanted ≤ 65535) (e0_m_now : ∀ k : Nat, k = 17 → -1 ≤ Int32.toInt (m_now k) ∧ Int32.toInt (m_now k) ≤ SB) (e1_m_now : ∀ k : Nat, k = 19 → 0 ≤ Int32.toInt (m_now k) ∧ Int32.toInt (m_now k) ≤ 9) (h_m_x : ∀ k : Nat, 0 ≤ Int32.toInt (m_x k) ∧ Int32.toInt (m_x k) ≤ 99) (h_m_height : ∀ k : Nat, 0 ≤ Int32.toInt (m_height k) ∧ Int32.toInt (m_height k) ≤ 99) (h_m_ripe : ∀ k : Nat, 0 ≤ Int32.toInt (m_ripe k) ∧ Int32.toInt (m_ripe k) ≤ 9) (h_m_foot : ∀ k : Nat, 0 ≤ Int32.toInt (m_foot k) ∧ Int32.toInt (m_foot k) ≤ 99) (h_m_fork : ∀ k : Nat, 0 ≤ Int32.toInt (m_fork k) ∧ Int32.toInt (m_fork k) ≤ 99) (e0_m_told : ∀ k : Nat, k = 4 → 1 ≤ Int32.toInt (m_told k) ∧ Int32.toInt (m_told k) ≤ 30) (e1_m_told : ∀ k : Nat, k = 3 → 0 ≤ Int32.toInt (m_told k) ∧ Int32.toInt (m_told k) ≤ 9) (h_m_hand : ∀ k : Nat, 0 ≤ Int32.toInt (m_hand k) ∧ Int32.toInt (m_hand k) ≤ 65535) (hc0 : -1 ≤ SB ∧ SB ≤ 7) (hc1 : (Int32.toInt m_standings ≤ 0 ∧ SB = 0) ∨ (1 ≤ Int32.toInt m_standings ∧ SB = Int32.toInt m_standings - 1)) (hpost : ∀ (r : Int32) (m_rowMany' : Int32) (m_thrown' : Int32) (m_wanted' : Int32) (m_row' : Nat → Int32) (m_hand' : Nat → Int32), (0 ≤ Int32.toInt m_rowMany' ∧ Int32.toInt m_rowMany' ≤ 16) → (0 ≤ Int32.toInt m_thrown' ∧ Int32.toInt m_thrown' ≤ 0) → (0 ≤ Int32.toInt m_wanted' ∧ Int32.toInt m_wanted' ≤ 65535) → (∀ k : Nat, 0 ≤ Int32.toInt (m_hand' k) ∧ Int32.toInt (m_hand' k) ≤ 65535) → post r m_rowMany' m_thrown' m_wanted' m_row' m_hand') : wp_X10_fits post p0 m_fruits m_standings m_rowMany m_thrown m_wanted m_now m_x m_height m_ripe m_foot m_fork m_told m_row m_hand := by
  have l0 : Int32.toInt (0 : Int32) = 0 := (by decide)
  have l1 : Int32.toInt (1 : Int32) = 1 := (by decide)
  have l2 : Int32.toInt (18 : Int32) = 18 := (by decide)
  intro v125 ev125
  have f126 := ti_shl1 16 65536 m_fruits (by decide) (by omega)
  have hv125 := congrArg Int32.toInt ev125
  have f128 := tp_r p0
  refine And.intro (fun c127 => ?_) (fun c127 => ?_)
  · skip
    have c127 := (fa_lt _ _).mp c127
    refine And.intro (fun h9 => absurd h9 (by decide)) (fun _ => ?_)
    exact hpost _ _ _ _ _ _ (by omega) (by omega) (by omega) (fun k => by have q9 := h_m_hand k; omega)
  · skip
    have c127 := mt (fa_lt _ _).mpr c127
    have f130 : Int32.toInt (v125 - 1) = Int32.toInt v125 - Int32.toInt (1 : Int32) := ta_sub _ _ (by omega)
    refine And.intro (fun c129 => ?_) (fun c129 => ?_)
    · skip
      have c129 := (fa_lt _ _).mp c129
      refine And.intro (fun h9 => absurd h9 (by decide)) (fun _ => ?_)
      exact hpost _ _ _ _ _ _ (by omega) (by omega) (by omega) (fun k => by have q9 := h_m_hand k; omega)
    · skip
      have c129 := mt (fa_lt _ _).mpr c129
      refine And.intro (fun _ => ?_) (fun h9 => absurd h9 (by decide))
      intro v131 ev131
      have hv131 := congrArg Int32.toInt ev131
      refine t_X10_layHands_ (by omega) (by omega) (by omega) e0_m_now e1_m_now (fun k => by have q9 := h_m_x k; omega) (fun k => by have q9 := h_m_height k; omega) (fun k => by have q9 := h_m_ripe k; omega) (fun k => by have q9 := h_m_foot k; omega) (fun k => by have q9 := h_m_fork k; omega) e0_m_told e1_m_told (fun k => by have q9 := h_m_hand k; omega) (by omega) (by omega) (fun m_wanted_133 m_hand_134 h_m_wanted_133 h_m_hand_134 => ?_)
      exact ⟨10, tb_X10_fits_27 m_fruits m_standings m_now m_x m_height m_ripe m_foot m_fork m_told h_m_fruits h_m_standings e0_m_now e1_m_now h_m_x h_m_height h_m_ripe h_m_foot h_m_fork e0_m_told e1_m_told hc0 hc1 hpost _ p0 0 0 m_rowMany 0 m_wanted_133 m_row m_hand_134 (by omega) (by omega) (by omega) (by omega) (by omega) (by omega) (fun k => by have q9 := h_m_hand_134 k; omega) (by omega)⟩
set_option maxHeartbeats 8000000 in
set_option maxRecDepth 200000 in
theorem t_X10_leaned {post : Int32 → Int32 → Prop} {p0 : Int32} {p1 : Int32} {m_fruits : Int32} {m_standings : Int32} {m_thrown : Int32} {m_x : Nat → Int32} {m_height : Nat → Int32} {m_foot : Nat → Int32} {m_fork : Nat → Int32} {m_told : Nat → Int32} (h_m_fruits : 0 ≤ Int32.toInt m_fruits ∧ Int32.toInt m_fruits ≤ 16) (h_m_standings : 0 ≤ Int32.toInt m_standings ∧ Int32.toInt m_standings ≤ 8) (h_m_thrown : 0 ≤ Int32.toInt m_thrown ∧ Int32.toInt m_thrown ≤ 1) (h_m_x : ∀ k : Nat, 0 ≤ Int32.toInt (m_x k) ∧ Int32.toInt (m_x k) ≤ 99) (h_m_height : ∀ k : Nat, 0 ≤ Int32.toInt (m_height k) ∧ Int32.toInt (m_height k) ≤ 99) (h_m_foot : ∀ k : Nat, 0 ≤ Int32.toInt (m_foot k) ∧ Int32.toInt (m_foot k) ≤ 99) (h_m_fork : ∀ k : Nat, 0 ≤ Int32.toInt (m_fork k) ∧ Int32.toInt (m_fork k) ≤ 99) (e0_m_told : ∀ k : Nat, k = 4 → 1 ≤ Int32.toInt (m_told k) ∧ Int32.toInt (m_told k) ≤ 30) (e1_m_told : ∀ k : Nat, k = 3 → 0 ≤ Int32.toInt (m_told k) ∧ Int32.toInt (m_told k) ≤ 9) (hpost : ∀ (r : Int32) (m_thrown' : Int32), (-2 ≤ Int32.toInt r ∧ Int32.toInt r ≤ 30) → (0 ≤ Int32.toInt m_thrown' ∧ Int32.toInt m_thrown' ≤ 0) → post r m_thrown') : wp_X10_leaned post p0 p1 m_fruits m_standings m_thrown m_x m_height m_foot m_fork m_told := by
  have l0 : Int32.toInt ((-1) : Int32) = -1 := (by decide)
  have l1 : Int32.toInt ((-2) : Int32) = -2 := (by decide)
  have l2 : Int32.toInt (0 : Int32) = 0 := (by decide)
  have l3 : Int32.toInt (1 : Int32) = 1 := (by decide)
  have l4 : Int32.toInt (30 : Int32) = 30 := (by decide)
  intro v1 ev1
  have f2 : Int32.toInt (m_fruits - 1) = Int32.toInt m_fruits - Int32.toInt (1 : Int32) := ta_sub _ _ (by omega)
  rw [← ev1] at f2
  have f4 := tp_r p0
  refine And.intro (fun c3 => ?_) (fun c3 => ?_)
  · skip
    have c3 := (fa_lt _ _).mp c3
    refine And.intro (t_bool (by omega)) ?_
    refine And.intro (fun _ => ?_) (fun h9 => absurd h9 (by decide))
    exact hpost _ _ (by omega) (by omega)
  · skip
    have c3 := mt (fa_lt _ _).mpr c3
    refine And.intro (fun c5 => ?_) (fun c5 => ?_)
    · skip
      have c5 := (fa_lt _ _).mp c5
      refine And.intro (t_bool (by omega)) ?_
      refine And.intro (fun _ => ?_) (fun h9 => absurd h9 (by decide))
      exact hpost _ _ (by omega) (by omega)
    · skip
      have c5 := mt (fa_lt _ _).mpr c5
      refine And.intro (t_bool (by omega)) ?_
      refine And.intro (fun h9 => absurd h9 (by decide)) (fun _ => ?_)
      intro v6 ev6
      have f7 : Int32.toInt (m_standings - 1) = Int32.toInt m_standings - Int32.toInt (1 : Int32) := ta_sub _ _ (by omega)
      rw [← ev6] at f7
      have f9 := tp_r p1
      refine And.intro (fun c8 => ?_) (fun c8 => ?_)
      · skip
        have c8 := (fa_lt _ _).mp c8
        refine And.intro (t_bool (by omega)) ?_
        refine And.intro (fun h9 => absurd h9 (by decide)) (fun _ => ?_)
        exact hpost _ _ (by omega) (by omega)
      · skip
        have c8 := mt (fa_lt _ _).mpr c8
        refine And.intro (fun c10 => ?_) (fun c10 => ?_)
        · skip
          have c10 := (fa_lt _ _).mp c10
          refine And.intro (t_bool (by omega)) ?_
          refine And.intro (fun h9 => absurd h9 (by decide)) (fun _ => ?_)
          exact hpost _ _ (by omega) (by omega)
        · skip
          have c10 := mt (fa_lt _ _).mpr c10
          refine And.intro (t_bool (by omega)) ?_
          refine And.intro (fun _ => ?_) (fun h9 => absurd h9 (by decide))
          refine t_X10_leanOf (by omega) (by omega) (fun k => by have q9 := h_m_x k; omega) (fun k => by have q9 := h_m_height k; omega) (fun k => by have q9 := h_m_foot k; omega) (fun k => by have q9 := h_m_fork k; omega) e0_m_told e1_m_told (fun r11 h_r11 => ?_)
          refine And.intro (fun c12 => ?_) (fun c12 => ?_)
          · skip
            have c12 := (fa_le _ _).mp c12
            exact hpost _ _ (by omega) (by omega)
          · skip
            have c12 := mt (fa_le _ _).mpr c12
            exact hpost _ _ (by omega) (by omega)
set_option maxHeartbeats 8000000 in
set_option maxRecDepth 200000 in
theorem ts_X10_autumn_129 {post : Int32 → Int32 → Int32 → Int32 → (Nat → Int32) → Prop} {SB : Int} {K55 : Int32 → Int32 → Int32 → Int32 → Int32 → Int32 → Int32 → Int32 → Int32 → Int32 → (Nat → Int32) → Prop} {K91 : Int32 → Int32 → Int32 → Int32 → Int32 → Int32 → Int32 → Int32 → Int32 → Int32 → Int32 → Int32 → Int32 → (Nat → Int32) → Prop} {n55 : Int} {n91 : Int} (m_fruits : Int32) (m_now : Nat → Int32) (m_worth : Nat → Int32) (m_ripe : Nat → Int32) (h_m_fruits : 0 ≤ Int32.toInt m_fruits ∧ Int32.toInt m_fruits ≤ 16) (e0_m_now : ∀ k : Nat, k = 17 → -1 ≤ Int32.toInt (m_now k) ∧ Int32.toInt (m_now k) ≤ SB) (e1_m_now : ∀ k : Nat, k = 19 → 0 ≤ Int32.toInt (m_now k) ∧ Int32.toInt (m_now k) ≤ 9) (h_m_worth : ∀ k : Nat, 0 ≤ Int32.toInt (m_worth k) ∧ Int32.toInt (m_worth k) ≤ 9) (h_m_ripe : ∀ k : Nat, 0 ≤ Int32.toInt (m_ripe k) ∧ Int32.toInt (m_ripe k) ≤ 9) (hc0 : -1 ≤ SB ∧ SB ≤ 7) (hpost : ∀ (r : Int32) (m_rowMany' : Int32) (m_thrown' : Int32) (m_drawn' : Int32) (m_row' : Nat → Int32), (-1 ≤ Int32.toInt r ∧ Int32.toInt r ≤ 63) → (0 ≤ Int32.toInt m_rowMany' ∧ Int32.toInt m_rowMany' ≤ 16) → (0 ≤ Int32.toInt m_thrown' ∧ Int32.toInt m_thrown' ≤ 0) → post r m_rowMany' m_thrown' m_drawn' m_row') (hK55 : ∀ (x2 : Int32) (x3 : Int32) (x4 : Int32) (x5 : Int32) (x6 : Int32) (x7 : Int32) (x8 : Int32) (m_rowMany : Int32) (m_thrown : Int32) (m_drawn : Int32) (m_row : Nat → Int32), (1 ≤ Int32.toInt x2 ∧ Int32.toInt x2 ≤ 30) → (0 ≤ Int32.toInt x3 ∧ Int32.toInt x3 ≤ 10) → (0 ≤ Int32.toInt x4 ∧ Int32.toInt x4 ≤ 65535) → (0 ≤ Int32.toInt x5 ∧ Int32.toInt x5 ≤ 65535) → (0 ≤ Int32.toInt x6 ∧ Int32.toInt x6 ≤ 63) → (-1 ≤ Int32.toInt x7 ∧ Int32.toInt x7 ≤ 30) → (1 ≤ Int32.toInt x8 ∧ Int32.toInt x8 ≤ 31) → (0 ≤ Int32.toInt m_rowMany ∧ Int32.toInt m_rowMany ≤ 16) → (0 ≤ Int32.toInt m_thrown ∧ Int32.toInt m_thrown ≤ 0) → (31 - Int32.toInt x8 < n55) → K55 x2 x3 x4 x5 x6 x7 x8 m_rowMany m_thrown m_drawn m_row) (hK91 : ∀ (x2 : Int32) (x3 : Int32) (x4 : Int32) (x5 : Int32) (x6 : Int32) (x7 : Int32) (x8 : Int32) (x9 : Int32) (x10 : Int32) (x11 : Int32) (m_rowMany : Int32) (m_thrown : Int32) (m_drawn : Int32) (m_row : Nat → Int32), (1 ≤ Int32.toInt x2 ∧ Int32.toInt x2 ≤ 30) → (0 ≤ Int32.toInt x3 ∧ Int32.toInt x3 ≤ 10) → (0 ≤ Int32.toInt x4 ∧ Int32.toInt x4 ≤ 65535) → (0 ≤ Int32.toInt x5 ∧ Int32.toInt x5 ≤ 65535) → (0 ≤ Int32.toInt x6 ∧ Int32.toInt x6 ≤ 63) → (-1 ≤ Int32.toInt x7 ∧ Int32.toInt x7 ≤ 30) → (1 ≤ Int32.toInt x8 ∧ Int32.toInt x8 ≤ 30) → (0 ≤ Int32.toInt x9 ∧ Int32.toInt x9 ≤ 65535) → (0 ≤ Int32.toInt x10 ∧ Int32.toInt x10 ≤ 65535) → (0 ≤ Int32.toInt x11 ∧ Int32.toInt x11 ≤ 16) → (0 ≤ Int32.toInt m_rowMany ∧ Int32.toInt m_rowMany ≤ 16) → (0 ≤ Int32.toInt m_thrown ∧ Int32.toInt m_thrown ≤ 0) → (31 - Int32.toInt x8 ≤ n55) → (16 - Int32.toInt x11 < n91) → K91 x2 x3 x4 x5 x6 x7 x8 x9 x10 x11 m_rowMany m_thrown m_drawn m_row) (x2 : Int32) (x3 : Int32) (x4 : Int32) (x5 : Int32) (x6 : Int32) (x7 : Int32) (x8 : Int32) (x9 : Int32) (x10 : Int32) (x11 : Int32) (m_rowMany : Int32) (m_thrown : Int32) (m_drawn : Int32) (m_row : Nat → Int32) (h_x2 : 1 ≤ Int32.toInt x2 ∧ Int32.toInt x2 ≤ 30) (h_x3 : 0 ≤ Int32.toInt x3 ∧ Int32.toInt x3 ≤ 10) (h_x4 : 0 ≤ Int32.toInt x4 ∧ Int32.toInt x4 ≤ 65535) (h_x5 : 0 ≤ Int32.toInt x5 ∧ Int32.toInt x5 ≤ 65535) (h_x6 : 0 ≤ Int32.toInt x6 ∧ Int32.toInt x6 ≤ 63) (h_x7 : -1 ≤ Int32.toInt x7 ∧ Int32.toInt x7 ≤ 30) (h_x8 : 1 ≤ Int32.toInt x8 ∧ Int32.toInt x8 ≤ 30) (h_x9 : 0 ≤ Int32.toInt x9 ∧ Int32.toInt x9 ≤ 65535) (h_x10 : 0 ≤ Int32.toInt x10 ∧ Int32.toInt x10 ≤ 65535) (h_x11 : 0 ≤ Int32.toInt x11 ∧ Int32.toInt x11 ≤ 15) (h_m_rowMany : 0 ≤ Int32.toInt m_rowMany ∧ Int32.toInt m_rowMany ≤ 16) (h_m_thrown : 0 ≤ Int32.toInt m_thrown ∧ Int32.toInt m_thrown ≤ 0) (hn55 : 31 - Int32.toInt x8 ≤ n55) (hn91 : 16 - Int32.toInt x11 ≤ n91) : ws_X10_autumn_129 post K55 K91 m_fruits m_now m_worth m_ripe x2 x3 x4 x5 x6 x7 x8 x9 x10 x11 m_rowMany m_thrown m_drawn m_row := by
  have l0 : Int32.toInt (1 : Int32) = 1 := (by decide)
  intro v1 ev1
  have f2 : Int32.toInt (x11 + 1) = Int32.toInt x11 + Int32.toInt (1 : Int32) := ta_add _ _ (by omega)
  rw [← ev1] at f2
  have f3 := tp_r m_drawn
  exact hK91 x2 x3 x4 x5 x6 x7 x8 x9 x10 v1 m_rowMany m_thrown m_drawn m_row (by omega) (by omega) (by omega) (by omega) (by omega) (by omega) (by omega) (by omega) (by omega) (by omega) (by omega) (by omega) (by omega) (by omega)
set_option maxHeartbeats 8000000 in
set_option maxRecDepth 200000 in
theorem ts_X10_autumn_175 {post : Int32 → Int32 → Int32 → Int32 → (Nat → Int32) → Prop} {SB : Int} {K55 : Int32 → Int32 → Int32 → Int32 → Int32 → Int32 → Int32 → Int32 → Int32 → Int32 → (Nat → Int32) → Prop} {n55 : Int} (m_fruits : Int32) (m_now : Nat → Int32) (m_worth : Nat → Int32) (m_ripe : Nat → Int32) (h_m_fruits : 0 ≤ Int32.toInt m_fruits ∧ Int32.toInt m_fruits ≤ 16) (e0_m_now : ∀ k : Nat, k = 17 → -1 ≤ Int32.toInt (m_now k) ∧ Int32.toInt (m_now k) ≤ SB) (e1_m_now : ∀ k : Nat, k = 19 → 0 ≤ Int32.toInt (m_now k) ∧ Int32.toInt (m_now k) ≤ 9) (h_m_worth : ∀ k : Nat, 0 ≤ Int32.toInt (m_worth k) ∧ Int32.toInt (m_worth k) ≤ 9) (h_m_ripe : ∀ k : Nat, 0 ≤ Int32.toInt (m_ripe k) ∧ Int32.toInt (m_ripe k) ≤ 9) (hc0 : -1 ≤ SB ∧ SB ≤ 7) (hpost : ∀ (r : Int32) (m_rowMany' : Int32) (m_thrown' : Int32) (m_drawn' : Int32) (m_row' : Nat → Int32), (-1 ≤ Int32.toInt r ∧ Int32.toInt r ≤ 63) → (0 ≤ Int32.toInt m_rowMany' ∧ Int32.toInt m_rowMany' ≤ 16) → (0 ≤ Int32.toInt m_thrown' ∧ Int32.toInt m_thrown' ≤ 0) → post r m_rowMany' m_thrown' m_drawn' m_row') (hK55 : ∀ (x2 : Int32) (x3 : Int32) (x4 : Int32) (x5 : Int32) (x6 : Int32) (x7 : Int32) (x8 : Int32) (m_rowMany : Int32) (m_thrown : Int32) (m_drawn : Int32) (m_row : Nat → Int32), (1 ≤ Int32.toInt x2 ∧ Int32.toInt x2 ≤ 30) → (0 ≤ Int32.toInt x3 ∧ Int32.toInt x3 ≤ 10) → (0 ≤ Int32.toInt x4 ∧ Int32.toInt x4 ≤ 65535) → (0 ≤ Int32.toInt x5 ∧ Int32.toInt x5 ≤ 65535) → (0 ≤ Int32.toInt x6 ∧ Int32.toInt x6 ≤ 63) → (-1 ≤ Int32.toInt x7 ∧ Int32.toInt x7 ≤ 30) → (1 ≤ Int32.toInt x8 ∧ Int32.toInt x8 ≤ 31) → (0 ≤ Int32.toInt m_rowMany ∧ Int32.toInt m_rowMany ≤ 16) → (0 ≤ Int32.toInt m_thrown ∧ Int32.toInt m_thrown ≤ 0) → (31 - Int32.toInt x8 < n55) → K55 x2 x3 x4 x5 x6 x7 x8 m_rowMany m_thrown m_drawn m_row) (x2 : Int32) (x3 : Int32) (x4 : Int32) (x5 : Int32) (x6 : Int32) (x7 : Int32) (x8 : Int32) (m_rowMany : Int32) (m_thrown : Int32) (m_drawn : Int32) (m_row : Nat → Int32) (h_x2 : 1 ≤ Int32.toInt x2 ∧ Int32.toInt x2 ≤ 30) (h_x3 : 0 ≤ Int32.toInt x3 ∧ Int32.toInt x3 ≤ 10) (h_x4 : 0 ≤ Int32.toInt x4 ∧ Int32.toInt x4 ≤ 65535) (h_x5 : 0 ≤ Int32.toInt x5 ∧ Int32.toInt x5 ≤ 65535) (h_x6 : 0 ≤ Int32.toInt x6 ∧ Int32.toInt x6 ≤ 63) (h_x7 : -1 ≤ Int32.toInt x7 ∧ Int32.toInt x7 ≤ 30) (h_x8 : 1 ≤ Int32.toInt x8 ∧ Int32.toInt x8 ≤ 30) (h_m_rowMany : 0 ≤ Int32.toInt m_rowMany ∧ Int32.toInt m_rowMany ≤ 16) (h_m_thrown : 0 ≤ Int32.toInt m_thrown ∧ Int32.toInt m_thrown ≤ 0) (hn55 : 31 - Int32.toInt x8 ≤ n55) : ws_X10_autumn_175 post K55 m_fruits m_now m_worth m_ripe x2 x3 x4 x5 x6 x7 x8 m_rowMany m_thrown m_drawn m_row := by
  have l0 : Int32.toInt (1 : Int32) = 1 := (by decide)
  intro v4 ev4
  have f5 : Int32.toInt (x8 + 1) = Int32.toInt x8 + Int32.toInt (1 : Int32) := ta_add _ _ (by omega)
  rw [← ev4] at f5
  have f6 := tp_r m_drawn
  exact hK55 x2 x3 x4 x5 x6 x7 v4 m_rowMany m_thrown m_drawn m_row (by omega) (by omega) (by omega) (by omega) (by omega) (by omega) (by omega) (by omega) (by omega) (by omega)
set_option maxHeartbeats 8000000 in
set_option maxRecDepth 200000 in
theorem ts_X10_autumn_91 {post : Int32 → Int32 → Int32 → Int32 → (Nat → Int32) → Prop} {SB : Int} {K55 : Int32 → Int32 → Int32 → Int32 → Int32 → Int32 → Int32 → Int32 → Int32 → Int32 → (Nat → Int32) → Prop} {next : Int32 → Int32 → Int32 → Int32 → Int32 → Int32 → Int32 → Int32 → Int32 → Int32 → Int32 → Int32 → Int32 → (Nat → Int32) → Prop} {n91 : Int} {n55 : Int} (m_fruits : Int32) (m_now : Nat → Int32) (m_worth : Nat → Int32) (m_ripe : Nat → Int32) (h_m_fruits : 0 ≤ Int32.toInt m_fruits ∧ Int32.toInt m_fruits ≤ 16) (e0_m_now : ∀ k : Nat, k = 17 → -1 ≤ Int32.toInt (m_now k) ∧ Int32.toInt (m_now k) ≤ SB) (e1_m_now : ∀ k : Nat, k = 19 → 0 ≤ Int32.toInt (m_now k) ∧ Int32.toInt (m_now k) ≤ 9) (h_m_worth : ∀ k : Nat, 0 ≤ Int32.toInt (m_worth k) ∧ Int32.toInt (m_worth k) ≤ 9) (h_m_ripe : ∀ k : Nat, 0 ≤ Int32.toInt (m_ripe k) ∧ Int32.toInt (m_ripe k) ≤ 9) (hc0 : -1 ≤ SB ∧ SB ≤ 7) (hpost : ∀ (r : Int32) (m_rowMany' : Int32) (m_thrown' : Int32) (m_drawn' : Int32) (m_row' : Nat → Int32), (-1 ≤ Int32.toInt r ∧ Int32.toInt r ≤ 63) → (0 ≤ Int32.toInt m_rowMany' ∧ Int32.toInt m_rowMany' ≤ 16) → (0 ≤ Int32.toInt m_thrown' ∧ Int32.toInt m_thrown' ≤ 0) → post r m_rowMany' m_thrown' m_drawn' m_row') (hK55 : ∀ (x2 : Int32) (x3 : Int32) (x4 : Int32) (x5 : Int32) (x6 : Int32) (x7 : Int32) (x8 : Int32) (m_rowMany : Int32) (m_thrown : Int32) (m_drawn : Int32) (m_row : Nat → Int32), (1 ≤ Int32.toInt x2 ∧ Int32.toInt x2 ≤ 30) → (0 ≤ Int32.toInt x3 ∧ Int32.toInt x3 ≤ 10) → (0 ≤ Int32.toInt x4 ∧ Int32.toInt x4 ≤ 65535) → (0 ≤ Int32.toInt x5 ∧ Int32.toInt x5 ≤ 65535) → (0 ≤ Int32.toInt x6 ∧ Int32.toInt x6 ≤ 63) → (-1 ≤ Int32.toInt x7 ∧ Int32.toInt x7 ≤ 30) → (1 ≤ Int32.toInt x8 ∧ Int32.toInt x8 ≤ 31) → (0 ≤ Int32.toInt m_rowMany ∧ Int32.toInt m_rowMany ≤ 16) → (0 ≤ Int32.toInt m_thrown ∧ Int32.toInt m_thrown ≤ 0) → (31 - Int32.toInt x8 < n55) → K55 x2 x3 x4 x5 x6 x7 x8 m_rowMany m_thrown m_drawn m_row) (hKn : ∀ (x2 : Int32) (x3 : Int32) (x4 : Int32) (x5 : Int32) (x6 : Int32) (x7 : Int32) (x8 : Int32) (x9 : Int32) (x10 : Int32) (x11 : Int32) (m_rowMany : Int32) (m_thrown : Int32) (m_drawn : Int32) (m_row : Nat → Int32), (1 ≤ Int32.toInt x2 ∧ Int32.toInt x2 ≤ 30) → (0 ≤ Int32.toInt x3 ∧ Int32.toInt x3 ≤ 10) → (0 ≤ Int32.toInt x4 ∧ Int32.toInt x4 ≤ 65535) → (0 ≤ Int32.toInt x5 ∧ Int32.toInt x5 ≤ 65535) → (0 ≤ Int32.toInt x6 ∧ Int32.toInt x6 ≤ 63) → (-1 ≤ Int32.toInt x7 ∧ Int32.toInt x7 ≤ 30) → (1 ≤ Int32.toInt x8 ∧ Int32.toInt x8 ≤ 30) → (0 ≤ Int32.toInt x9 ∧ Int32.toInt x9 ≤ 65535) → (0 ≤ Int32.toInt x10 ∧ Int32.toInt x10 ≤ 65535) → (0 ≤ Int32.toInt x11 ∧ Int32.toInt x11 ≤ 16) → (0 ≤ Int32.toInt m_rowMany ∧ Int32.toInt m_rowMany ≤ 16) → (0 ≤ Int32.toInt m_thrown ∧ Int32.toInt m_thrown ≤ 0) → (31 - Int32.toInt x8 ≤ n55) → (16 - Int32.toInt x11 < n91) → next x2 x3 x4 x5 x6 x7 x8 x9 x10 x11 m_rowMany m_thrown m_drawn m_row) (x2 : Int32) (x3 : Int32) (x4 : Int32) (x5 : Int32) (x6 : Int32) (x7 : Int32) (x8 : Int32) (x9 : Int32) (x10 : Int32) (x11 : Int32) (m_rowMany : Int32) (m_thrown : Int32) (m_drawn : Int32) (m_row : Nat → Int32) (h_x2 : 1 ≤ Int32.toInt x2 ∧ Int32.toInt x2 ≤ 30) (h_x3 : 0 ≤ Int32.toInt x3 ∧ Int32.toInt x3 ≤ 10) (h_x4 : 0 ≤ Int32.toInt x4 ∧ Int32.toInt x4 ≤ 65535) (h_x5 : 0 ≤ Int32.toInt x5 ∧ Int32.toInt x5 ≤ 65535) (h_x6 : 0 ≤ Int32.toInt x6 ∧ Int32.toInt x6 ≤ 63) (h_x7 : -1 ≤ Int32.toInt x7 ∧ Int32.toInt x7 ≤ 30) (h_x8 : 1 ≤ Int32.toInt x8 ∧ Int32.toInt x8 ≤ 30) (h_x9 : 0 ≤ Int32.toInt x9 ∧ Int32.toInt x9 ≤ 65535) (h_x10 : 0 ≤ Int32.toInt x10 ∧ Int32.toInt x10 ≤ 65535) (h_x11 : 0 ≤ Int32.toInt x11 ∧ Int32.toInt x11 ≤ 16) (h_m_rowMany : 0 ≤ Int32.toInt m_rowMany ∧ Int32.toInt m_rowMany ≤ 16) (h_m_thrown : 0 ≤ Int32.toInt m_thrown ∧ Int32.toInt m_thrown ≤ 0) (hn55 : 31 - Int32.toInt x8 ≤ n55) (hn91 : 16 - Int32.toInt x11 ≤ n91) : ws_X10_autumn_91 post K55 next m_fruits m_now m_worth m_ripe x2 x3 x4 x5 x6 x7 x8 x9 x10 x11 m_rowMany m_thrown m_drawn m_row := by
  have l0 : Int32.toInt (0 : Int32) = 0 := (by decide)
  have l1 : Int32.toInt (1 : Int32) = 1 := (by decide)
  have l2 : Int32.toInt (10 : Int32) = 10 := (by decide)
  have l3 : Int32.toInt (1431655765 : Int32) = 1431655765 := (by decide)
  have l4 : Int32.toInt (252645135 : Int32) = 252645135 := (by decide)
  have l5 : Int32.toInt (63 : Int32) = 63 := (by decide)
  have l6 : Int32.toInt (858993459 : Int32) = 858993459 := (by decide)
  refine And.intro (fun c7 => ?_) (fun c7 => ?_)
  · skip
    have c7 := (fa_le _ _).mp c7
    intro v8 ev8
    have f10 := ti_andl x4 (x10 ^^^ (-1)) (by omega)
    have hv8 := congrArg Int32.toInt ev8
    intro v11 ev11
    have f12 := ti_or 16 65536 x5 x10 (by decide) (by omega) (by omega)
    have hv11 := congrArg Int32.toInt ev11
    intro v13 ev13
    intro v14 ev14
    have f16 := ti_andr v13 1431655765 (by omega)
    have f15 : Int32.toInt (x10 - (v13 &&& 1431655765)) = Int32.toInt x10 - Int32.toInt (v13 &&& 1431655765) := ta_sub _ _ (by omega)
    rw [← ev14] at f15
    intro v17 ev17
    have f18 := ti_andr v14 858993459 (by omega)
    have hv17 := congrArg Int32.toInt ev17
    intro v19 ev19
    intro v20 ev20
    have f22 := ti_andr v19 858993459 (by omega)
    have f21 : Int32.toInt (v17 + (v19 &&& 858993459)) = Int32.toInt v17 + Int32.toInt (v19 &&& 858993459) := ta_add _ _ (by omega)
    rw [← ev20] at f21
    intro v23 ev23
    have hv23 := congrArg Int32.toInt ev23
    intro v25 ev25
    have f26 := ti_andr v23 252645135 (by omega)
    have hv25 := congrArg Int32.toInt ev25
    intro v27 ev27
    have hv27 := congrArg Int32.toInt ev27
    intro v29 ev29
    have hv29 := congrArg Int32.toInt ev29
    have f32 := ti_andr v29 63 (by omega)
    refine And.intro (fun c31 => ?_) (fun c31 => ?_)
    · skip
      have c31 := (fa_lt _ _).mp c31
      intro v33 ev33
      intro v34 ev34
      have f36 := ti_andr v33 1431655765 (by omega)
      have f35 : Int32.toInt (x10 - (v33 &&& 1431655765)) = Int32.toInt x10 - Int32.toInt (v33 &&& 1431655765) := ta_sub _ _ (by omega)
      rw [← ev34] at f35
      intro v37 ev37
      have f38 := ti_andr v34 858993459 (by omega)
      have hv37 := congrArg Int32.toInt ev37
      intro v39 ev39
      intro v40 ev40
      have f42 := ti_andr v39 858993459 (by omega)
      have f41 : Int32.toInt (v37 + (v39 &&& 858993459)) = Int32.toInt v37 + Int32.toInt (v39 &&& 858993459) := ta_add _ _ (by omega)
      rw [← ev40] at f41
      intro v43 ev43
      have hv43 := congrArg Int32.toInt ev43
      intro v45 ev45
      have f46 := ti_andr v43 252645135 (by omega)
      have hv45 := congrArg Int32.toInt ev45
      intro v47 ev47
      have hv47 := congrArg Int32.toInt ev47
      intro v49 ev49
      have hv49 := congrArg Int32.toInt ev49
      have f51 := ti_andr v49 63 (by omega)
      have f52 := tp_r m_drawn
      exact ts_X10_autumn_175 m_fruits m_now m_worth m_ripe h_m_fruits e0_m_now e1_m_now h_m_worth h_m_ripe hc0 hpost hK55 x2 x3 v8 v11 (v49 &&& 63) x8 x8 m_rowMany m_thrown m_drawn m_row (by omega) (by omega) (by omega) (by omega) (by omega) (by omega) (by omega) (by omega) (by omega) (by omega)
    · skip
      have c31 := mt (fa_lt _ _).mpr c31
      have f53 := tp_r m_drawn
      exact ts_X10_autumn_175 m_fruits m_now m_worth m_ripe h_m_fruits e0_m_now e1_m_now h_m_worth h_m_ripe hc0 hpost hK55 x2 x3 v8 v11 x6 x7 x8 m_rowMany m_thrown m_drawn m_row (by omega) (by omega) (by omega) (by omega) (by omega) (by omega) (by omega) (by omega) (by omega) (by omega)
  · skip
    have c7 := mt (fa_le _ _).mpr c7
    intro v54 ev54
    have f55 := ti_shr x9 x11 (by omega)
    have hv54 := congrArg Int32.toInt ev54
    intro v56 ev56
    have f57 := ti_andr v54 1 (by omega)
    have f58 := ti_andl v54 1 (by omega)
    have hv56 := congrArg Int32.toInt ev56
    refine And.intro (fun c59 => ?_) (fun c59 => ?_)
    · skip
      have c59 := mt (fa_eq _ _).mpr c59
      refine And.intro (fun _ => ?_) (fun h9 => absurd h9 (by decide))
      have f60 := tp_r m_drawn
      exact ts_X10_autumn_129 m_fruits m_now m_worth m_ripe h_m_fruits e0_m_now e1_m_now h_m_worth h_m_ripe hc0 hpost hK55 hKn x2 x3 x4 x5 x6 x7 x8 x9 x10 x11 m_rowMany m_thrown m_drawn m_row (by omega) (by omega) (by omega) (by omega) (by omega) (by omega) (by omega) (by omega) (by omega) (by omega) (by omega) (by omega) (by omega) (by omega)
    · skip
      have c59 := (fa_eq _ _).mp c59
      refine And.intro (fun h9 => absurd h9 (by decide)) (fun _ => ?_)
      intro v61 ev61
      have hv61 := congrArg Int32.toInt ev61
      intro v63 ev63
      have hv63 := congrArg Int32.toInt ev63
      intro v65 ev65
      refine And.intro (mt (fa_eq _ _).mp (by omega)) ?_
      refine And.intro (fun c66 => ?_) (fun c66 => ?_)
      · skip
        have c66 := (fa_le _ _).mp c66
        have f68 := tp_r v63
        exact ts_X10_autumn_129 m_fruits m_now m_worth m_ripe h_m_fruits e0_m_now e1_m_now h_m_worth h_m_ripe hc0 hpost hK55 hKn x2 x3 x4 x5 x6 x7 x8 x9 x10 x11 m_rowMany m_thrown v63 m_row (by omega) (by omega) (by omega) (by omega) (by omega) (by omega) (by omega) (by omega) (by omega) (by omega) (by omega) (by omega) (by omega) (by omega)
      · skip
        have c66 := mt (fa_le _ _).mpr c66
        intro v69 ev69
        have f71 := ti_shl1 15 32768 x11 (by decide) (by omega)
        have f70 := ti_or 16 65536 x10 (1 <<< (x11 &&& 31)) (by decide) (by omega) (by omega)
        have hv69 := congrArg Int32.toInt ev69
        have f72 := tp_r v63
        exact ts_X10_autumn_129 m_fruits m_now m_worth m_ripe h_m_fruits e0_m_now e1_m_now h_m_worth h_m_ripe hc0 hpost hK55 hKn x2 x3 x4 x5 x6 x7 x8 x9 v69 x11 m_rowMany m_thrown v63 m_row (by omega) (by omega) (by omega) (by omega) (by omega) (by omega) (by omega) (by omega) (by omega) (by omega) (by omega) (by omega) (by omega) (by omega)
set_option maxHeartbeats 8000000 in
set_option maxRecDepth 200000 in
theorem tb_X10_autumn_91 {post : Int32 → Int32 → Int32 → Int32 → (Nat → Int32) → Prop} {SB : Int} {K55 : Int32 → Int32 → Int32 → Int32 → Int32 → Int32 → Int32 → Int32 → Int32 → Int32 → (Nat → Int32) → Prop} {n55 : Int} (m_fruits : Int32) (m_now : Nat → Int32) (m_worth : Nat → Int32) (m_ripe : Nat → Int32) (h_m_fruits : 0 ≤ Int32.toInt m_fruits ∧ Int32.toInt m_fruits ≤ 16) (e0_m_now : ∀ k : Nat, k = 17 → -1 ≤ Int32.toInt (m_now k) ∧ Int32.toInt (m_now k) ≤ SB) (e1_m_now : ∀ k : Nat, k = 19 → 0 ≤ Int32.toInt (m_now k) ∧ Int32.toInt (m_now k) ≤ 9) (h_m_worth : ∀ k : Nat, 0 ≤ Int32.toInt (m_worth k) ∧ Int32.toInt (m_worth k) ≤ 9) (h_m_ripe : ∀ k : Nat, 0 ≤ Int32.toInt (m_ripe k) ∧ Int32.toInt (m_ripe k) ≤ 9) (hc0 : -1 ≤ SB ∧ SB ≤ 7) (hpost : ∀ (r : Int32) (m_rowMany' : Int32) (m_thrown' : Int32) (m_drawn' : Int32) (m_row' : Nat → Int32), (-1 ≤ Int32.toInt r ∧ Int32.toInt r ≤ 63) → (0 ≤ Int32.toInt m_rowMany' ∧ Int32.toInt m_rowMany' ≤ 16) → (0 ≤ Int32.toInt m_thrown' ∧ Int32.toInt m_thrown' ≤ 0) → post r m_rowMany' m_thrown' m_drawn' m_row') (hK55 : ∀ (x2 : Int32) (x3 : Int32) (x4 : Int32) (x5 : Int32) (x6 : Int32) (x7 : Int32) (x8 : Int32) (m_rowMany : Int32) (m_thrown : Int32) (m_drawn : Int32) (m_row : Nat → Int32), (1 ≤ Int32.toInt x2 ∧ Int32.toInt x2 ≤ 30) → (0 ≤ Int32.toInt x3 ∧ Int32.toInt x3 ≤ 10) → (0 ≤ Int32.toInt x4 ∧ Int32.toInt x4 ≤ 65535) → (0 ≤ Int32.toInt x5 ∧ Int32.toInt x5 ≤ 65535) → (0 ≤ Int32.toInt x6 ∧ Int32.toInt x6 ≤ 63) → (-1 ≤ Int32.toInt x7 ∧ Int32.toInt x7 ≤ 30) → (1 ≤ Int32.toInt x8 ∧ Int32.toInt x8 ≤ 31) → (0 ≤ Int32.toInt m_rowMany ∧ Int32.toInt m_rowMany ≤ 16) → (0 ≤ Int32.toInt m_thrown ∧ Int32.toInt m_thrown ≤ 0) → (31 - Int32.toInt x8 < n55) → K55 x2 x3 x4 x5 x6 x7 x8 m_rowMany m_thrown m_drawn m_row) : ∀ (n : Nat) (x2 : Int32) (x3 : Int32) (x4 : Int32) (x5 : Int32) (x6 : Int32) (x7 : Int32) (x8 : Int32) (x9 : Int32) (x10 : Int32) (x11 : Int32) (m_rowMany : Int32) (m_thrown : Int32) (m_drawn : Int32) (m_row : Nat → Int32), (1 ≤ Int32.toInt x2 ∧ Int32.toInt x2 ≤ 30) → (0 ≤ Int32.toInt x3 ∧ Int32.toInt x3 ≤ 10) → (0 ≤ Int32.toInt x4 ∧ Int32.toInt x4 ≤ 65535) → (0 ≤ Int32.toInt x5 ∧ Int32.toInt x5 ≤ 65535) → (0 ≤ Int32.toInt x6 ∧ Int32.toInt x6 ≤ 63) → (-1 ≤ Int32.toInt x7 ∧ Int32.toInt x7 ≤ 30) → (1 ≤ Int32.toInt x8 ∧ Int32.toInt x8 ≤ 30) → (0 ≤ Int32.toInt x9 ∧ Int32.toInt x9 ≤ 65535) → (0 ≤ Int32.toInt x10 ∧ Int32.toInt x10 ≤ 65535) → (0 ≤ Int32.toInt x11 ∧ Int32.toInt x11 ≤ 16) → (0 ≤ Int32.toInt m_rowMany ∧ Int32.toInt m_rowMany ≤ 16) → (0 ≤ Int32.toInt m_thrown ∧ Int32.toInt m_thrown ≤ 0) → (31 - Int32.toInt x8 ≤ n55) → (16 - Int32.toInt x11 < (n : Int)) → wb_X10_autumn_91 post K55 m_fruits m_now m_worth m_ripe n x2 x3 x4 x5 x6 x7 x8 x9 x10 x11 m_rowMany m_thrown m_drawn m_row := by
  intro n
  induction n with
  | zero =>
    intro x2 x3 x4 x5 x6 x7 x8 x9 x10 x11 m_rowMany m_thrown m_drawn m_row h_x2 h_x3 h_x4 h_x5 h_x6 h_x7 h_x8 h_x9 h_x10 h_x11 h_m_rowMany h_m_thrown hn55 hm
    exfalso; omega
  | succ n ih =>
    intro x2 x3 x4 x5 x6 x7 x8 x9 x10 x11 m_rowMany m_thrown m_drawn m_row h_x2 h_x3 h_x4 h_x5 h_x6 h_x7 h_x8 h_x9 h_x10 h_x11 h_m_rowMany h_m_thrown hn55 hm
    exact ts_X10_autumn_91 m_fruits m_now m_worth m_ripe h_m_fruits e0_m_now e1_m_now h_m_worth h_m_ripe hc0 hpost hK55 ih x2 x3 x4 x5 x6 x7 x8 x9 x10 x11 m_rowMany m_thrown m_drawn m_row h_x2 h_x3 h_x4 h_x5 h_x6 h_x7 h_x8 h_x9 h_x10 h_x11 h_m_rowMany h_m_thrown hn55 (by omega)
set_option maxHeartbeats 8000000 in
set_option maxRecDepth 200000 in
theorem ts_X10_autumn_55 {post : Int32 → Int32 → Int32 → Int32 → (Nat → Int32) → Prop} {SB : Int} {next : Int32 → Int32 → Int32 → Int32 → Int32 → Int32 → Int32 → Int32 → Int32 → Int32 → (Nat → Int32) → Prop} {n55 : Int} (m_fruits : Int32) (m_now : Nat → Int32) (m_worth : Nat → Int32) (m_ripe : Nat → Int32) (h_m_fruits : 0 ≤ Int32.toInt m_fruits ∧ Int32.toInt m_fruits ≤ 16) (e0_m_now : ∀ k : Nat, k = 17 → -1 ≤ Int32.toInt (m_now k) ∧ Int32.toInt (m_now k) ≤ SB) (e1_m_now : ∀ k : Nat, k = 19 → 0 ≤ Int32.toInt (m_now k) ∧ Int32.toInt (m_now k) ≤ 9) (h_m_worth : ∀ k : Nat, 0 ≤ Int32.toInt (m_worth k) ∧ Int32.toInt (m_worth k) ≤ 9) (h_m_ripe : ∀ k : Nat, 0 ≤ Int32.toInt (m_ripe k) ∧ Int32.toInt (m_ripe k) ≤ 9) (hc0 : -1 ≤ SB ∧ SB ≤ 7) (hpost : ∀ (r : Int32) (m_rowMany' : Int32) (m_thrown' : Int32) (m_drawn' : Int32) (m_row' : Nat → Int32), (-1 ≤ Int32.toInt r ∧ Int32.toInt r ≤ 63) → (0 ≤ Int32.toInt m_rowMany' ∧ Int32.toInt m_rowMany' ≤ 16) → (0 ≤ Int32.toInt m_thrown' ∧ Int32.toInt m_thrown' ≤ 0) → post r m_rowMany' m_thrown' m_drawn' m_row') (hKn : ∀ (x2 : Int32) (x3 : Int32) (x4 : Int32) (x5 : Int32) (x6 : Int32) (x7 : Int32) (x8 : Int32) (m_rowMany : Int32) (m_thrown : Int32) (m_drawn : Int32) (m_row : Nat → Int32), (1 ≤ Int32.toInt x2 ∧ Int32.toInt x2 ≤ 30) → (0 ≤ Int32.toInt x3 ∧ Int32.toInt x3 ≤ 10) → (0 ≤ Int32.toInt x4 ∧ Int32.toInt x4 ≤ 65535) → (0 ≤ Int32.toInt x5 ∧ Int32.toInt x5 ≤ 65535) → (0 ≤ Int32.toInt x6 ∧ Int32.toInt x6 ≤ 63) → (-1 ≤ Int32.toInt x7 ∧ Int32.toInt x7 ≤ 30) → (1 ≤ Int32.toInt x8 ∧ Int32.toInt x8 ≤ 31) → (0 ≤ Int32.toInt m_rowMany ∧ Int32.toInt m_rowMany ≤ 16) → (0 ≤ Int32.toInt m_thrown ∧ Int32.toInt m_thrown ≤ 0) → (31 - Int32.toInt x8 < n55) → next x2 x3 x4 x5 x6 x7 x8 m_rowMany m_thrown m_drawn m_row) (x2 : Int32) (x3 : Int32) (x4 : Int32) (x5 : Int32) (x6 : Int32) (x7 : Int32) (x8 : Int32) (m_rowMany : Int32) (m_thrown : Int32) (m_drawn : Int32) (m_row : Nat → Int32) (h_x2 : 1 ≤ Int32.toInt x2 ∧ Int32.toInt x2 ≤ 30) (h_x3 : 0 ≤ Int32.toInt x3 ∧ Int32.toInt x3 ≤ 10) (h_x4 : 0 ≤ Int32.toInt x4 ∧ Int32.toInt x4 ≤ 65535) (h_x5 : 0 ≤ Int32.toInt x5 ∧ Int32.toInt x5 ≤ 65535) (h_x6 : 0 ≤ Int32.toInt x6 ∧ Int32.toInt x6 ≤ 63) (h_x7 : -1 ≤ Int32.toInt x7 ∧ Int32.toInt x7 ≤ 30) (h_x8 : 1 ≤ Int32.toInt x8 ∧ Int32.toInt x8 ≤ 31) (h_m_rowMany : 0 ≤ Int32.toInt m_rowMany ∧ Int32.toInt m_rowMany ≤ 16) (h_m_thrown : 0 ≤ Int32.toInt m_thrown ∧ Int32.toInt m_thrown ≤ 0) (hn55 : 31 - Int32.toInt x8 ≤ n55) : ws_X10_autumn_55 post next m_fruits m_now m_worth m_ripe x2 x3 x4 x5 x6 x7 x8 m_rowMany m_thrown m_drawn m_row := by
  have l0 : Int32.toInt (0 : Int32) = 0 := (by decide)
  have l1 : Int32.toInt (1 : Int32) = 1 := (by decide)
  have l2 : Int32.toInt (1431655765 : Int32) = 1431655765 := (by decide)
  have l3 : Int32.toInt (16 : Int32) = 16 := (by decide)
  have l4 : Int32.toInt (19 : Int32) = 19 := (by decide)
  have l5 : Int32.toInt (252645135 : Int32) = 252645135 := (by decide)
  have l6 : Int32.toInt (63 : Int32) = 63 := (by decide)
  have l7 : Int32.toInt (858993459 : Int32) = 858993459 := (by decide)
  have l8 : Int32.toInt (9 : Int32) = 9 := (by decide)
  refine And.intro (fun c73 => ?_) (fun c73 => ?_)
  · skip
    have c73 := (fa_lt _ _).mp c73
    refine And.intro (t_in (by omega)) ?_
    intro v74 ev74
    have f75 : Int32.toInt (0 + 1) = Int32.toInt (0 : Int32) + Int32.toInt (1 : Int32) := ta_add _ _ (by omega)
    rw [← ev74] at f75
    intro v76 ev76
    have hv76 := congrArg Int32.toInt ev76
    refine t_X10_worthOfAll (by omega) (by omega) (fun k => by have q9 := h_m_worth k; omega) (fun r78 => ?_)
    refine And.intro (t_in (by omega)) ?_
    intro v79 ev79
    have f80 : Int32.toInt (v74 + 1) = Int32.toInt v74 + Int32.toInt (1 : Int32) := ta_add _ _ (by omega)
    rw [← ev79] at f80
    refine And.intro (t_in (by omega)) ?_
    intro v81 ev81
    have f82 : Int32.toInt (v79 + 1) = Int32.toInt v79 + Int32.toInt (1 : Int32) := ta_add _ _ (by omega)
    rw [← ev81] at f82
    intro v83 ev83
    intro v84 ev84
    have f86 := ti_andr v83 1431655765 (by omega)
    have f85 : Int32.toInt (x5 - (v83 &&& 1431655765)) = Int32.toInt x5 - Int32.toInt (v83 &&& 1431655765) := ta_sub _ _ (by omega)
    rw [← ev84] at f85
    intro v87 ev87
    have f88 := ti_andr v84 858993459 (by omega)
    have hv87 := congrArg Int32.toInt ev87
    intro v89 ev89
    intro v90 ev90
    have f92 := ti_andr v89 858993459 (by omega)
    have f91 : Int32.toInt (v87 + (v89 &&& 858993459)) = Int32.toInt v87 + Int32.toInt (v89 &&& 858993459) := ta_add _ _ (by omega)
    rw [← ev90] at f91
    intro v93 ev93
    have hv93 := congrArg Int32.toInt ev93
    intro v95 ev95
    have f96 := ti_andr v93 252645135 (by omega)
    have hv95 := congrArg Int32.toInt ev95
    intro v97 ev97
    have hv97 := congrArg Int32.toInt ev97
    intro v99 ev99
    have hv99 := congrArg Int32.toInt ev99
    have f101 := ti_andr v99 63 (by omega)
    exact hpost _ _ _ _ _ (by omega) (by omega) (by omega)
  · skip
    have c73 := mt (fa_lt _ _).mpr c73
    have q102 := e1_m_now (19 : Int32).toNatClampNeg (by have e9 : (19 : Int32).toNatClampNeg = (Int32.toInt (19 : Int32)).toNat := rfl; omega)
    intro v103 ev103
    have hv103 := congrArg Int32.toInt ev103
    intro v105 ev105
    have f106 : Int32.toInt (v103 + x8) = Int32.toInt v103 + Int32.toInt x8 := ta_add _ _ (by omega)
    rw [← ev105] at f106
    intro v107 ev107
    have f108 := ti_min (9 : Int32) v105
    have hv107 := congrArg Int32.toInt ev107
    refine t_X10_ripeOnes (by omega) (by omega) (fun k => by have q9 := h_m_ripe k; omega) (fun r109 h_r109 ox110 => ?_)
    intro v111 ev111
    have f112 := ti_andr x4 r109 (by omega)
    have f113 := ti_andl x4 r109 (by omega)
    have hv111 := congrArg Int32.toInt ev111
    have f114 := tp_r m_drawn
    exact ⟨18, tb_X10_autumn_91 m_fruits m_now m_worth m_ripe h_m_fruits e0_m_now e1_m_now h_m_worth h_m_ripe hc0 hpost hKn _ x2 x3 x4 x5 x6 x7 x8 v111 0 0 m_rowMany m_thrown m_drawn m_row (by omega) (by omega) (by omega) (by omega) (by omega) (by omega) (by omega) (by omega) (by omega) (by omega) (by omega) (by omega) (by omega) (by omega)⟩
set_option maxHeartbeats 8000000 in
set_option maxRecDepth 200000 in
theorem tb_X10_autumn_55 {post : Int32 → Int32 → Int32 → Int32 → (Nat → Int32) → Prop} {SB : Int} (m_fruits : Int32) (m_now : Nat → Int32) (m_worth : Nat → Int32) (m_ripe : Nat → Int32) (h_m_fruits : 0 ≤ Int32.toInt m_fruits ∧ Int32.toInt m_fruits ≤ 16) (e0_m_now : ∀ k : Nat, k = 17 → -1 ≤ Int32.toInt (m_now k) ∧ Int32.toInt (m_now k) ≤ SB) (e1_m_now : ∀ k : Nat, k = 19 → 0 ≤ Int32.toInt (m_now k) ∧ Int32.toInt (m_now k) ≤ 9) (h_m_worth : ∀ k : Nat, 0 ≤ Int32.toInt (m_worth k) ∧ Int32.toInt (m_worth k) ≤ 9) (h_m_ripe : ∀ k : Nat, 0 ≤ Int32.toInt (m_ripe k) ∧ Int32.toInt (m_ripe k) ≤ 9) (hc0 : -1 ≤ SB ∧ SB ≤ 7) (hpost : ∀ (r : Int32) (m_rowMany' : Int32) (m_thrown' : Int32) (m_drawn' : Int32) (m_row' : Nat → Int32), (-1 ≤ Int32.toInt r ∧ Int32.toInt r ≤ 63) → (0 ≤ Int32.toInt m_rowMany' ∧ Int32.toInt m_rowMany' ≤ 16) → (0 ≤ Int32.toInt m_thrown' ∧ Int32.toInt m_thrown' ≤ 0) → post r m_rowMany' m_thrown' m_drawn' m_row') : ∀ (n : Nat) (x2 : Int32) (x3 : Int32) (x4 : Int32) (x5 : Int32) (x6 : Int32) (x7 : Int32) (x8 : Int32) (m_rowMany : Int32) (m_thrown : Int32) (m_drawn : Int32) (m_row : Nat → Int32), (1 ≤ Int32.toInt x2 ∧ Int32.toInt x2 ≤ 30) → (0 ≤ Int32.toInt x3 ∧ Int32.toInt x3 ≤ 10) → (0 ≤ Int32.toInt x4 ∧ Int32.toInt x4 ≤ 65535) → (0 ≤ Int32.toInt x5 ∧ Int32.toInt x5 ≤ 65535) → (0 ≤ Int32.toInt x6 ∧ Int32.toInt x6 ≤ 63) → (-1 ≤ Int32.toInt x7 ∧ Int32.toInt x7 ≤ 30) → (1 ≤ Int32.toInt x8 ∧ Int32.toInt x8 ≤ 31) → (0 ≤ Int32.toInt m_rowMany ∧ Int32.toInt m_rowMany ≤ 16) → (0 ≤ Int32.toInt m_thrown ∧ Int32.toInt m_thrown ≤ 0) → (31 - Int32.toInt x8 < (n : Int)) → wb_X10_autumn_55 post m_fruits m_now m_worth m_ripe n x2 x3 x4 x5 x6 x7 x8 m_rowMany m_thrown m_drawn m_row := by
  intro n
  induction n with
  | zero =>
    intro x2 x3 x4 x5 x6 x7 x8 m_rowMany m_thrown m_drawn m_row h_x2 h_x3 h_x4 h_x5 h_x6 h_x7 h_x8 h_m_rowMany h_m_thrown hm
    exfalso; omega
  | succ n ih =>
    intro x2 x3 x4 x5 x6 x7 x8 m_rowMany m_thrown m_drawn m_row h_x2 h_x3 h_x4 h_x5 h_x6 h_x7 h_x8 h_m_rowMany h_m_thrown hm
    exact ts_X10_autumn_55 m_fruits m_now m_worth m_ripe h_m_fruits e0_m_now e1_m_now h_m_worth h_m_ripe hc0 hpost ih x2 x3 x4 x5 x6 x7 x8 m_rowMany m_thrown m_drawn m_row h_x2 h_x3 h_x4 h_x5 h_x6 h_x7 h_x8 h_m_rowMany h_m_thrown (by omega)
set_option maxHeartbeats 8000000 in
set_option maxRecDepth 200000 in
theorem t_X10_autumn {post : Int32 → Int32 → Int32 → Int32 → (Nat → Int32) → Prop} {SB : Int} {p0 : Int32} {p1 : Int32} {p2 : Int32} {m_fruits : Int32} {m_rowMany : Int32} {m_thrown : Int32} {m_drawn : Int32} {m_now : Nat → Int32} {m_worth : Nat → Int32} {m_ripe : Nat → Int32} {m_row : Nat → Int32} (h_m_fruits : 0 ≤ Int32.toInt m_fruits ∧ Int32.toInt m_fruits ≤ 16) (h_m_rowMany : 0 ≤ Int32.toInt m_rowMany ∧ Int32.toInt m_rowMany ≤ 16) (h_m_thrown : 0 ≤ Int32.toInt m_thrown ∧ Int32.toInt m_thrown ≤ 1) (e0_m_now : ∀ k : Nat, k = 17 → -1 ≤ Int32.toInt (m_now k) ∧ Int32.toInt (m_now k) ≤ SB) (e1_m_now : ∀ k : Nat, k = 19 → 0 ≤ Int32.toInt (m_now k) ∧ Int32.toInt (m_now k) ≤ 9) (h_m_worth : ∀ k : Nat, 0 ≤ Int32.toInt (m_worth k) ∧ Int32.toInt (m_worth k) ≤ 9) (h_m_ripe : ∀ k : Nat, 0 ≤ Int32.toInt (m_ripe k) ∧ Int32.toInt (m_ripe k) ≤ 9) (hc0 : -1 ≤ SB ∧ SB ≤ 7) (hpost : ∀ (r : Int32) (m_rowMany' : Int32) (m_thrown' : Int32) (m_drawn' : Int32) (m_row' : Nat → Int32), (-1 ≤ Int32.toInt r ∧ Int32.toInt r ≤ 63) → (0 ≤ Int32.toInt m_rowMany' ∧ Int32.toInt m_rowMany' ≤ 16) → (0 ≤ Int32.toInt m_thrown' ∧ Int32.toInt m_thrown' ≤ 0) → post r m_rowMany' m_thrown' m_drawn' m_row') : wp_X10_autumn post p0 p1 p2 m_fruits m_rowMany m_thrown m_drawn m_now m_worth m_ripe m_row := by
  have l0 : Int32.toInt ((-1) : Int32) = -1 := (by decide)
  have l1 : Int32.toInt (0 : Int32) = 0 := (by decide)
  have l2 : Int32.toInt (1 : Int32) = 1 := (by decide)
  have l3 : Int32.toInt (10 : Int32) = 10 := (by decide)
  have l4 : Int32.toInt (30 : Int32) = 30 := (by decide)
  have f116 := tp_r p1
  refine And.intro (fun c115 => ?_) (fun c115 => ?_)
  · skip
    have c115 := (fa_lt _ _).mp c115
    refine And.intro (fun _ => ?_) (fun h9 => absurd h9 (by decide))
    exact hpost _ _ _ _ _ (by omega) (by omega) (by omega)
  · skip
    have c115 := mt (fa_lt _ _).mpr c115
    refine And.intro (fun c117 => ?_) (fun c117 => ?_)
    · skip
      have c117 := (fa_lt _ _).mp c117
      refine And.intro (fun _ => ?_) (fun h9 => absurd h9 (by decide))
      exact hpost _ _ _ _ _ (by omega) (by omega) (by omega)
    · skip
      have c117 := mt (fa_lt _ _).mpr c117
      refine And.intro (fun h9 => absurd h9 (by decide)) (fun _ => ?_)
      have f119 := tp_r p2
      refine And.intro (fun c118 => ?_) (fun c118 => ?_)
      · skip
        have c118 := (fa_lt _ _).mp c118
        refine And.intro (fun h9 => absurd h9 (by decide)) (fun _ => ?_)
        exact hpost _ _ _ _ _ (by omega) (by omega) (by omega)
      · skip
        have c118 := mt (fa_lt _ _).mpr c118
        refine And.intro (fun c120 => ?_) (fun c120 => ?_)
        · skip
          have c120 := (fa_lt _ _).mp c120
          refine And.intro (fun h9 => absurd h9 (by decide)) (fun _ => ?_)
          exact hpost _ _ _ _ _ (by omega) (by omega) (by omega)
        · skip
          have c120 := mt (fa_lt _ _).mpr c120
          refine And.intro (fun _ => ?_) (fun h9 => absurd h9 (by decide))
          refine t_X10_which (by omega) (by omega) e0_m_now e1_m_now (by omega) (fun r121 h_r121 ox122 => ?_)
          have f123 := tp_r p0
          exact ⟨32, tb_X10_autumn_55 m_fruits m_now m_worth m_ripe h_m_fruits e0_m_now e1_m_now h_m_worth h_m_ripe hc0 hpost _ p1 p2 r121 0 0 (-1) 1 m_rowMany 0 p0 m_row (by omega) (by omega) (by omega) (by omega) (by omega) (by omega) (by omega) (by omega) (by omega) (by omega)⟩
set_option maxHeartbeats 8000000 in
set_option maxRecDepth 200000 in
theorem ts_X10_lay_b4_2 {post : (Nat → Int32) → Prop} {SB : Int} {next : Int32 → Int32 → (Nat → Int32) → Prop} {n2 : Int} (m_now : Nat → Int32) (e0_m_now : ∀ k : Nat, k = 17 → -1 ≤ Int32.toInt (m_now k) ∧ Int32.toInt (m_now k) ≤ SB) (e1_m_now : ∀ k : Nat, k = 19 → 0 ≤ Int32.toInt (m_now k) ∧ Int32.toInt (m_now k) ≤ 9) (hc0 : -1 ≤ SB ∧ SB ≤ 7) (hpost : ∀ (m_kept' : Nat → Int32), (∀ k : Nat, k % 21 = 17 → -1 ≤ Int32.toInt (m_kept' k) ∧ Int32.toInt (m_kept' k) ≤ SB) → (∀ k : Nat, k % 21 = 19 → 0 ≤ Int32.toInt (m_kept' k) ∧ Int32.toInt (m_kept' k) ≤ 9) → post m_kept') (hKn : ∀ (x2 : Int32) (x3 : Int32) (m_kept : Nat → Int32), (0 ≤ Int32.toInt x2 ∧ Int32.toInt x2 ≤ 21) → (0 ≤ Int32.toInt x3 ∧ Int32.toInt x3 ≤ 21) → (∀ k : Nat, k % 21 = 17 → -1 ≤ Int32.toInt (m_kept k) ∧ Int32.toInt (m_kept k) ≤ SB) → (∀ k : Nat, k % 21 = 19 → 0 ≤ Int32.toInt (m_kept k) ∧ Int32.toInt (m_kept k) ≤ 9) → (Int32.toInt x2 % 21 = 0) → (21 - Int32.toInt x3 < n2) → next x2 x3 m_kept) (x2 : Int32) (x3 : Int32) (m_kept : Nat → Int32) (h_x2 : 0 ≤ Int32.toInt x2 ∧ Int32.toInt x2 ≤ 21) (h_x3 : 0 ≤ Int32.toInt x3 ∧ Int32.toInt x3 ≤ 21) (e0_m_kept : ∀ k : Nat, k % 21 = 17 → -1 ≤ Int32.toInt (m_kept k) ∧ Int32.toInt (m_kept k) ≤ SB) (e1_m_kept : ∀ k : Nat, k % 21 = 19 → 0 ≤ Int32.toInt (m_kept k) ∧ Int32.toInt (m_kept k) ≤ 9) (hx0 : Int32.toInt x2 % 21 = 0) (hn2 : 21 - Int32.toInt x3 ≤ n2) : ws_X10_lay_b4_2 post next m_now x2 x3 m_kept := by
  have l0 : Int32.toInt (1 : Int32) = 1 := (by decide)
  have l1 : Int32.toInt (21 : Int32) = 21 := (by decide)
  refine And.intro (fun c1 => ?_) (fun c1 => ?_)
  · skip
    have c1 := (fa_le _ _).mp c1
    exact hpost _ e0_m_kept e1_m_kept
  · skip
    have c1 := mt (fa_le _ _).mpr c1
    intro v2 ev2
    have f3 : Int32.toInt (x2 + x3) = Int32.toInt x2 + Int32.toInt x3 := ta_add _ _ (by omega)
    rw [← ev2] at f3
    refine And.intro (t_in (by omega)) ?_
    have q4 := e0_m_now x3.toNatClampNeg
    have q5 := e1_m_now x3.toNatClampNeg
    have q6 : x3.toNatClampNeg = (Int32.toInt x3).toNat := rfl
    intro v7 ev7
    have hv7 := congrArg Int32.toInt ev7
    refine And.intro (t_in (by omega)) ?_
    have f10 := tp_r v7
    have e9 : ∀ k : Nat, k % 21 = 17 → -1 ≤ Int32.toInt ((upd m_kept v2.toNatClampNeg v7) k) ∧ Int32.toInt ((upd m_kept v2.toNatClampNeg v7) k) ≤ SB := t_updc (C := fun k => k % 21 = 17) e0_m_kept (fun hk => by have e9 : v2.toNatClampNeg = (Int32.toInt v2).toNat := rfl; have hk : v2.toNatClampNeg % 21 = 17 := hk; omega)
    have e11 : ∀ k : Nat, k % 21 = 19 → 0 ≤ Int32.toInt ((upd m_kept v2.toNatClampNeg v7) k) ∧ Int32.toInt ((upd m_kept v2.toNatClampNeg v7) k) ≤ 9 := t_updc (C := fun k => k % 21 = 19) e1_m_kept (fun hk => by have e9 : v2.toNatClampNeg = (Int32.toInt v2).toNat := rfl; have hk : v2.toNatClampNeg % 21 = 19 := hk; omega)
    intro v12 ev12
    have f13 : Int32.toInt (x3 + 1) = Int32.toInt x3 + Int32.toInt (1 : Int32) := ta_add _ _ (by omega)
    rw [← ev12] at f13
    exact hKn x2 v12 (upd m_kept v2.toNatClampNeg v7) (by omega) (by omega) e9 e11 (by omega) (by omega)
set_option maxHeartbeats 8000000 in
set_option maxRecDepth 200000 in
theorem tb_X10_lay_b4_2 {post : (Nat → Int32) → Prop} {SB : Int} (m_now : Nat → Int32) (e0_m_now : ∀ k : Nat, k = 17 → -1 ≤ Int32.toInt (m_now k) ∧ Int32.toInt (m_now k) ≤ SB) (e1_m_now : ∀ k : Nat, k = 19 → 0 ≤ Int32.toInt (m_now k) ∧ Int32.toInt (m_now k) ≤ 9) (hc0 : -1 ≤ SB ∧ SB ≤ 7) (hpost : ∀ (m_kept' : Nat → Int32), (∀ k : Nat, k % 21 = 17 → -1 ≤ Int32.toInt (m_kept' k) ∧ Int32.toInt (m_kept' k) ≤ SB) → (∀ k : Nat, k % 21 = 19 → 0 ≤ Int32.toInt (m_kept' k) ∧ Int32.toInt (m_kept' k) ≤ 9) → post m_kept') : ∀ (n : Nat) (x2 : Int32) (x3 : Int32) (m_kept : Nat → Int32), (0 ≤ Int32.toInt x2 ∧ Int32.toInt x2 ≤ 21) → (0 ≤ Int32.toInt x3 ∧ Int32.toInt x3 ≤ 21) → (∀ k : Nat, k % 21 = 17 → -1 ≤ Int32.toInt (m_kept k) ∧ Int32.toInt (m_kept k) ≤ SB) → (∀ k : Nat, k % 21 = 19 → 0 ≤ Int32.toInt (m_kept k) ∧ Int32.toInt (m_kept k) ≤ 9) → (Int32.toInt x2 % 21 = 0) → (21 - Int32.toInt x3 < (n : Int)) → wb_X10_lay_b4_2 post m_now n x2 x3 m_kept := by
  intro n
  induction n with
  | zero =>
    intro x2 x3 m_kept h_x2 h_x3 e0_m_kept e1_m_kept hx0 hm
    exfalso; omega
  | succ n ih =>
    intro x2 x3 m_kept h_x2 h_x3 e0_m_kept e1_m_kept hx0 hm
    exact ts_X10_lay_b4_2 m_now e0_m_now e1_m_now hc0 hpost ih x2 x3 m_kept h_x2 h_x3 e0_m_kept e1_m_kept hx0 (by omega)
set_option maxHeartbeats 8000000 in
set_option maxRecDepth 200000 in
theorem t_X10_lay_b4 {post : (Nat → Int32) → Prop} {SB : Int} {p2 : Int32} {m_now : Nat → Int32} {m_kept : Nat → Int32} (h_p2 : 0 ≤ Int32.toInt p2 ∧ Int32.toInt p2 ≤ 21) (e0_m_now : ∀ k : Nat, k = 17 → -1 ≤ Int32.toInt (m_now k) ∧ Int32.toInt (m_now k) ≤ SB) (e1_m_now : ∀ k : Nat, k = 19 → 0 ≤ Int32.toInt (m_now k) ∧ Int32.toInt (m_now k) ≤ 9) (e0_m_kept : ∀ k : Nat, k % 21 = 17 → -1 ≤ Int32.toInt (m_kept k) ∧ Int32.toInt (m_kept k) ≤ SB) (e1_m_kept : ∀ k : Nat, k % 21 = 19 → 0 ≤ Int32.toInt (m_kept k) ∧ Int32.toInt (m_kept k) ≤ 9) (hc0 : -1 ≤ SB ∧ SB ≤ 7) (hx0 : Int32.toInt p2 % 21 = 0) (hpost : ∀ (m_kept' : Nat → Int32), (∀ k : Nat, k % 21 = 17 → -1 ≤ Int32.toInt (m_kept' k) ∧ Int32.toInt (m_kept' k) ≤ SB) → (∀ k : Nat, k % 21 = 19 → 0 ≤ Int32.toInt (m_kept' k) ∧ Int32.toInt (m_kept' k) ≤ 9) → post m_kept') : wp_X10_lay_b4 post p2 m_now m_kept := by
  have l0 : Int32.toInt (0 : Int32) = 0 := (by decide)
  exact ⟨23, tb_X10_lay_b4_2 m_now e0_m_now e1_m_now hc0 hpost _ p2 0 m_kept (by omega) (by omega) e0_m_kept e1_m_kept (by omega) (by omega)⟩
set_option maxHeartbeats 8000000 in
set_option maxRecDepth 200000 in
theorem t_X10_keep {post : Int32 → Int32 → (Nat → Int32) → (Nat → Int32) → (Nat → Int32) → Prop} {SB : Int} {p0 : Int32} {m_thrown : Int32} {m_came : Int32} {m_now : Nat → Int32} {m_kept : Nat → Int32} {m_isKept : Nat → Int32} {m_keptCame : Nat → Int32} (h_m_thrown : 0 ≤ Int32.toInt m_thrown ∧ Int32.toInt m_thrown ≤ 1) (e0_m_now : ∀ k : Nat, k = 17 → -1 ≤ Int32.toInt (m_now k) ∧ Int32.toInt (m_now k) ≤ SB) (e1_m_now : ∀ k : Nat, k = 19 → 0 ≤ Int32.toInt (m_now k) ∧ Int32.toInt (m_now k) ≤ 9) (e0_m_kept : ∀ k : Nat, k % 21 = 17 → -1 ≤ Int32.toInt (m_kept k) ∧ Int32.toInt (m_kept k) ≤ SB) (e1_m_kept : ∀ k : Nat, k % 21 = 19 → 0 ≤ Int32.toInt (m_kept k) ∧ Int32.toInt (m_kept k) ≤ 9) (h_m_isKept : ∀ k : Nat, 0 ≤ Int32.toInt (m_isKept k) ∧ Int32.toInt (m_isKept k) ≤ 1) (hc0 : -1 ≤ SB ∧ SB ≤ 7) (hpost : ∀ (r : Int32) (m_thrown' : Int32) (m_kept' : Nat → Int32) (m_isKept' : Nat → Int32) (m_keptCame' : Nat → Int32), (0 ≤ Int32.toInt r ∧ Int32.toInt r ≤ 1) → (0 ≤ Int32.toInt m_thrown' ∧ Int32.toInt m_thrown' ≤ 0) → (∀ k : Nat, k % 21 = 17 → -1 ≤ Int32.toInt (m_kept' k) ∧ Int32.toInt (m_kept' k) ≤ SB) → (∀ k : Nat, k % 21 = 19 → 0 ≤ Int32.toInt (m_kept' k) ∧ Int32.toInt (m_kept' k) ≤ 9) → (∀ k : Nat, 0 ≤ Int32.toInt (m_isKept' k) ∧ Int32.toInt (m_isKept' k) ≤ 1) → ((0 ≤ Int32.toInt p0 ∧ Int32.toInt p0 ≤ 1 ∧ Int32.toInt r = 1) ∨ ((Int32.toInt p0 < 0 ∨ 1 < Int32.toInt p0) ∧ Int32.toInt r = 0)) → post r m_thrown' m_kept' m_isKept' m_keptCame') : wp_X10_keep post p0 m_thrown m_came m_now m_kept m_isKept m_keptCame := by
  have l0 : Int32.toInt (0 : Int32) = 0 := (by decide)
  have l1 : Int32.toInt (1 : Int32) = 1 := (by decide)
  have l2 : Int32.toInt (21 : Int32) = 21 := (by decide)
  have f2 := tp_r p0
  refine And.intro (fun c1 => ?_) (fun c1 => ?_)
  · skip
    have c1 := (fa_lt _ _).mp c1
    refine And.intro (fun h9 => absurd h9 (by decide)) (fun _ => ?_)
    exact hpost _ _ _ _ _ (by omega) (by omega) e0_m_kept e1_m_kept (fun k => by have q9 := h_m_isKept k; omega) (by omega)
  · skip
    have c1 := mt (fa_lt _ _).mpr c1
    refine And.intro (fun c3 => ?_) (fun c3 => ?_)
    · skip
      have c3 := (fa_lt _ _).mp c3
      refine And.intro (fun h9 => absurd h9 (by decide)) (fun _ => ?_)
      exact hpost _ _ _ _ _ (by omega) (by omega) e0_m_kept e1_m_kept (fun k => by have q9 := h_m_isKept k; omega) (by omega)
    · skip
      have c3 := mt (fa_lt _ _).mpr c3
      refine And.intro (fun _ => ?_) (fun h9 => absurd h9 (by decide))
      refine And.intro (t_in (by omega)) ?_
      have qa4 := ti_nar_boolean 1
      have a4 : ∀ k : Nat, 0 ≤ Int32.toInt ((upd m_isKept p0.toNatClampNeg (vp_nar .boolean 1)) k) ∧ Int32.toInt ((upd m_isKept p0.toNatClampNeg (vp_nar .boolean 1)) k) ≤ 1 := t_upd (fun k => by have q9 := h_m_isKept k; omega) (by omega)
      refine And.intro (t_in (by omega)) ?_
      intro v5 ev5
      have f6 : Int32.toInt (21 * p0) = Int32.toInt p0 * 21 := ta_cmul _ _ (by decide) (by omega)
      rw [← ev5] at f6
      refine t_X10_lay_b4 (by omega) e0_m_now e1_m_now e0_m_kept e1_m_kept (by omega) (by omega) (fun m_kept_7 e0_m_kept_7 e1_m_kept_7 => ?_)
      exact hpost _ _ _ _ _ (by omega) (by omega) e0_m_kept_7 e1_m_kept_7 (fun k => by have q9 := a4 k; omega) (by omega)
set_option maxHeartbeats 8000000 in
set_option maxRecDepth 200000 in
theorem ts_X10_again_40 {post : Int32 → Int32 → Int32 → (Nat → Int32) → Prop} {SB : Int} {next : Int32 → Int32 → Int32 → Int32 → (Nat → Int32) → Prop} {n40 : Int} (m_came : Int32) (m_kept : Nat → Int32) (m_isKept : Nat → Int32) (m_keptCame : Nat → Int32) (e0_m_kept : ∀ k : Nat, k % 21 = 17 → -1 ≤ Int32.toInt (m_kept k) ∧ Int32.toInt (m_kept k) ≤ SB) (e1_m_kept : ∀ k : Nat, k % 21 = 19 → 0 ≤ Int32.toInt (m_kept k) ∧ Int32.toInt (m_kept k) ≤ 9) (h_m_isKept : ∀ k : Nat, 0 ≤ Int32.toInt (m_isKept k) ∧ Int32.toInt (m_isKept k) ≤ 1) (hc0 : -1 ≤ SB ∧ SB ≤ 7) (hpost : ∀ (r : Int32) (m_thrown' : Int32) (m_undoMany' : Int32) (m_now' : Nat → Int32), (0 ≤ Int32.toInt r ∧ Int32.toInt r ≤ 1) → (0 ≤ Int32.toInt m_thrown' ∧ Int32.toInt m_thrown' ≤ 0) → (0 ≤ Int32.toInt m_undoMany' ∧ Int32.toInt m_undoMany' ≤ 12) → (∀ k : Nat, k = 17 → -1 ≤ Int32.toInt (m_now' k) ∧ Int32.toInt (m_now' k) ≤ SB) → (∀ k : Nat, k = 19 → 0 ≤ Int32.toInt (m_now' k) ∧ Int32.toInt (m_now' k) ≤ 9) → post r m_thrown' m_undoMany' m_now') (hKn : ∀ (x1 : Int32) (x2 : Int32) (m_thrown : Int32) (m_undoMany : Int32) (m_now : Nat → Int32), (0 ≤ Int32.toInt x1 ∧ Int32.toInt x1 ≤ 1) → (0 ≤ Int32.toInt x2 ∧ Int32.toInt x2 ≤ 21) → (0 ≤ Int32.toInt m_thrown ∧ Int32.toInt m_thrown ≤ 0) → (0 ≤ Int32.toInt m_undoMany ∧ Int32.toInt m_undoMany ≤ 12) → (∀ k : Nat, k = 17 → -1 ≤ Int32.toInt (m_now k) ∧ Int32.toInt (m_now k) ≤ SB) → (∀ k : Nat, k = 19 → 0 ≤ Int32.toInt (m_now k) ∧ Int32.toInt (m_now k) ≤ 9) → (21 - Int32.toInt x2 < n40) → next x1 x2 m_thrown m_undoMany m_now) (x1 : Int32) (x2 : Int32) (m_thrown : Int32) (m_undoMany : Int32) (m_now : Nat → Int32) (h_x1 : 0 ≤ Int32.toInt x1 ∧ Int32.toInt x1 ≤ 1) (h_x2 : 0 ≤ Int32.toInt x2 ∧ Int32.toInt x2 ≤ 21) (h_m_thrown : 0 ≤ Int32.toInt m_thrown ∧ Int32.toInt m_thrown ≤ 0) (h_m_undoMany : 0 ≤ Int32.toInt m_undoMany ∧ Int32.toInt m_undoMany ≤ 12) (e0_m_now : ∀ k : Nat, k = 17 → -1 ≤ Int32.toInt (m_now k) ∧ Int32.toInt (m_now k) ≤ SB) (e1_m_now : ∀ k : Nat, k = 19 → 0 ≤ Int32.toInt (m_now k) ∧ Int32.toInt (m_now k) ≤ 9) (hn40 : 21 - Int32.toInt x2 ≤ n40) : ws_X10_again_40 post next m_came m_kept m_isKept m_keptCame x1 x2 m_thrown m_undoMany m_now := by
  have l0 : Int32.toInt (0 : Int32) = 0 := (by decide)
  have l1 : Int32.toInt (1 : Int32) = 1 := (by decide)
  have l2 : Int32.toInt (21 : Int32) = 21 := (by decide)
  refine And.intro (fun c1 => ?_) (fun c1 => ?_)
  · skip
    have c1 := (fa_le _ _).mp c1
    exact hpost _ _ _ _ (by omega) (by omega) (by omega) e0_m_now e1_m_now
  · skip
    have c1 := mt (fa_le _ _).mpr c1
    intro v2 ev2
    have f3 : Int32.toInt (21 * x1) = Int32.toInt x1 * 21 := ta_cmul _ _ (by decide) (by omega)
    rw [← ev2] at f3
    intro v4 ev4
    have f5 : Int32.toInt (v2 + x2) = Int32.toInt v2 + Int32.toInt x2 := ta_add _ _ (by omega)
    rw [← ev4] at f5
    refine And.intro (t_in (by omega)) ?_
    have q6 := e0_m_kept v4.toNatClampNeg
    have q7 := e1_m_kept v4.toNatClampNeg
    have q8 : v4.toNatClampNeg = (Int32.toInt v4).toNat := rfl
    intro v9 ev9
    have hv9 := congrArg Int32.toInt ev9
    refine And.intro (t_in (by omega)) ?_
    have f12 := tp_r v9
    have e11 : ∀ k : Nat, k = 17 → -1 ≤ Int32.toInt ((upd m_now x2.toNatClampNeg v9) k) ∧ Int32.toInt ((upd m_now x2.toNatClampNeg v9) k) ≤ SB := t_updc (C := fun k => k = 17) e0_m_now (fun hk => by have e9 : x2.toNatClampNeg = (Int32.toInt x2).toNat := rfl; have hk : x2.toNatClampNeg = 17 := hk; omega)
    have e13 : ∀ k : Nat, k = 19 → 0 ≤ Int32.toInt ((upd m_now x2.toNatClampNeg v9) k) ∧ Int32.toInt ((upd m_now x2.toNatClampNeg v9) k) ≤ 9 := t_updc (C := fun k => k = 19) e1_m_now (fun hk => by have e9 : x2.toNatClampNeg = (Int32.toInt x2).toNat := rfl; have hk : x2.toNatClampNeg = 19 := hk; omega)
    intro v14 ev14
    have f15 : Int32.toInt (x2 + 1) = Int32.toInt x2 + Int32.toInt (1 : Int32) := ta_add _ _ (by omega)
    rw [← ev14] at f15
    exact hKn x1 v14 m_thrown m_undoMany (upd m_now x2.toNatClampNeg v9) (by omega) (by omega) (by omega) (by omega) e11 e13 (by omega)
set_option maxHeartbeats 8000000 in
set_option maxRecDepth 200000 in
theorem tb_X10_again_40 {post : Int32 → Int32 → Int32 → (Nat → Int32) → Prop} {SB : Int} (m_came : Int32) (m_kept : Nat → Int32) (m_isKept : Nat → Int32) (m_keptCame : Nat → Int32) (e0_m_kept : ∀ k : Nat, k % 21 = 17 → -1 ≤ Int32.toInt (m_kept k) ∧ Int32.toInt (m_kept k) ≤ SB) (e1_m_kept : ∀ k : Nat, k % 21 = 19 → 0 ≤ Int32.toInt (m_kept k) ∧ Int32.toInt (m_kept k) ≤ 9) (h_m_isKept : ∀ k : Nat, 0 ≤ Int32.toInt (m_isKept k) ∧ Int32.toInt (m_isKept k) ≤ 1) (hc0 : -1 ≤ SB ∧ SB ≤ 7) (hpost : ∀ (r : Int32) (m_thrown' : Int32) (m_undoMany' : Int32) (m_now' : Nat → Int32), (0 ≤ Int32.toInt r ∧ Int32.toInt r ≤ 1) → (0 ≤ Int32.toInt m_thrown' ∧ Int32.toInt m_thrown' ≤ 0) → (0 ≤ Int32.toInt m_undoMany' ∧ Int32.toInt m_undoMany' ≤ 12) → (∀ k : Nat, k = 17 → -1 ≤ Int32.toInt (m_now' k) ∧ Int32.toInt (m_now' k) ≤ SB) → (∀ k : Nat, k = 19 → 0 ≤ Int32.toInt (m_now' k) ∧ Int32.toInt (m_now' k) ≤ 9) → post r m_thrown' m_undoMany' m_now') : ∀ (n : Nat) (x1 : Int32) (x2 : Int32) (m_thrown : Int32) (m_undoMany : Int32) (m_now : Nat → Int32), (0 ≤ Int32.toInt x1 ∧ Int32.toInt x1 ≤ 1) → (0 ≤ Int32.toInt x2 ∧ Int32.toInt x2 ≤ 21) → (0 ≤ Int32.toInt m_thrown ∧ Int32.toInt m_thrown ≤ 0) → (0 ≤ Int32.toInt m_undoMany ∧ Int32.toInt m_undoMany ≤ 12) → (∀ k : Nat, k = 17 → -1 ≤ Int32.toInt (m_now k) ∧ Int32.toInt (m_now k) ≤ SB) → (∀ k : Nat, k = 19 → 0 ≤ Int32.toInt (m_now k) ∧ Int32.toInt (m_now k) ≤ 9) → (21 - Int32.toInt x2 < (n : Int)) → wb_X10_again_40 post m_came m_kept m_isKept m_keptCame n x1 x2 m_thrown m_undoMany m_now := by
  intro n
  induction n with
  | zero =>
    intro x1 x2 m_thrown m_undoMany m_now h_x1 h_x2 h_m_thrown h_m_undoMany e0_m_now e1_m_now hm
    exfalso; omega
  | succ n ih =>
    intro x1 x2 m_thrown m_undoMany m_now h_x1 h_x2 h_m_thrown h_m_undoMany e0_m_now e1_m_now hm
    exact ts_X10_again_40 m_came m_kept m_isKept m_keptCame e0_m_kept e1_m_kept h_m_isKept hc0 hpost ih x1 x2 m_thrown m_undoMany m_now h_x1 h_x2 h_m_thrown h_m_undoMany e0_m_now e1_m_now (by omega)
set_option maxHeartbeats 8000000 in
set_option maxRecDepth 200000 in
theorem t_X10_again {post : Int32 → Int32 → Int32 → (Nat → Int32) → Prop} {SB : Int} {p0 : Int32} {m_thrown : Int32} {m_undoMany : Int32} {m_came : Int32} {m_now : Nat → Int32} {m_kept : Nat → Int32} {m_isKept : Nat → Int32} {m_keptCame : Nat → Int32} (h_m_thrown : 0 ≤ Int32.toInt m_thrown ∧ Int32.toInt m_thrown ≤ 1) (h_m_undoMany : 0 ≤ Int32.toInt m_undoMany ∧ Int32.toInt m_undoMany ≤ 12) (e0_m_now : ∀ k : Nat, k = 17 → -1 ≤ Int32.toInt (m_now k) ∧ Int32.toInt (m_now k) ≤ SB) (e1_m_now : ∀ k : Nat, k = 19 → 0 ≤ Int32.toInt (m_now k) ∧ Int32.toInt (m_now k) ≤ 9) (e0_m_kept : ∀ k : Nat, k % 21 = 17 → -1 ≤ Int32.toInt (m_kept k) ∧ Int32.toInt (m_kept k) ≤ SB) (e1_m_kept : ∀ k : Nat, k % 21 = 19 → 0 ≤ Int32.toInt (m_kept k) ∧ Int32.toInt (m_kept k) ≤ 9) (h_m_isKept : ∀ k : Nat, 0 ≤ Int32.toInt (m_isKept k) ∧ Int32.toInt (m_isKept k) ≤ 1) (hc0 : -1 ≤ SB ∧ SB ≤ 7) (hpost : ∀ (r : Int32) (m_thrown' : Int32) (m_undoMany' : Int32) (m_now' : Nat → Int32), (0 ≤ Int32.toInt r ∧ Int32.toInt r ≤ 1) → (0 ≤ Int32.toInt m_thrown' ∧ Int32.toInt m_thrown' ≤ 0) → (0 ≤ Int32.toInt m_undoMany' ∧ Int32.toInt m_undoMany' ≤ 12) → (∀ k : Nat, k = 17 → -1 ≤ Int32.toInt (m_now' k) ∧ Int32.toInt (m_now' k) ≤ SB) → (∀ k : Nat, k = 19 → 0 ≤ Int32.toInt (m_now' k) ∧ Int32.toInt (m_now' k) ≤ 9) → post r m_thrown' m_undoMany' m_now') : wp_X10_again post p0 m_thrown m_undoMany m_came m_now m_kept m_isKept m_keptCame := by
  have l0 : Int32.toInt (0 : Int32) = 0 := (by decide)
  have l1 : Int32.toInt (1 : Int32) = 1 := (by decide)
  have f17 := tp_r p0
  refine And.intro (fun c16 => ?_) (fun c16 => ?_)
  · skip
    have c16 := (fa_lt _ _).mp c16
    refine And.intro (fun _ => ?_) (fun h9 => absurd h9 (by decide))
    exact hpost _ _ _ _ (by omega) (by omega) (by omega) e0_m_now e1_m_now
  · skip
    have c16 := mt (fa_lt _ _).mpr c16
    refine And.intro (fun c18 => ?_) (fun c18 => ?_)
    · skip
      have c18 := (fa_lt _ _).mp c18
      refine And.intro (fun _ => ?_) (fun h9 => absurd h9 (by decide))
      exact hpost _ _ _ _ (by omega) (by omega) (by omega) e0_m_now e1_m_now
    · skip
      have c18 := mt (fa_lt _ _).mpr c18
      refine And.intro (fun h9 => absurd h9 (by decide)) (fun _ => ?_)
      refine And.intro (t_in (by omega)) ?_
      have f20 := h_m_isKept p0.toNatClampNeg
      refine And.intro (fun c19 => ?_) (fun c19 => ?_)
      · skip
        have c19 := (fa_eq _ _).mp c19
        exact hpost _ _ _ _ (by omega) (by omega) (by omega) e0_m_now e1_m_now
      · skip
        have c19 := mt (fa_eq _ _).mpr c19
        refine And.intro (t_in (by omega)) ?_
        intro v21 ev21
        have hv21 := congrArg Int32.toInt ev21
        have f24 := tp_r v21
        have f25 := tp_r m_came
        refine And.intro (fun c23 => ?_) (fun c23 => ?_)
        · skip
          have c23 := (fa_eq _ _).mp c23
          exact ⟨23, tb_X10_again_40 m_came m_kept m_isKept m_keptCame e0_m_kept e1_m_kept h_m_isKept hc0 hpost _ p0 0 0 m_undoMany m_now (by omega) (by omega) (by omega) (by omega) e0_m_now e1_m_now (by omega)⟩
        · skip
          have c23 := mt (fa_eq _ _).mpr c23
          exact hpost _ _ _ _ (by omega) (by omega) (by omega) e0_m_now e1_m_now
