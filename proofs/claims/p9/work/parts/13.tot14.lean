set_option maxHeartbeats 8000000 in
set_option maxRecDepth 200000 in
theorem ts_X10_undo_26 {post : Int32 → Int32 → Int32 → (Nat → Int32) → Prop} {SB : Int} {next : Int32 → Int32 → Int32 → (Nat → Int32) → Prop} {n26 : Int} (m_undos : Nat → Int32) (e0_m_undos : ∀ k : Nat, k % 21 = 17 → -1 ≤ Int32.toInt (m_undos k) ∧ Int32.toInt (m_undos k) ≤ SB) (e1_m_undos : ∀ k : Nat, k % 21 = 19 → 0 ≤ Int32.toInt (m_undos k) ∧ Int32.toInt (m_undos k) ≤ 9) (hc0 : -1 ≤ SB ∧ SB ≤ 7) (hpost : ∀ (r : Int32) (m_thrown' : Int32) (m_undoMany' : Int32) (m_now' : Nat → Int32), (-1 ≤ Int32.toInt r ∧ Int32.toInt r ≤ 11) → (0 ≤ Int32.toInt m_thrown' ∧ Int32.toInt m_thrown' ≤ 0) → (0 ≤ Int32.toInt m_undoMany' ∧ Int32.toInt m_undoMany' ≤ 11) → (∀ k : Nat, k = 17 → -1 ≤ Int32.toInt (m_now' k) ∧ Int32.toInt (m_now' k) ≤ SB) → (∀ k : Nat, k = 19 → 0 ≤ Int32.toInt (m_now' k) ∧ Int32.toInt (m_now' k) ≤ 9) → post r m_thrown' m_undoMany' m_now') (hKn : ∀ (x1 : Int32) (m_thrown : Int32) (m_undoMany : Int32) (m_now : Nat → Int32), (0 ≤ Int32.toInt x1 ∧ Int32.toInt x1 ≤ 21) → (0 ≤ Int32.toInt m_thrown ∧ Int32.toInt m_thrown ≤ 0) → (0 ≤ Int32.toInt m_undoMany ∧ Int32.toInt m_undoMany ≤ 11) → (∀ k : Nat, k = 17 → -1 ≤ Int32.toInt (m_now k) ∧ Int32.toInt (m_now k) ≤ SB) → (∀ k : Nat, k = 19 → 0 ≤ Int32.toInt (m_now k) ∧ Int32.toInt (m_now k) ≤ 9) → (21 - Int32.toInt x1 < n26) → next x1 m_thrown m_undoMany m_now) (x1 : Int32) (m_thrown : Int32) (m_undoMany : Int32) (m_now : Nat → Int32) (h_x1 : 0 ≤ Int32.toInt x1 ∧ Int32.toInt x1 ≤ 21) (h_m_thrown : 0 ≤ Int32.toInt m_thrown ∧ Int32.toInt m_thrown ≤ 0) (h_m_undoMany : 0 ≤ Int32.toInt m_undoMany ∧ Int32.toInt m_undoMany ≤ 11) (e0_m_now : ∀ k : Nat, k = 17 → -1 ≤ Int32.toInt (m_now k) ∧ Int32.toInt (m_now k) ≤ SB) (e1_m_now : ∀ k : Nat, k = 19 → 0 ≤ Int32.toInt (m_now k) ∧ Int32.toInt (m_now k) ≤ 9) (hn26 : 21 - Int32.toInt x1 ≤ n26) : ws_X10_undo_26 post next m_undos x1 m_thrown m_undoMany m_now := by
  have l0 : Int32.toInt (1 : Int32) = 1 := (by decide)
  have l1 : Int32.toInt (21 : Int32) = 21 := (by decide)
  refine And.intro (fun c1 => ?_) (fun c1 => ?_)
  · skip
    have c1 := (fa_le _ _).mp c1
    exact hpost _ _ _ _ (by omega) (by omega) (by omega) e0_m_now e1_m_now
  · skip
    have c1 := mt (fa_le _ _).mpr c1
    intro v2 ev2
    have f3 : Int32.toInt (21 * m_undoMany) = Int32.toInt m_undoMany * 21 := ta_cmul _ _ (by decide) (by omega)
    rw [← ev2] at f3
    intro v4 ev4
    have f5 : Int32.toInt (v2 + x1) = Int32.toInt v2 + Int32.toInt x1 := ta_add _ _ (by omega)
    rw [← ev4] at f5
    refine And.intro (t_in (by omega)) ?_
    have q6 := e0_m_undos v4.toNatClampNeg
    have q7 := e1_m_undos v4.toNatClampNeg
    have q8 : v4.toNatClampNeg = (Int32.toInt v4).toNat := rfl
    intro v9 ev9
    have hv9 := congrArg Int32.toInt ev9
    refine And.intro (t_in (by omega)) ?_
    have f12 := tp_r v9
    have e11 : ∀ k : Nat, k = 17 → -1 ≤ Int32.toInt ((upd m_now x1.toNatClampNeg v9) k) ∧ Int32.toInt ((upd m_now x1.toNatClampNeg v9) k) ≤ SB := t_updc (C := fun k => k = 17) e0_m_now (fun hk => by have e9 : x1.toNatClampNeg = (Int32.toInt x1).toNat := rfl; have hk : x1.toNatClampNeg = 17 := hk; omega)
    have e13 : ∀ k : Nat, k = 19 → 0 ≤ Int32.toInt ((upd m_now x1.toNatClampNeg v9) k) ∧ Int32.toInt ((upd m_now x1.toNatClampNeg v9) k) ≤ 9 := t_updc (C := fun k => k = 19) e1_m_now (fun hk => by have e9 : x1.toNatClampNeg = (Int32.toInt x1).toNat := rfl; have hk : x1.toNatClampNeg = 19 := hk; omega)
    intro v14 ev14
    have f15 : Int32.toInt (x1 + 1) = Int32.toInt x1 + Int32.toInt (1 : Int32) := ta_add _ _ (by omega)
    rw [← ev14] at f15
    exact hKn v14 m_thrown m_undoMany (upd m_now x1.toNatClampNeg v9) (by omega) (by omega) (by omega) e11 e13 (by omega)
set_option maxHeartbeats 8000000 in
set_option maxRecDepth 200000 in
theorem tb_X10_undo_26 {post : Int32 → Int32 → Int32 → (Nat → Int32) → Prop} {SB : Int} (m_undos : Nat → Int32) (e0_m_undos : ∀ k : Nat, k % 21 = 17 → -1 ≤ Int32.toInt (m_undos k) ∧ Int32.toInt (m_undos k) ≤ SB) (e1_m_undos : ∀ k : Nat, k % 21 = 19 → 0 ≤ Int32.toInt (m_undos k) ∧ Int32.toInt (m_undos k) ≤ 9) (hc0 : -1 ≤ SB ∧ SB ≤ 7) (hpost : ∀ (r : Int32) (m_thrown' : Int32) (m_undoMany' : Int32) (m_now' : Nat → Int32), (-1 ≤ Int32.toInt r ∧ Int32.toInt r ≤ 11) → (0 ≤ Int32.toInt m_thrown' ∧ Int32.toInt m_thrown' ≤ 0) → (0 ≤ Int32.toInt m_undoMany' ∧ Int32.toInt m_undoMany' ≤ 11) → (∀ k : Nat, k = 17 → -1 ≤ Int32.toInt (m_now' k) ∧ Int32.toInt (m_now' k) ≤ SB) → (∀ k : Nat, k = 19 → 0 ≤ Int32.toInt (m_now' k) ∧ Int32.toInt (m_now' k) ≤ 9) → post r m_thrown' m_undoMany' m_now') : ∀ (n : Nat) (x1 : Int32) (m_thrown : Int32) (m_undoMany : Int32) (m_now : Nat → Int32), (0 ≤ Int32.toInt x1 ∧ Int32.toInt x1 ≤ 21) → (0 ≤ Int32.toInt m_thrown ∧ Int32.toInt m_thrown ≤ 0) → (0 ≤ Int32.toInt m_undoMany ∧ Int32.toInt m_undoMany ≤ 11) → (∀ k : Nat, k = 17 → -1 ≤ Int32.toInt (m_now k) ∧ Int32.toInt (m_now k) ≤ SB) → (∀ k : Nat, k = 19 → 0 ≤ Int32.toInt (m_now k) ∧ Int32.toInt (m_now k) ≤ 9) → (21 - Int32.toInt x1 < (n : Int)) → wb_X10_undo_26 post m_undos n x1 m_thrown m_undoMany m_now := by
  intro n
  induction n with
  | zero =>
    intro x1 m_thrown m_undoMany m_now h_x1 h_m_thrown h_m_undoMany e0_m_now e1_m_now hm
    exfalso; omega
  | succ n ih =>
    intro x1 m_thrown m_undoMany m_now h_x1 h_m_thrown h_m_undoMany e0_m_now e1_m_now hm
    exact ts_X10_undo_26 m_undos e0_m_undos e1_m_undos hc0 hpost ih x1 m_thrown m_undoMany m_now h_x1 h_m_thrown h_m_undoMany e0_m_now e1_m_now (by omega)
set_option maxHeartbeats 8000000 in
set_option maxRecDepth 200000 in
theorem t_X10_undo {post : Int32 → Int32 → Int32 → (Nat → Int32) → Prop} {SB : Int} {m_thrown : Int32} {m_undoMany : Int32} {m_now : Nat → Int32} {m_undos : Nat → Int32} (h_m_thrown : 0 ≤ Int32.toInt m_thrown ∧ Int32.toInt m_thrown ≤ 1) (h_m_undoMany : 0 ≤ Int32.toInt m_undoMany ∧ Int32.toInt m_undoMany ≤ 12) (e0_m_now : ∀ k : Nat, k = 17 → -1 ≤ Int32.toInt (m_now k) ∧ Int32.toInt (m_now k) ≤ SB) (e1_m_now : ∀ k : Nat, k = 19 → 0 ≤ Int32.toInt (m_now k) ∧ Int32.toInt (m_now k) ≤ 9) (e0_m_undos : ∀ k : Nat, k % 21 = 17 → -1 ≤ Int32.toInt (m_undos k) ∧ Int32.toInt (m_undos k) ≤ SB) (e1_m_undos : ∀ k : Nat, k % 21 = 19 → 0 ≤ Int32.toInt (m_undos k) ∧ Int32.toInt (m_undos k) ≤ 9) (hc0 : -1 ≤ SB ∧ SB ≤ 7) (hpost : ∀ (r : Int32) (m_thrown' : Int32) (m_undoMany' : Int32) (m_now' : Nat → Int32), (-1 ≤ Int32.toInt r ∧ Int32.toInt r ≤ 11) → (0 ≤ Int32.toInt m_thrown' ∧ Int32.toInt m_thrown' ≤ 0) → (0 ≤ Int32.toInt m_undoMany' ∧ Int32.toInt m_undoMany' ≤ 11) → (∀ k : Nat, k = 17 → -1 ≤ Int32.toInt (m_now' k) ∧ Int32.toInt (m_now' k) ≤ SB) → (∀ k : Nat, k = 19 → 0 ≤ Int32.toInt (m_now' k) ∧ Int32.toInt (m_now' k) ≤ 9) → post r m_thrown' m_undoMany' m_now') : wp_X10_undo post m_thrown m_undoMany m_now m_undos := by
  have l0 : Int32.toInt ((-1) : Int32) = -1 := (by decide)
  have l1 : Int32.toInt (0 : Int32) = 0 := (by decide)
  have l2 : Int32.toInt (1 : Int32) = 1 := (by decide)
  refine And.intro (fun c16 => ?_) (fun c16 => ?_)
  · skip
    have c16 := mt (fa_eq _ _).mpr c16
    intro v17 ev17
    have f18 : Int32.toInt (m_undoMany - 1) = Int32.toInt m_undoMany - Int32.toInt (1 : Int32) := ta_sub _ _ (by omega)
    rw [← ev17] at f18
    exact ⟨23, tb_X10_undo_26 m_undos e0_m_undos e1_m_undos hc0 hpost _ 0 0 v17 m_now (by omega) (by omega) (by omega) e0_m_now e1_m_now (by omega)⟩
  · skip
    have c16 := (fa_eq _ _).mp c16
    exact hpost _ _ _ _ (by omega) (by omega) (by omega) e0_m_now e1_m_now
set_option maxHeartbeats 8000000 in
set_option maxRecDepth 200000 in
theorem t_X10_reached {post : Int32 → Int32 → Int32 → (Nat → Int32) → Prop} {p0 : Int32} {m_fruits : Int32} {m_standings : Int32} {m_rowMany : Int32} {m_thrown : Int32} {m_x : Nat → Int32} {m_height : Nat → Int32} {m_foot : Nat → Int32} {m_fork : Nat → Int32} {m_told : Nat → Int32} {m_row : Nat → Int32} (h_m_fruits : 0 ≤ Int32.toInt m_fruits ∧ Int32.toInt m_fruits ≤ 16) (h_m_standings : 0 ≤ Int32.toInt m_standings ∧ Int32.toInt m_standings ≤ 8) (h_m_rowMany : 0 ≤ Int32.toInt m_rowMany ∧ Int32.toInt m_rowMany ≤ 16) (h_m_thrown : 0 ≤ Int32.toInt m_thrown ∧ Int32.toInt m_thrown ≤ 1) (h_m_x : ∀ k : Nat, 0 ≤ Int32.toInt (m_x k) ∧ Int32.toInt (m_x k) ≤ 99) (h_m_height : ∀ k : Nat, 0 ≤ Int32.toInt (m_height k) ∧ Int32.toInt (m_height k) ≤ 99) (h_m_foot : ∀ k : Nat, 0 ≤ Int32.toInt (m_foot k) ∧ Int32.toInt (m_foot k) ≤ 99) (h_m_fork : ∀ k : Nat, 0 ≤ Int32.toInt (m_fork k) ∧ Int32.toInt (m_fork k) ≤ 99) (e0_m_told : ∀ k : Nat, k = 4 → 1 ≤ Int32.toInt (m_told k) ∧ Int32.toInt (m_told k) ≤ 30) (e1_m_told : ∀ k : Nat, k = 3 → 0 ≤ Int32.toInt (m_told k) ∧ Int32.toInt (m_told k) ≤ 9) (hpost : ∀ (r : Int32) (m_rowMany' : Int32) (m_thrown' : Int32) (m_row' : Nat → Int32), (-1 ≤ Int32.toInt r ∧ Int32.toInt r ≤ 65535) → (0 ≤ Int32.toInt m_rowMany' ∧ Int32.toInt m_rowMany' ≤ 16) → (0 ≤ Int32.toInt m_thrown' ∧ Int32.toInt m_thrown' ≤ 0) → post r m_rowMany' m_thrown' m_row') : wp_X10_reached post p0 m_fruits m_standings m_rowMany m_thrown m_x m_height m_foot m_fork m_told m_row := by
  have l0 : Int32.toInt ((-1) : Int32) = -1 := (by decide)
  have l1 : Int32.toInt (0 : Int32) = 0 := (by decide)
  have l2 : Int32.toInt (1 : Int32) = 1 := (by decide)
  intro v1 ev1
  have f2 : Int32.toInt (m_standings - 1) = Int32.toInt m_standings - Int32.toInt (1 : Int32) := ta_sub _ _ (by omega)
  rw [← ev1] at f2
  have f4 := tp_r p0
  refine And.intro (fun c3 => ?_) (fun c3 => ?_)
  · skip
    have c3 := (fa_lt _ _).mp c3
    refine And.intro (t_bool (by omega)) ?_
    refine And.intro (fun h9 => absurd h9 (by decide)) (fun _ => ?_)
    exact hpost _ _ _ _ (by omega) (by omega) (by omega)
  · skip
    have c3 := mt (fa_lt _ _).mpr c3
    refine And.intro (fun c5 => ?_) (fun c5 => ?_)
    · skip
      have c5 := (fa_lt _ _).mp c5
      refine And.intro (t_bool (by omega)) ?_
      refine And.intro (fun h9 => absurd h9 (by decide)) (fun _ => ?_)
      exact hpost _ _ _ _ (by omega) (by omega) (by omega)
    · skip
      have c5 := mt (fa_lt _ _).mpr c5
      refine And.intro (t_bool (by omega)) ?_
      refine And.intro (fun _ => ?_) (fun h9 => absurd h9 (by decide))
      refine t_X10_reachedFrom (by omega) (by omega) (by omega) (fun k => by have q9 := h_m_x k; omega) (fun k => by have q9 := h_m_height k; omega) (fun k => by have q9 := h_m_foot k; omega) (fun k => by have q9 := h_m_fork k; omega) e0_m_told e1_m_told (fun r6 h_r6 => ?_)
      refine And.intro (t_in (by omega)) ?_
      intro v7 ev7
      have f8 : Int32.toInt (0 + 1) = Int32.toInt (0 : Int32) + Int32.toInt (1 : Int32) := ta_add _ _ (by omega)
      rw [← ev7] at f8
      refine t_X10_reachedFrom (by omega) (by omega) (by omega) (fun k => by have q9 := h_m_x k; omega) (fun k => by have q9 := h_m_height k; omega) (fun k => by have q9 := h_m_foot k; omega) (fun k => by have q9 := h_m_fork k; omega) e0_m_told e1_m_told (fun r9 h_r9 => ?_)
      refine And.intro (t_in (by omega)) ?_
      intro v10 ev10
      have f11 : Int32.toInt (v7 + 1) = Int32.toInt v7 + Int32.toInt (1 : Int32) := ta_add _ _ (by omega)
      rw [← ev10] at f11
      refine t_X10_reachedFrom (by omega) (by omega) (by omega) (fun k => by have q9 := h_m_x k; omega) (fun k => by have q9 := h_m_height k; omega) (fun k => by have q9 := h_m_foot k; omega) (fun k => by have q9 := h_m_fork k; omega) e0_m_told e1_m_told (fun r12 h_r12 => ?_)
      exact hpost _ _ _ _ (by omega) (by omega) (by omega)
set_option maxHeartbeats 8000000 in
set_option maxRecDepth 200000 in
theorem ts_X10_from_69 {post : Int32 → Int32 → Prop} {SB : Int} {K29 : Int32 → Int32 → Int32 → Int32 → Int32 → Prop} {n29 : Int} (m_fruits : Int32) (m_standings : Int32) (m_now : Nat → Int32) (m_x : Nat → Int32) (m_height : Nat → Int32) (m_foot : Nat → Int32) (m_fork : Nat → Int32) (m_told : Nat → Int32) (h_m_fruits : 0 ≤ Int32.toInt m_fruits ∧ Int32.toInt m_fruits ≤ 16) (h_m_standings : 0 ≤ Int32.toInt m_standings ∧ Int32.toInt m_standings ≤ 8) (e0_m_now : ∀ k : Nat, k = 17 → -1 ≤ Int32.toInt (m_now k) ∧ Int32.toInt (m_now k) ≤ SB) (e1_m_now : ∀ k : Nat, k = 19 → 0 ≤ Int32.toInt (m_now k) ∧ Int32.toInt (m_now k) ≤ 9) (h_m_x : ∀ k : Nat, 0 ≤ Int32.toInt (m_x k) ∧ Int32.toInt (m_x k) ≤ 99) (h_m_height : ∀ k : Nat, 0 ≤ Int32.toInt (m_height k) ∧ Int32.toInt (m_height k) ≤ 99) (h_m_foot : ∀ k : Nat, 0 ≤ Int32.toInt (m_foot k) ∧ Int32.toInt (m_foot k) ≤ 99) (h_m_fork : ∀ k : Nat, 0 ≤ Int32.toInt (m_fork k) ∧ Int32.toInt (m_fork k) ≤ 99) (e0_m_told : ∀ k : Nat, k = 4 → 1 ≤ Int32.toInt (m_told k) ∧ Int32.toInt (m_told k) ≤ 30) (e1_m_told : ∀ k : Nat, k = 3 → 0 ≤ Int32.toInt (m_told k) ∧ Int32.toInt (m_told k) ≤ 9) (hc0 : -1 ≤ SB ∧ SB ≤ 7) (hc1 : (Int32.toInt m_standings ≤ 0 ∧ SB = 0) ∨ (1 ≤ Int32.toInt m_standings ∧ SB = Int32.toInt m_standings - 1)) (hpost : ∀ (r : Int32) (m_thrown' : Int32), (-1 ≤ Int32.toInt r ∧ Int32.toInt r ≤ 255) → (0 ≤ Int32.toInt m_thrown' ∧ Int32.toInt m_thrown' ≤ 0) → post r m_thrown') (hK29 : ∀ (x1 : Int32) (x2 : Int32) (x3 : Int32) (x4 : Int32) (m_thrown : Int32), (0 ≤ Int32.toInt x1 ∧ Int32.toInt x1 ≤ 15) → (0 ≤ Int32.toInt x2 ∧ Int32.toInt x2 ≤ 1) → (0 ≤ Int32.toInt x3 ∧ Int32.toInt x3 ≤ 255) → (0 ≤ Int32.toInt x4 ∧ Int32.toInt x4 ≤ 8) → (0 ≤ Int32.toInt m_thrown ∧ Int32.toInt m_thrown ≤ 0) → (8 - Int32.toInt x4 < n29) → K29 x1 x2 x3 x4 m_thrown) (x1 : Int32) (x2 : Int32) (x4 : Int32) (k0 : Int32) (k1 : Int32) (m_thrown : Int32) (h_x1 : 0 ≤ Int32.toInt x1 ∧ Int32.toInt x1 ≤ 15) (h_x2 : 0 ≤ Int32.toInt x2 ∧ Int32.toInt x2 ≤ 1) (h_x4 : 0 ≤ Int32.toInt x4 ∧ Int32.toInt x4 ≤ 7) (h_k0 : 0 ≤ Int32.toInt k0 ∧ Int32.toInt k0 ≤ 255) (h_k1 : 0 ≤ Int32.toInt k1 ∧ Int32.toInt k1 ≤ 128) (h_m_thrown : 0 ≤ Int32.toInt m_thrown ∧ Int32.toInt m_thrown ≤ 0) (hn29 : 8 - Int32.toInt x4 ≤ n29) : ws_X10_from_69 post K29 m_fruits m_standings m_now m_x m_height m_foot m_fork m_told x1 x2 x4 k0 k1 m_thrown := by
  have l0 : Int32.toInt (1 : Int32) = 1 := (by decide)
  intro v1 ev1
  have f2 := ti_or 8 256 k0 k1 (by decide) (by omega) (by omega)
  have hv1 := congrArg Int32.toInt ev1
  intro v3 ev3
  have f4 : Int32.toInt (x4 + 1) = Int32.toInt x4 + Int32.toInt (1 : Int32) := ta_add _ _ (by omega)
  rw [← ev3] at f4
  exact hK29 x1 x2 v1 v3 m_thrown (by omega) (by omega) (by omega) (by omega) (by omega) (by omega)
set_option maxHeartbeats 8000000 in
set_option maxRecDepth 200000 in
theorem ts_X10_from_29 {post : Int32 → Int32 → Prop} {SB : Int} {next : Int32 → Int32 → Int32 → Int32 → Int32 → Prop} {n29 : Int} (m_fruits : Int32) (m_standings : Int32) (m_now : Nat → Int32) (m_x : Nat → Int32) (m_height : Nat → Int32) (m_foot : Nat → Int32) (m_fork : Nat → Int32) (m_told : Nat → Int32) (h_m_fruits : 0 ≤ Int32.toInt m_fruits ∧ Int32.toInt m_fruits ≤ 16) (h_m_standings : 0 ≤ Int32.toInt m_standings ∧ Int32.toInt m_standings ≤ 8) (e0_m_now : ∀ k : Nat, k = 17 → -1 ≤ Int32.toInt (m_now k) ∧ Int32.toInt (m_now k) ≤ SB) (e1_m_now : ∀ k : Nat, k = 19 → 0 ≤ Int32.toInt (m_now k) ∧ Int32.toInt (m_now k) ≤ 9) (h_m_x : ∀ k : Nat, 0 ≤ Int32.toInt (m_x k) ∧ Int32.toInt (m_x k) ≤ 99) (h_m_height : ∀ k : Nat, 0 ≤ Int32.toInt (m_height k) ∧ Int32.toInt (m_height k) ≤ 99) (h_m_foot : ∀ k : Nat, 0 ≤ Int32.toInt (m_foot k) ∧ Int32.toInt (m_foot k) ≤ 99) (h_m_fork : ∀ k : Nat, 0 ≤ Int32.toInt (m_fork k) ∧ Int32.toInt (m_fork k) ≤ 99) (e0_m_told : ∀ k : Nat, k = 4 → 1 ≤ Int32.toInt (m_told k) ∧ Int32.toInt (m_told k) ≤ 30) (e1_m_told : ∀ k : Nat, k = 3 → 0 ≤ Int32.toInt (m_told k) ∧ Int32.toInt (m_told k) ≤ 9) (hc0 : -1 ≤ SB ∧ SB ≤ 7) (hc1 : (Int32.toInt m_standings ≤ 0 ∧ SB = 0) ∨ (1 ≤ Int32.toInt m_standings ∧ SB = Int32.toInt m_standings - 1)) (hpost : ∀ (r : Int32) (m_thrown' : Int32), (-1 ≤ Int32.toInt r ∧ Int32.toInt r ≤ 255) → (0 ≤ Int32.toInt m_thrown' ∧ Int32.toInt m_thrown' ≤ 0) → post r m_thrown') (hKn : ∀ (x1 : Int32) (x2 : Int32) (x3 : Int32) (x4 : Int32) (m_thrown : Int32), (0 ≤ Int32.toInt x1 ∧ Int32.toInt x1 ≤ 15) → (0 ≤ Int32.toInt x2 ∧ Int32.toInt x2 ≤ 1) → (0 ≤ Int32.toInt x3 ∧ Int32.toInt x3 ≤ 255) → (0 ≤ Int32.toInt x4 ∧ Int32.toInt x4 ≤ 8) → (0 ≤ Int32.toInt m_thrown ∧ Int32.toInt m_thrown ≤ 0) → (8 - Int32.toInt x4 < n29) → next x1 x2 x3 x4 m_thrown) (x1 : Int32) (x2 : Int32) (x3 : Int32) (x4 : Int32) (m_thrown : Int32) (h_x1 : 0 ≤ Int32.toInt x1 ∧ Int32.toInt x1 ≤ 15) (h_x2 : 0 ≤ Int32.toInt x2 ∧ Int32.toInt x2 ≤ 1) (h_x3 : 0 ≤ Int32.toInt x3 ∧ Int32.toInt x3 ≤ 255) (h_x4 : 0 ≤ Int32.toInt x4 ∧ Int32.toInt x4 ≤ 8) (h_m_thrown : 0 ≤ Int32.toInt m_thrown ∧ Int32.toInt m_thrown ≤ 0) (hn29 : 8 - Int32.toInt x4 ≤ n29) : ws_X10_from_29 post next m_fruits m_standings m_now m_x m_height m_foot m_fork m_told x1 x2 x3 x4 m_thrown := by
  have l0 : Int32.toInt (0 : Int32) = 0 := (by decide)
  have l1 : Int32.toInt (1 : Int32) = 1 := (by decide)
  have l2 : Int32.toInt (18 : Int32) = 18 := (by decide)
  have l3 : Int32.toInt (2 : Int32) = 2 := (by decide)
  refine And.intro (fun c5 => ?_) (fun c5 => ?_)
  · skip
    have c5 := (fa_le _ _).mp c5
    exact hpost _ _ (by omega) (by omega)
  · skip
    have c5 := mt (fa_le _ _).mpr c5
    intro v6 ev6
    have hv6 := congrArg Int32.toInt ev6
    intro v8 ev8
    have hv8 := congrArg Int32.toInt ev8
    intro v10 ev10
    have hv10 := congrArg Int32.toInt ev10
    refine And.intro (t_in (by omega)) ?_
    intro v12 ev12
    have f13 := h_m_x x1.toNatClampNeg
    have hv12 := congrArg Int32.toInt ev12
    refine And.intro (t_in (by omega)) ?_
    intro v14 ev14
    have f16 := h_m_foot x4.toNatClampNeg
    have f15 : Int32.toInt (v12 - (m_foot x4.toNatClampNeg)) = Int32.toInt v12 - Int32.toInt (m_foot x4.toNatClampNeg) := ta_sub _ _ (by omega)
    rw [← ev14] at f15
    intro v17 ev17
    have f18 := ti_abs v14 (by omega)
    have hv17 := congrArg Int32.toInt ev17
    refine And.intro (t_in (by omega)) ?_
    intro v19 ev19
    have hv19 := congrArg Int32.toInt ev19
    refine And.intro (t_in (by omega)) ?_
    intro v20 ev20
    have f21 : Int32.toInt (v19 - (m_foot x4.toNatClampNeg)) = Int32.toInt v19 - Int32.toInt (m_foot x4.toNatClampNeg) := ta_sub _ _ (by omega)
    rw [← ev20] at f21
    intro v22 ev22
    have f23 := ti_abs v20 (by omega)
    have hv22 := congrArg Int32.toInt ev22
    intro v24 ev24
    have hv24 := congrArg Int32.toInt ev24
    refine And.intro (t_in (by omega)) ?_
    intro v26 ev26
    have f27 := h_m_height x1.toNatClampNeg
    have hv26 := congrArg Int32.toInt ev26
    refine And.intro (t_in (by omega)) ?_
    intro v28 ev28
    have f30 := h_m_fork x4.toNatClampNeg
    have f29 : Int32.toInt (v26 - (m_fork x4.toNatClampNeg)) = Int32.toInt v26 - Int32.toInt (m_fork x4.toNatClampNeg) := ta_sub _ _ (by omega)
    rw [← ev28] at f29
    intro v31 ev31
    have f32 := ti_max (0 : Int32) v28
    have hv31 := congrArg Int32.toInt ev31
    refine And.intro (t_in (by omega)) ?_
    intro v33 ev33
    have hv33 := congrArg Int32.toInt ev33
    refine And.intro (t_in (by omega)) ?_
    intro v34 ev34
    have f35 : Int32.toInt (v33 - (m_fork x4.toNatClampNeg)) = Int32.toInt v33 - Int32.toInt (m_fork x4.toNatClampNeg) := ta_sub _ _ (by omega)
    rw [← ev34] at f35
    intro v36 ev36
    have f37 := ti_max (0 : Int32) v34
    have hv36 := congrArg Int32.toInt ev36
    intro v38 ev38
    have hv38 := congrArg Int32.toInt ev38
    have f41 := tp_r v38
    refine And.intro (fun c40 => ?_) (fun c40 => ?_)
    · skip
      have c40 := (fa_lt _ _).mp c40
      refine And.intro (fun _ => ?_) (fun h9 => absurd h9 (by decide))
      exact ts_X10_from_69 m_fruits m_standings m_now m_x m_height m_foot m_fork m_told h_m_fruits h_m_standings e0_m_now e1_m_now h_m_x h_m_height h_m_foot h_m_fork e0_m_told e1_m_told hc0 hc1 hpost hKn x1 x2 x4 x3 0 m_thrown (by omega) (by omega) (by omega) (by omega) (by omega) (by omega) (by omega)
    · skip
      have c40 := mt (fa_lt _ _).mpr c40
      refine And.intro (fun h9 => absurd h9 (by decide)) (fun _ => ?_)
      intro v43 ev43
      have f44 := ti_shl1 7 128 x4 (by decide) (by omega)
      have hv43 := congrArg Int32.toInt ev43
      exact ts_X10_from_69 m_fruits m_standings m_now m_x m_height m_foot m_fork m_told h_m_fruits h_m_standings e0_m_now e1_m_now h_m_x h_m_height h_m_foot h_m_fork e0_m_told e1_m_told hc0 hc1 hpost hKn x1 x2 x4 x3 v43 m_thrown (by omega) (by omega) (by omega) (by omega) (by omega) (by omega) (by omega)
set_option maxHeartbeats 8000000 in
set_option maxRecDepth 200000 in
theorem tb_X10_from_29 {post : Int32 → Int32 → Prop} {SB : Int} (m_fruits : Int32) (m_standings : Int32) (m_now : Nat → Int32) (m_x : Nat → Int32) (m_height : Nat → Int32) (m_foot : Nat → Int32) (m_fork : Nat → Int32) (m_told : Nat → Int32) (h_m_fruits : 0 ≤ Int32.toInt m_fruits ∧ Int32.toInt m_fruits ≤ 16) (h_m_standings : 0 ≤ Int32.toInt m_standings ∧ Int32.toInt m_standings ≤ 8) (e0_m_now : ∀ k : Nat, k = 17 → -1 ≤ Int32.toInt (m_now k) ∧ Int32.toInt (m_now k) ≤ SB) (e1_m_now : ∀ k : Nat, k = 19 → 0 ≤ Int32.toInt (m_now k) ∧ Int32.toInt (m_now k) ≤ 9) (h_m_x : ∀ k : Nat, 0 ≤ Int32.toInt (m_x k) ∧ Int32.toInt (m_x k) ≤ 99) (h_m_height : ∀ k : Nat, 0 ≤ Int32.toInt (m_height k) ∧ Int32.toInt (m_height k) ≤ 99) (h_m_foot : ∀ k : Nat, 0 ≤ Int32.toInt (m_foot k) ∧ Int32.toInt (m_foot k) ≤ 99) (h_m_fork : ∀ k : Nat, 0 ≤ Int32.toInt (m_fork k) ∧ Int32.toInt (m_fork k) ≤ 99) (e0_m_told : ∀ k : Nat, k = 4 → 1 ≤ Int32.toInt (m_told k) ∧ Int32.toInt (m_told k) ≤ 30) (e1_m_told : ∀ k : Nat, k = 3 → 0 ≤ Int32.toInt (m_told k) ∧ Int32.toInt (m_told k) ≤ 9) (hc0 : -1 ≤ SB ∧ SB ≤ 7) (hc1 : (Int32.toInt m_standings ≤ 0 ∧ SB = 0) ∨ (1 ≤ Int32.toInt m_standings ∧ SB = Int32.toInt m_standings - 1)) (hpost : ∀ (r : Int32) (m_thrown' : Int32), (-1 ≤ Int32.toInt r ∧ Int32.toInt r ≤ 255) → (0 ≤ Int32.toInt m_thrown' ∧ Int32.toInt m_thrown' ≤ 0) → post r m_thrown') : ∀ (n : Nat) (x1 : Int32) (x2 : Int32) (x3 : Int32) (x4 : Int32) (m_thrown : Int32), (0 ≤ Int32.toInt x1 ∧ Int32.toInt x1 ≤ 15) → (0 ≤ Int32.toInt x2 ∧ Int32.toInt x2 ≤ 1) → (0 ≤ Int32.toInt x3 ∧ Int32.toInt x3 ≤ 255) → (0 ≤ Int32.toInt x4 ∧ Int32.toInt x4 ≤ 8) → (0 ≤ Int32.toInt m_thrown ∧ Int32.toInt m_thrown ≤ 0) → (8 - Int32.toInt x4 < (n : Int)) → wb_X10_from_29 post m_fruits m_standings m_now m_x m_height m_foot m_fork m_told n x1 x2 x3 x4 m_thrown := by
  intro n
  induction n with
  | zero =>
    intro x1 x2 x3 x4 m_thrown h_x1 h_x2 h_x3 h_x4 h_m_thrown hm
    exfalso; omega
  | succ n ih =>
    intro x1 x2 x3 x4 m_thrown h_x1 h_x2 h_x3 h_x4 h_m_thrown hm
    exact ts_X10_from_29 m_fruits m_standings m_now m_x m_height m_foot m_fork m_told h_m_fruits h_m_standings e0_m_now e1_m_now h_m_x h_m_height h_m_foot h_m_fork e0_m_told e1_m_told hc0 hc1 hpost ih x1 x2 x3 x4 m_thrown h_x1 h_x2 h_x3 h_x4 h_m_thrown (by omega)
set_option maxHeartbeats 8000000 in
set_option maxRecDepth 200000 in
theorem t_X10_from {post : Int32 → Int32 → Prop} {SB : Int} {p0 : Int32} {p1 : Int32} {m_fruits : Int32} {m_standings : Int32} {m_thrown : Int32} {m_now : Nat → Int32} {m_x : Nat → Int32} {m_height : Nat → Int32} {m_foot : Nat → Int32} {m_fork : Nat → Int32} {m_told : Nat → Int32} (h_m_fruits : 0 ≤ Int32.toInt m_fruits ∧ Int32.toInt m_fruits ≤ 16) (h_m_standings : 0 ≤ Int32.toInt m_standings ∧ Int32.toInt m_standings ≤ 8) (h_m_thrown : 0 ≤ Int32.toInt m_thrown ∧ Int32.toInt m_thrown ≤ 1) (e0_m_now : ∀ k : Nat, k = 17 → -1 ≤ Int32.toInt (m_now k) ∧ Int32.toInt (m_now k) ≤ SB) (e1_m_now : ∀ k : Nat, k = 19 → 0 ≤ Int32.toInt (m_now k) ∧ Int32.toInt (m_now k) ≤ 9) (h_m_x : ∀ k : Nat, 0 ≤ Int32.toInt (m_x k) ∧ Int32.toInt (m_x k) ≤ 99) (h_m_height : ∀ k : Nat, 0 ≤ Int32.toInt (m_height k) ∧ Int32.toInt (m_height k) ≤ 99) (h_m_foot : ∀ k : Nat, 0 ≤ Int32.toInt (m_foot k) ∧ Int32.toInt (m_foot k) ≤ 99) (h_m_fork : ∀ k : Nat, 0 ≤ Int32.toInt (m_fork k) ∧ Int32.toInt (m_fork k) ≤ 99) (e0_m_told : ∀ k : Nat, k = 4 → 1 ≤ Int32.toInt (m_told k) ∧ Int32.toInt (m_told k) ≤ 30) (e1_m_told : ∀ k : Nat, k = 3 → 0 ≤ Int32.toInt (m_told k) ∧ Int32.toInt (m_told k) ≤ 9) (hc0 : -1 ≤ SB ∧ SB ≤ 7) (hc1 : (Int32.toInt m_standings ≤ 0 ∧ SB = 0) ∨ (1 ≤ Int32.toInt m_standings ∧ SB = Int32.toInt m_standings - 1)) (hpost : ∀ (r : Int32) (m_thrown' : Int32), (-1 ≤ Int32.toInt r ∧ Int32.toInt r ≤ 255) → (0 ≤ Int32.toInt m_thrown' ∧ Int32.toInt m_thrown' ≤ 0) → post r m_thrown') : wp_X10_from post p0 p1 m_fruits m_standings m_thrown m_now m_x m_height m_foot m_fork m_told := by
  have l0 : Int32.toInt ((-1) : Int32) = -1 := (by decide)
  have l1 : Int32.toInt (0 : Int32) = 0 := (by decide)
  have l2 : Int32.toInt (1 : Int32) = 1 := (by decide)
  intro v45 ev45
  have f46 : Int32.toInt (m_fruits - 1) = Int32.toInt m_fruits - Int32.toInt (1 : Int32) := ta_sub _ _ (by omega)
  rw [← ev45] at f46
  have f48 := tp_r p0
  refine And.intro (fun c47 => ?_) (fun c47 => ?_)
  · skip
    have c47 := (fa_lt _ _).mp c47
    refine And.intro (t_bool (by omega)) ?_
    refine And.intro (fun _ => ?_) (fun h9 => absurd h9 (by decide))
    exact hpost _ _ (by omega) (by omega)
  · skip
    have c47 := mt (fa_lt _ _).mpr c47
    refine And.intro (fun c49 => ?_) (fun c49 => ?_)
    · skip
      have c49 := (fa_lt _ _).mp c49
      refine And.intro (t_bool (by omega)) ?_
      refine And.intro (fun _ => ?_) (fun h9 => absurd h9 (by decide))
      exact hpost _ _ (by omega) (by omega)
    · skip
      have c49 := mt (fa_lt _ _).mpr c49
      refine And.intro (t_bool (by omega)) ?_
      refine And.intro (fun h9 => absurd h9 (by decide)) (fun _ => ?_)
      have f51 := tp_r p1
      refine And.intro (fun c50 => ?_) (fun c50 => ?_)
      · skip
        have c50 := (fa_lt _ _).mp c50
        refine And.intro (fun h9 => absurd h9 (by decide)) (fun _ => ?_)
        exact hpost _ _ (by omega) (by omega)
      · skip
        have c50 := mt (fa_lt _ _).mpr c50
        refine And.intro (fun c52 => ?_) (fun c52 => ?_)
        · skip
          have c52 := (fa_lt _ _).mp c52
          refine And.intro (fun h9 => absurd h9 (by decide)) (fun _ => ?_)
          exact hpost _ _ (by omega) (by omega)
        · skip
          have c52 := mt (fa_lt _ _).mpr c52
          refine And.intro (fun _ => ?_) (fun h9 => absurd h9 (by decide))
          exact ⟨10, tb_X10_from_29 m_fruits m_standings m_now m_x m_height m_foot m_fork m_told h_m_fruits h_m_standings e0_m_now e1_m_now h_m_x h_m_height h_m_foot h_m_fork e0_m_told e1_m_told hc0 hc1 hpost _ p0 p1 0 0 0 (by omega) (by omega) (by omega) (by omega) (by omega) (by omega)⟩
set_option maxHeartbeats 8000000 in
set_option maxRecDepth 200000 in
theorem ts_X10_worthOfAll_35 {post : Int32 → Prop} {K5 : Int32 → Int32 → Int32 → Int32 → Prop} {n5 : Int} (m_fruits : Int32) (m_worth : Nat → Int32) (h_m_fruits : 0 ≤ Int32.toInt m_fruits ∧ Int32.toInt m_fruits ≤ 16) (h_m_worth : ∀ k : Nat, 0 ≤ Int32.toInt (m_worth k) ∧ Int32.toInt (m_worth k) ≤ 9) (hpost : ∀ (r : Int32) , post r) (hK5 : ∀ (x1 : Int32) (x2 : Int32) (x3 : Int32) (x4 : Int32), (0 ≤ Int32.toInt x1 ∧ Int32.toInt x1 ≤ 65535) → (0 ≤ Int32.toInt x4 ∧ Int32.toInt x4 ≤ 16) → (16 - Int32.toInt x4 < n5) → K5 x1 x2 x3 x4) (x1 : Int32) (x2 : Int32) (x4 : Int32) (k0 : Int32) (k1 : Int32) (h_x1 : 0 ≤ Int32.toInt x1 ∧ Int32.toInt x1 ≤ 65535) (h_x4 : 0 ≤ Int32.toInt x4 ∧ Int32.toInt x4 ≤ 15) (h_k1 : 0 ≤ Int32.toInt k1 ∧ Int32.toInt k1 ≤ 9) (hn5 : 16 - Int32.toInt x4 ≤ n5) : ws_X10_worthOfAll_35 post K5 m_fruits m_worth x1 x2 x4 k0 k1 := by
  have l0 : Int32.toInt (1 : Int32) = 1 := (by decide)
  intro v1 ev1
  have hv1 := congrArg Int32.toInt ev1
  intro v3 ev3
  have f4 : Int32.toInt (x4 + 1) = Int32.toInt x4 + Int32.toInt (1 : Int32) := ta_add _ _ (by omega)
  rw [← ev3] at f4
  have f5 := tp_r x2
  have f6 := tp_r v1
  exact hK5 x1 x2 v1 v3 (by omega) (by omega) (by omega)
set_option maxHeartbeats 8000000 in
set_option maxRecDepth 200000 in
theorem ts_X10_worthOfAll_5 {post : Int32 → Prop} {next : Int32 → Int32 → Int32 → Int32 → Prop} {n5 : Int} (m_fruits : Int32) (m_worth : Nat → Int32) (h_m_fruits : 0 ≤ Int32.toInt m_fruits ∧ Int32.toInt m_fruits ≤ 16) (h_m_worth : ∀ k : Nat, 0 ≤ Int32.toInt (m_worth k) ∧ Int32.toInt (m_worth k) ≤ 9) (hpost : ∀ (r : Int32) , post r) (hKn : ∀ (x1 : Int32) (x2 : Int32) (x3 : Int32) (x4 : Int32), (0 ≤ Int32.toInt x1 ∧ Int32.toInt x1 ≤ 65535) → (0 ≤ Int32.toInt x4 ∧ Int32.toInt x4 ≤ 16) → (16 - Int32.toInt x4 < n5) → next x1 x2 x3 x4) (x1 : Int32) (x2 : Int32) (x3 : Int32) (x4 : Int32) (h_x1 : 0 ≤ Int32.toInt x1 ∧ Int32.toInt x1 ≤ 65535) (h_x4 : 0 ≤ Int32.toInt x4 ∧ Int32.toInt x4 ≤ 16) (hn5 : 16 - Int32.toInt x4 ≤ n5) : ws_X10_worthOfAll_5 post next m_fruits m_worth x1 x2 x3 x4 := by
  have l0 : Int32.toInt (0 : Int32) = 0 := (by decide)
  have l1 : Int32.toInt (1 : Int32) = 1 := (by decide)
  have l2 : Int32.toInt (2 : Int32) = 2 := (by decide)
  refine And.intro (fun c7 => ?_) (fun c7 => ?_)
  · skip
    have c7 := (fa_le _ _).mp c7
    exact hpost _ 
  · skip
    have c7 := mt (fa_le _ _).mpr c7
    intro v8 ev8
    have f9 := ti_shr x1 x4 (by omega)
    have hv8 := congrArg Int32.toInt ev8
    intro v10 ev10
    have f11 := ti_andr v8 1 (by omega)
    have f12 := ti_andl v8 1 (by omega)
    have hv10 := congrArg Int32.toInt ev10
    refine And.intro (fun c13 => ?_) (fun c13 => ?_)
    · skip
      have c13 := mt (fa_eq _ _).mpr c13
      refine And.intro (fun _ => ?_) (fun h9 => absurd h9 (by decide))
      have f14 := tp_r x2
      have f15 := tp_r x3
      exact ts_X10_worthOfAll_35 m_fruits m_worth h_m_fruits h_m_worth hpost hKn x1 x2 x4 x3 0 (by omega) (by omega) (by omega) (by omega)
    · skip
      have c13 := (fa_eq _ _).mp c13
      refine And.intro (fun h9 => absurd h9 (by decide)) (fun _ => ?_)
      intro v16 ev16
      intro v17 ev17
      have f18 := ti_andr v16 1 (by omega)
      have hv17 := congrArg Int32.toInt ev17
      refine And.intro (fun c19 => ?_) (fun c19 => ?_)
      · skip
        have c19 := mt (fa_eq _ _).mpr c19
        refine And.intro (fun _ => ?_) (fun h9 => absurd h9 (by decide))
        refine And.intro (t_in (by omega)) ?_
        have f20 := h_m_worth x4.toNatClampNeg
        have f21 := tp_r x2
        have f22 := tp_r x3
        exact ts_X10_worthOfAll_35 m_fruits m_worth h_m_fruits h_m_worth hpost hKn x1 x2 x4 x3 (m_worth x4.toNatClampNeg) (by omega) (by omega) (by omega) (by omega)
      · skip
        have c19 := (fa_eq _ _).mp c19
        refine And.intro (fun h9 => absurd h9 (by decide)) (fun _ => ?_)
        refine And.intro (t_in (by omega)) ?_
        intro v23 ev23
        have f24 := h_m_worth x4.toNatClampNeg
        have hv23 := congrArg Int32.toInt ev23
        intro v25 ev25
        have f26 : Int32.toInt (v23 / 2) = Int32.toInt v23 / 2 := ti_div _ _ (by decide) (by omega) (by decide)
        rw [← ev25] at f26
        have f27 := tp_r x2
        have f28 := tp_r x3
        exact ts_X10_worthOfAll_35 m_fruits m_worth h_m_fruits h_m_worth hpost hKn x1 x2 x4 x3 v25 (by omega) (by omega) (by omega) (by omega)
set_option maxHeartbeats 8000000 in
set_option maxRecDepth 200000 in
theorem tb_X10_worthOfAll_5 {post : Int32 → Prop} (m_fruits : Int32) (m_worth : Nat → Int32) (h_m_fruits : 0 ≤ Int32.toInt m_fruits ∧ Int32.toInt m_fruits ≤ 16) (h_m_worth : ∀ k : Nat, 0 ≤ Int32.toInt (m_worth k) ∧ Int32.toInt (m_worth k) ≤ 9) (hpost : ∀ (r : Int32) , post r) : ∀ (n : Nat) (x1 : Int32) (x2 : Int32) (x3 : Int32) (x4 : Int32), (0 ≤ Int32.toInt x1 ∧ Int32.toInt x1 ≤ 65535) → (0 ≤ Int32.toInt x4 ∧ Int32.toInt x4 ≤ 16) → (16 - Int32.toInt x4 < (n : Int)) → wb_X10_worthOfAll_5 post m_fruits m_worth n x1 x2 x3 x4 := by
  intro n
  induction n with
  | zero =>
    intro x1 x2 x3 x4 h_x1 h_x4 hm
    exfalso; omega
  | succ n ih =>
    intro x1 x2 x3 x4 h_x1 h_x4 hm
    exact ts_X10_worthOfAll_5 m_fruits m_worth h_m_fruits h_m_worth hpost ih x1 x2 x3 x4 h_x1 h_x4 (by omega)
set_option maxHeartbeats 8000000 in
set_option maxRecDepth 200000 in
theorem t_X10_worthOfAll {post : Int32 → Prop} {p0 : Int32} {p1 : Int32} {m_fruits : Int32} {m_worth : Nat → Int32} (h_p0 : 0 ≤ Int32.toInt p0 ∧ Int32.toInt p0 ≤ 65535) (h_m_fruits : 0 ≤ Int32.toInt m_fruits ∧ Int32.toInt m_fruits ≤ 16) (h_m_worth : ∀ k : Nat, 0 ≤ Int32.toInt (m_worth k) ∧ Int32.toInt (m_worth k) ≤ 9) (hpost : ∀ (r : Int32) , post r) : wp_X10_worthOfAll post p0 p1 m_fruits m_worth := by
  have l0 : Int32.toInt (0 : Int32) = 0 := (by decide)
  have f29 := tp_r p1
  exact ⟨18, tb_X10_worthOfAll_5 m_fruits m_worth h_m_fruits h_m_worth hpost _ p0 p1 0 0 (by omega) (by omega) (by omega)⟩
set_option maxHeartbeats 8000000 in
set_option maxRecDepth 200000 in
theorem ts_X10_never_17 {post : Int32 → Int32 → Int32 → (Nat → Int32) → Prop} {SB : Int} {next : Int32 → Int32 → Int32 → Int32 → (Nat → Int32) → Prop} {n17 : Int} (m_fruits : Int32) (m_standings : Int32) (m_now : Nat → Int32) (m_x : Nat → Int32) (m_height : Nat → Int32) (m_worth : Nat → Int32) (m_foot : Nat → Int32) (m_fork : Nat → Int32) (m_told : Nat → Int32) (h_m_fruits : 0 ≤ Int32.toInt m_fruits ∧ Int32.toInt m_fruits ≤ 16) (h_m_standings : 0 ≤ Int32.toInt m_standings ∧ Int32.toInt m_standings ≤ 8) (e0_m_now : ∀ k : Nat, k = 17 → -1 ≤ Int32.toInt (m_now k) ∧ Int32.toInt (m_now k) ≤ SB) (e1_m_now : ∀ k : Nat, k = 19 → 0 ≤ Int32.toInt (m_now k) ∧ Int32.toInt (m_now k) ≤ 9) (h_m_x : ∀ k : Nat, 0 ≤ Int32.toInt (m_x k) ∧ Int32.toInt (m_x k) ≤ 99) (h_m_height : ∀ k : Nat, 0 ≤ Int32.toInt (m_height k) ∧ Int32.toInt (m_height k) ≤ 99) (h_m_worth : ∀ k : Nat, 0 ≤ Int32.toInt (m_worth k) ∧ Int32.toInt (m_worth k) ≤ 9) (h_m_foot : ∀ k : Nat, 0 ≤ Int32.toInt (m_foot k) ∧ Int32.toInt (m_foot k) ≤ 99) (h_m_fork : ∀ k : Nat, 0 ≤ Int32.toInt (m_fork k) ∧ Int32.toInt (m_fork k) ≤ 99) (e0_m_told : ∀ k : Nat, k = 4 → 1 ≤ Int32.toInt (m_told k) ∧ Int32.toInt (m_told k) ≤ 30) (e1_m_told : ∀ k : Nat, k = 3 → 0 ≤ Int32.toInt (m_told k) ∧ Int32.toInt (m_told k) ≤ 9) (hc0 : -1 ≤ SB ∧ SB ≤ 7) (hc1 : (Int32.toInt m_standings ≤ 0 ∧ SB = 0) ∨ (1 ≤ Int32.toInt m_standings ∧ SB = Int32.toInt m_standings - 1)) (hpost : ∀ (r : Int32) (m_rowMany' : Int32) (m_thrown' : Int32) (m_row' : Nat → Int32), (0 ≤ Int32.toInt r ∧ Int32.toInt r ≤ 65535) → (1 ≤ Int32.toInt m_rowMany' ∧ Int32.toInt m_rowMany' ≤ 1) → (0 ≤ Int32.toInt m_thrown' ∧ Int32.toInt m_thrown' ≤ 0) → post r m_rowMany' m_thrown' m_row') (hKn : ∀ (x1 : Int32) (x2 : Int32) (m_rowMany : Int32) (m_thrown : Int32) (m_row : Nat → Int32), (0 ≤ Int32.toInt x1 ∧ Int32.toInt x1 ≤ 65535) → (0 ≤ Int32.toInt x2 ∧ Int32.toInt x2 ≤ 8) → (0 ≤ Int32.toInt m_rowMany ∧ Int32.toInt m_rowMany ≤ 16) → (0 ≤ Int32.toInt m_thrown ∧ Int32.toInt m_thrown ≤ 0) → (8 - Int32.toInt x2 < n17) → next x1 x2 m_rowMany m_thrown m_row) (x1 : Int32) (x2 : Int32) (m_rowMany : Int32) (m_thrown : Int32) (m_row : Nat → Int32) (h_x1 : 0 ≤ Int32.toInt x1 ∧ Int32.toInt x1 ≤ 65535) (h_x2 : 0 ≤ Int32.toInt x2 ∧ Int32.toInt x2 ≤ 8) (h_m_rowMany : 0 ≤ Int32.toInt m_rowMany ∧ Int32.toInt m_rowMany ≤ 16) (h_m_thrown : 0 ≤ Int32.toInt m_thrown ∧ Int32.toInt m_thrown ≤ 0) (hn17 : 8 - Int32.toInt x2 ≤ n17) : ws_X10_never_17 post next m_fruits m_standings m_now m_x m_height m_worth m_foot m_fork m_told x1 x2 m_rowMany m_thrown m_row := by
  have l0 : Int32.toInt (0 : Int32) = 0 := (by decide)
  have l1 : Int32.toInt (1 : Int32) = 1 := (by decide)
  have l2 : Int32.toInt (16 : Int32) = 16 := (by decide)
  refine And.intro (fun c1 => ?_) (fun c1 => ?_)
  · skip
    have c1 := (fa_le _ _).mp c1
    intro v2 ev2
    have hv2 := congrArg Int32.toInt ev2
    refine t_X10_worthOfAll (by omega) (by omega) (fun k => by have q9 := h_m_worth k; omega) (fun r4 => ?_)
    refine And.intro (t_in (by omega)) ?_
    intro v5 ev5
    have f6 : Int32.toInt (0 + 1) = Int32.toInt (0 : Int32) + Int32.toInt (1 : Int32) := ta_add _ _ (by omega)
    rw [← ev5] at f6
    exact hpost _ _ _ _ (by omega) (by omega) (by omega)
  · skip
    have c1 := mt (fa_le _ _).mpr c1
    refine t_X10_reachedFrom (by omega) (by omega) (by omega) (fun k => by have q9 := h_m_x k; omega) (fun k => by have q9 := h_m_height k; omega) (fun k => by have q9 := h_m_foot k; omega) (fun k => by have q9 := h_m_fork k; omega) e0_m_told e1_m_told (fun r7 h_r7 => ?_)
    intro v8 ev8
    have f10 := ti_andl x1 (r7 ^^^ (-1)) (by omega)
    have hv8 := congrArg Int32.toInt ev8
    intro v11 ev11
    have f12 : Int32.toInt (x2 + 1) = Int32.toInt x2 + Int32.toInt (1 : Int32) := ta_add _ _ (by omega)
    rw [← ev11] at f12
    exact hKn v8 v11 m_rowMany m_thrown m_row (by omega) (by omega) (by omega) (by omega) (by omega)
set_option maxHeartbeats 8000000 in
set_option maxRecDepth 200000 in
theorem tb_X10_never_17 {post : Int32 → Int32 → Int32 → (Nat → Int32) → Prop} {SB : Int} (m_fruits : Int32) (m_standings : Int32) (m_now : Nat → Int32) (m_x : Nat → Int32) (m_height : Nat → Int32) (m_worth : Nat → Int32) (m_foot : Nat → Int32) (m_fork : Nat → Int32) (m_told : Nat → Int32) (h_m_fruits : 0 ≤ Int32.toInt m_fruits ∧ Int32.toInt m_fruits ≤ 16) (h_m_standings : 0 ≤ Int32.toInt m_standings ∧ Int32.toInt m_standings ≤ 8) (e0_m_now : ∀ k : Nat, k = 17 → -1 ≤ Int32.toInt (m_now k) ∧ Int32.toInt (m_now k) ≤ SB) (e1_m_now : ∀ k : Nat, k = 19 → 0 ≤ Int32.toInt (m_now k) ∧ Int32.toInt (m_now k) ≤ 9) (h_m_x : ∀ k : Nat, 0 ≤ Int32.toInt (m_x k) ∧ Int32.toInt (m_x k) ≤ 99) (h_m_height : ∀ k : Nat, 0 ≤ Int32.toInt (m_height k) ∧ Int32.toInt (m_height k) ≤ 99) (h_m_worth : ∀ k : Nat, 0 ≤ Int32.toInt (m_worth k) ∧ Int32.toInt (m_worth k) ≤ 9) (h_m_foot : ∀ k : Nat, 0 ≤ Int32.toInt (m_foot k) ∧ Int32.toInt (m_foot k) ≤ 99) (h_m_fork : ∀ k : Nat, 0 ≤ Int32.toInt (m_fork k) ∧ Int32.toInt (m_fork k) ≤ 99) (e0_m_told : ∀ k : Nat, k = 4 → 1 ≤ Int32.toInt (m_told k) ∧ Int32.toInt (m_told k) ≤ 30) (e1_m_told : ∀ k : Nat, k = 3 → 0 ≤ Int32.toInt (m_told k) ∧ Int32.toInt (m_told k) ≤ 9) (hc0 : -1 ≤ SB ∧ SB ≤ 7) (hc1 : (Int32.toInt m_standings ≤ 0 ∧ SB = 0) ∨ (1 ≤ Int32.toInt m_standings ∧ SB = Int32.toInt m_standings - 1)) (hpost : ∀ (r : Int32) (m_rowMany' : Int32) (m_thrown' : Int32) (m_row' : Nat → Int32), (0 ≤ Int32.toInt r ∧ Int32.toInt r ≤ 65535) → (1 ≤ Int32.toInt m_rowMany' ∧ Int32.toInt m_rowMany' ≤ 1) → (0 ≤ Int32.toInt m_thrown' ∧ Int32.toInt m_thrown' ≤ 0) → post r m_rowMany' m_thrown' m_row') : ∀ (n : Nat) (x1 : Int32) (x2 : Int32) (m_rowMany : Int32) (m_thrown : Int32) (m_row : Nat → Int32), (0 ≤ Int32.toInt x1 ∧ Int32.toInt x1 ≤ 65535) → (0 ≤ Int32.toInt x2 ∧ Int32.toInt x2 ≤ 8) → (0 ≤ Int32.toInt m_rowMany ∧ Int32.toInt m_rowMany ≤ 16) → (0 ≤ Int32.toInt m_thrown ∧ Int32.toInt m_thrown ≤ 0) → (8 - Int32.toInt x2 < (n : Int)) → wb_X10_never_17 post m_fruits m_standings m_now m_x m_height m_worth m_foot m_fork m_told n x1 x2 m_rowMany m_thrown m_row := by
  intro n
  induction n with
  | zero =>
    intro x1 x2 m_rowMany m_thrown m_row h_x1 h_x2 h_m_rowMany h_m_thrown hm
    exfalso; omega
  | succ n ih =>
    intro x1 x2 m_rowMany m_thrown m_row h_x1 h_x2 h_m_rowMany h_m_thrown hm
    exact ts_X10_never_17 m_fruits m_standings m_now m_x m_height m_worth m_foot m_fork m_told h_m_fruits h_m_standings e0_m_now e1_m_now h_m_x h_m_height h_m_worth h_m_foot h_m_fork e0_m_told e1_m_told hc0 hc1 hpost ih x1 x2 m_rowMany m_thrown m_row h_x1 h_x2 h_m_rowMany h_m_thrown (by omega)
set_option maxHeartbeats 8000000 in
set_option maxRecDepth 200000 in
theorem t_X10_never {post : Int32 → Int32 → Int32 → (Nat → Int32) → Prop} {SB : Int} {m_fruits : Int32} {m_standings : Int32} {m_rowMany : Int32} {m_thrown : Int32} {m_now : Nat → Int32} {m_x : Nat → Int32} {m_height : Nat → Int32} {m_worth : Nat → Int32} {m_foot : Nat → Int32} {m_fork : Nat → Int32} {m_told : Nat → Int32} {m_row : Nat → Int32} (h_m_fruits : 0 ≤ Int32.toInt m_fruits ∧ Int32.toInt m_fruits ≤ 16) (h_m_standings : 0 ≤ Int32.toInt m_standings ∧ Int32.toInt m_standings ≤ 8) (h_m_rowMany : 0 ≤ Int32.toInt m_rowMany ∧ Int32.toInt m_rowMany ≤ 16) (h_m_thrown : 0 ≤ Int32.toInt m_thrown ∧ Int32.toInt m_thrown ≤ 1) (e0_m_now : ∀ k : Nat, k = 17 → -1 ≤ Int32.toInt (m_now k) ∧ Int32.toInt (m_now k) ≤ SB) (e1_m_now : ∀ k : Nat, k = 19 → 0 ≤ Int32.toInt (m_now k) ∧ Int32.toInt (m_now k) ≤ 9) (h_m_x : ∀ k : Nat, 0 ≤ Int32.toInt (m_x k) ∧ Int32.toInt (m_x k) ≤ 99) (h_m_height : ∀ k : Nat, 0 ≤ Int32.toInt (m_height k) ∧ Int32.toInt (m_height k) ≤ 99) (h_m_worth : ∀ k : Nat, 0 ≤ Int32.toInt (m_worth k) ∧ Int32.toInt (m_worth k) ≤ 9) (h_m_foot : ∀ k : Nat, 0 ≤ Int32.toInt (m_foot k) ∧ Int32.toInt (m_foot k) ≤ 99) (h_m_fork : ∀ k : Nat, 0 ≤ Int32.toInt (m_fork k) ∧ Int32.toInt (m_fork k) ≤ 99) (e0_m_told : ∀ k : Nat, k = 4 → 1 ≤ Int32.toInt (m_told k) ∧ Int32.toInt (m_told k) ≤ 30) (e1_m_told : ∀ k : Nat, k = 3 → 0 ≤ Int32.toInt (m_told k) ∧ Int32.toInt (m_told k) ≤ 9) (hc0 : -1 ≤ SB ∧ SB ≤ 7) (hc1 : (Int32.toInt m_standings ≤ 0 ∧ SB = 0) ∨ (1 ≤ Int32.toInt m_standings ∧ SB = Int32.toInt m_standings - 1)) (hpost : ∀ (r : Int32) (m_rowMany' : Int32) (m_thrown' : Int32) (m_row' : Nat → Int32), (0 ≤ Int32.toInt r ∧ Int32.toInt r ≤ 65535) → (1 ≤ Int32.toInt m_rowMany' ∧ Int32.toInt m_rowMany' ≤ 1) → (0 ≤ Int32.toInt m_thrown' ∧ Int32.toInt m_thrown' ≤ 0) → post r m_rowMany' m_thrown' m_row') : wp_X10_never post m_fruits m_standings m_rowMany m_thrown m_now m_x m_height m_worth m_foot m_fork m_told m_row := by
  have l0 : Int32.toInt (0 : Int32) = 0 := (by decide)
  refine t_X10_which (by omega) (by omega) e0_m_now e1_m_now (by omega) (fun r13 h_r13 ox14 => ?_)
  exact ⟨10, tb_X10_never_17 m_fruits m_standings m_now m_x m_height m_worth m_foot m_fork m_told h_m_fruits h_m_standings e0_m_now e1_m_now h_m_x h_m_height h_m_worth h_m_foot h_m_fork e0_m_told e1_m_told hc0 hc1 hpost _ r13 0 m_rowMany 0 m_row (by omega) (by omega) (by omega) (by omega) (by omega)⟩
set_option maxHeartbeats 8000000 in
set_option maxRecDepth 200000 in
theorem t_X10_seconds {post : Int32 → Int32 → Nat → Int32 → Int32 → Int32 → Int32 → Int32 → Int32 → Int32 → Int32 → Int32 → Prop} {SB : Int} {p0 : Int32} {p1 : Int32} {p2 : Int32} {m_fruits : Int32} {m_standings : Int32} {m_thrown : Int32} {m_read : Nat} {m_length : Int32} {m_top : Int32} {m_at : Int32} {m_wrong : Int32} {m_ruleSize : Int32} {m_isAsked : Int32} {m_askedFruit : Int32} {m_askedStanding : Int32} {m_askedHook : Int32} {m_askedApron : Int32} {m_now : Nat → Int32} {m_x : Nat → Int32} {m_height : Nat → Int32} {m_worth : Nat → Int32} {m_foot : Nat → Int32} {m_fork : Nat → Int32} {m_told : Nat → Int32} {m_text : Nat → Int32} {m_rule : Nat → Int32} (h_m_fruits : 0 ≤ Int32.toInt m_fruits ∧ Int32.toInt m_fruits ≤ 16) (h_m_standings : 0 ≤ Int32.toInt m_standings ∧ Int32.toInt m_standings ≤ 8) (h_m_thrown : 0 ≤ Int32.toInt m_thrown ∧ Int32.toInt m_thrown ≤ 1) (h_m_read : m_read = 0 ∨ m_read = 1 ∨ m_read = 2) (h_m_length : 0 ≤ Int32.toInt m_length ∧ Int32.toInt m_length ≤ 80) (h_m_top : 0 ≤ Int32.toInt m_top ∧ Int32.toInt m_top ≤ 80) (h_m_at : 0 ≤ Int32.toInt m_at ∧ Int32.toInt m_at ≤ 80) (h_m_wrong : -1 ≤ Int32.toInt m_wrong ∧ Int32.toInt m_wrong ≤ 80) (h_m_ruleSize : 0 ≤ Int32.toInt m_ruleSize ∧ Int32.toInt m_ruleSize ≤ 40) (h_m_isAsked : 0 ≤ Int32.toInt m_isAsked ∧ Int32.toInt m_isAsked ≤ 0) (h_m_askedFruit : 0 ≤ Int32.toInt m_askedFruit ∧ Int32.toInt m_askedFruit ≤ 15) (h_m_askedStanding : 0 ≤ Int32.toInt m_askedStanding ∧ Int32.toInt m_askedStanding ≤ 7) (h_m_askedHook : 0 ≤ Int32.toInt m_askedHook ∧ Int32.toInt m_askedHook ≤ 1) (h_m_askedApron : 0 ≤ Int32.toInt m_askedApron ∧ Int32.toInt m_askedApron ≤ 63) (e0_m_now : ∀ k : Nat, k = 17 → -1 ≤ Int32.toInt (m_now k) ∧ Int32.toInt (m_now k) ≤ SB) (e1_m_now : ∀ k : Nat, k = 19 → 0 ≤ Int32.toInt (m_now k) ∧ Int32.toInt (m_now k) ≤ 9) (h_m_x : ∀ k : Nat, 0 ≤ Int32.toInt (m_x k) ∧ Int32.toInt (m_x k) ≤ 99) (h_m_height : ∀ k : Nat, 0 ≤ Int32.toInt (m_height k) ∧ Int32.toInt (m_height k) ≤ 99) (h_m_worth : ∀ k : Nat, 0 ≤ Int32.toInt (m_worth k) ∧ Int32.toInt (m_worth k) ≤ 9) (h_m_foot : ∀ k : Nat, 0 ≤ Int32.toInt (m_foot k) ∧ Int32.toInt (m_foot k) ≤ 99) (h_m_fork : ∀ k : Nat, 0 ≤ Int32.toInt (m_fork k) ∧ Int32.toInt (m_fork k) ≤ 99) (e0_m_told : ∀ k : Nat, k = 4 → 1 ≤ Int32.toInt (m_told k) ∧ Int32.toInt (m_told k) ≤ 30) (e1_m_told : ∀ k : Nat, k = 3 → 0 ≤ Int32.toInt (m_told k) ∧ Int32.toInt (m_told k) ≤ 9) (h_m_text : ∀ k : Nat, -128 ≤ Int32.toInt (m_text k) ∧ Int32.toInt (m_text k) ≤ 127) (h_m_rule : ∀ k : Nat, -128 ≤ Int32.toInt (m_rule k) ∧ Int32.toInt (m_rule k) ≤ 127) (hc0 : -1 ≤ SB ∧ SB ≤ 7) (hc1 : (Int32.toInt m_standings ≤ 0 ∧ SB = 0) ∨ (1 ≤ Int32.toInt m_standings ∧ SB = Int32.toInt m_standings - 1)) (hpost : ∀ (r : Int32) (m_thrown' : Int32) (m_read' : Nat) (m_length' : Int32) (m_top' : Int32) (m_at' : Int32) (m_wrong' : Int32) (m_isAsked' : Int32) (m_askedFruit' : Int32) (m_askedStanding' : Int32) (m_askedHook' : Int32) (m_askedApron' : Int32), (-2 ≤ Int32.toInt r ∧ Int32.toInt r ≤ 99) → (0 ≤ Int32.toInt m_thrown' ∧ Int32.toInt m_thrown' ≤ 0) → (m_read' = 0 ∨ m_read' = 1 ∨ m_read' = 2) → (0 ≤ Int32.toInt m_length' ∧ Int32.toInt m_length' ≤ 80) → (0 ≤ Int32.toInt m_top' ∧ Int32.toInt m_top' ≤ 80) → (0 ≤ Int32.toInt m_at' ∧ Int32.toInt m_at' ≤ 80) → (-1 ≤ Int32.toInt m_wrong' ∧ Int32.toInt m_wrong' ≤ 80) → (0 ≤ Int32.toInt m_isAsked' ∧ Int32.toInt m_isAsked' ≤ 0) → (0 ≤ Int32.toInt m_askedFruit' ∧ Int32.toInt m_askedFruit' ≤ 15) → (0 ≤ Int32.toInt m_askedStanding' ∧ Int32.toInt m_askedStanding' ≤ 7) → (0 ≤ Int32.toInt m_askedHook' ∧ Int32.toInt m_askedHook' ≤ 1) → (0 ≤ Int32.toInt m_askedApron' ∧ Int32.toInt m_askedApron' ≤ 63) → post r m_thrown' m_read' m_length' m_top' m_at' m_wrong' m_isAsked' m_askedFruit' m_askedStanding' m_askedHook' m_askedApron') : wp_X10_seconds post p0 p1 p2 m_fruits m_standings m_thrown m_read m_length m_top m_at m_wrong m_ruleSize m_isAsked m_askedFruit m_askedStanding m_askedHook m_askedApron m_now m_x m_height m_worth m_foot m_fork m_told m_text m_rule := by
  have l0 : Int32.toInt ((-1) : Int32) = -1 := (by decide)
  have l1 : Int32.toInt ((-2) : Int32) = -2 := (by decide)
  have l2 : Int32.toInt (0 : Int32) = 0 := (by decide)
  have l3 : Int32.toInt (1 : Int32) = 1 := (by decide)
  have l4 : Int32.toInt (18 : Int32) = 18 := (by decide)
  have l5 : Int32.toInt (2 : Int32) = 2 := (by decide)
  intro v1 ev1
  have f2 : Int32.toInt (m_fruits - 1) = Int32.toInt m_fruits - Int32.toInt (1 : Int32) := ta_sub _ _ (by omega)
  rw [← ev1] at f2
  have f4 := tp_r p0
  refine And.intro (fun c3 => ?_) (fun c3 => ?_)
  · skip
    have c3 := (fa_lt _ _).mp c3
    refine And.intro (t_bool (by omega)) ?_
    refine And.intro (fun _ => ?_) (fun h9 => absurd h9 (by decide))
    exact hpost _ _ _ _ _ _ _ _ _ _ _ _ (by omega) (by omega) (by first | exact h_m_read | exact Or.inl rfl | exact Or.inr rfl | omega) (by omega) (by omega) (by omega) (by omega) (by omega) (by omega) (by omega) (by omega) (by omega)
  · skip
    have c3 := mt (fa_lt _ _).mpr c3
    refine And.intro (fun c5 => ?_) (fun c5 => ?_)
    · skip
      have c5 := (fa_lt _ _).mp c5
      refine And.intro (t_bool (by omega)) ?_
      refine And.intro (fun _ => ?_) (fun h9 => absurd h9 (by decide))
      exact hpost _ _ _ _ _ _ _ _ _ _ _ _ (by omega) (by omega) (by first | exact h_m_read | exact Or.inl rfl | exact Or.inr rfl | omega) (by omega) (by omega) (by omega) (by omega) (by omega) (by omega) (by omega) (by omega) (by omega)
    · skip
      have c5 := mt (fa_lt _ _).mpr c5
      refine And.intro (t_bool (by omega)) ?_
      refine And.intro (fun h9 => absurd h9 (by decide)) (fun _ => ?_)
      intro v6 ev6
      have f7 : Int32.toInt (m_standings - 1) = Int32.toInt m_standings - Int32.toInt (1 : Int32) := ta_sub _ _ (by omega)
      rw [← ev6] at f7
      have f9 := tp_r p1
      refine And.intro (fun c8 => ?_) (fun c8 => ?_)
      · skip
        have c8 := (fa_lt _ _).mp c8
        refine And.intro (t_bool (by omega)) ?_
        refine And.intro (fun _ => ?_) (fun h9 => absurd h9 (by decide))
        exact hpost _ _ _ _ _ _ _ _ _ _ _ _ (by omega) (by omega) (by first | exact h_m_read | exact Or.inl rfl | exact Or.inr rfl | omega) (by omega) (by omega) (by omega) (by omega) (by omega) (by omega) (by omega) (by omega) (by omega)
      · skip
        have c8 := mt (fa_lt _ _).mpr c8
        refine And.intro (fun c10 => ?_) (fun c10 => ?_)
        · skip
          have c10 := (fa_lt _ _).mp c10
          refine And.intro (t_bool (by omega)) ?_
          refine And.intro (fun _ => ?_) (fun h9 => absurd h9 (by decide))
          exact hpost _ _ _ _ _ _ _ _ _ _ _ _ (by omega) (by omega) (by first | exact h_m_read | exact Or.inl rfl | exact Or.inr rfl | omega) (by omega) (by omega) (by omega) (by omega) (by omega) (by omega) (by omega) (by omega) (by omega)
        · skip
          have c10 := mt (fa_lt _ _).mpr c10
          refine And.intro (t_bool (by omega)) ?_
          refine And.intro (fun h9 => absurd h9 (by decide)) (fun _ => ?_)
          have f12 := tp_r p2
          refine And.intro (fun c11 => ?_) (fun c11 => ?_)
          · skip
            have c11 := (fa_lt _ _).mp c11
            refine And.intro (fun h9 => absurd h9 (by decide)) (fun _ => ?_)
            exact hpost _ _ _ _ _ _ _ _ _ _ _ _ (by omega) (by omega) (by first | exact h_m_read | exact Or.inl rfl | exact Or.inr rfl | omega) (by omega) (by omega) (by omega) (by omega) (by omega) (by omega) (by omega) (by omega) (by omega)
          · skip
            have c11 := mt (fa_lt _ _).mpr c11
            refine And.intro (fun c13 => ?_) (fun c13 => ?_)
            · skip
              have c13 := (fa_lt _ _).mp c13
              refine And.intro (fun h9 => absurd h9 (by decide)) (fun _ => ?_)
              exact hpost _ _ _ _ _ _ _ _ _ _ _ _ (by omega) (by omega) (by first | exact h_m_read | exact Or.inl rfl | exact Or.inr rfl | omega) (by omega) (by omega) (by omega) (by omega) (by omega) (by omega) (by omega) (by omega) (by omega)
            · skip
              have c13 := mt (fa_lt _ _).mpr c13
              refine And.intro (fun _ => ?_) (fun h9 => absurd h9 (by decide))
              intro v14 ev14
              have hv14 := congrArg Int32.toInt ev14
              intro v16 ev16
              have hv16 := congrArg Int32.toInt ev16
              intro v18 ev18
              have hv18 := congrArg Int32.toInt ev18
              refine And.intro (t_in (by omega)) ?_
              intro v20 ev20
              have f21 := h_m_x p0.toNatClampNeg
              have hv20 := congrArg Int32.toInt ev20
              refine And.intro (t_in (by omega)) ?_
              intro v22 ev22
              have f24 := h_m_foot p1.toNatClampNeg
              have f23 : Int32.toInt (v20 - (m_foot p1.toNatClampNeg)) = Int32.toInt v20 - Int32.toInt (m_foot p1.toNatClampNeg) := ta_sub _ _ (by omega)
              rw [← ev22] at f23
              intro v25 ev25
              have f26 := ti_abs v22 (by omega)
              have hv25 := congrArg Int32.toInt ev25
              refine And.intro (t_in (by omega)) ?_
              intro v27 ev27
              have hv27 := congrArg Int32.toInt ev27
              refine And.intro (t_in (by omega)) ?_
              intro v28 ev28
              have f29 : Int32.toInt (v27 - (m_foot p1.toNatClampNeg)) = Int32.toInt v27 - Int32.toInt (m_foot p1.toNatClampNeg) := ta_sub _ _ (by omega)
              rw [← ev28] at f29
              intro v30 ev30
              have f31 := ti_abs v28 (by omega)
              have hv30 := congrArg Int32.toInt ev30
              intro v32 ev32
              have hv32 := congrArg Int32.toInt ev32
              refine And.intro (t_in (by omega)) ?_
              intro v34 ev34
              have f35 := h_m_height p0.toNatClampNeg
              have hv34 := congrArg Int32.toInt ev34
              refine And.intro (t_in (by omega)) ?_
              intro v36 ev36
              have f38 := h_m_fork p1.toNatClampNeg
              have f37 : Int32.toInt (v34 - (m_fork p1.toNatClampNeg)) = Int32.toInt v34 - Int32.toInt (m_fork p1.toNatClampNeg) := ta_sub _ _ (by omega)
              rw [← ev36] at f37
              intro v39 ev39
              have f40 := ti_max (0 : Int32) v36
              have hv39 := congrArg Int32.toInt ev39
              refine And.intro (t_in (by omega)) ?_
              intro v41 ev41
              have hv41 := congrArg Int32.toInt ev41
              refine And.intro (t_in (by omega)) ?_
              intro v42 ev42
              have f43 : Int32.toInt (v41 - (m_fork p1.toNatClampNeg)) = Int32.toInt v41 - Int32.toInt (m_fork p1.toNatClampNeg) := ta_sub _ _ (by omega)
              rw [← ev42] at f43
              intro v44 ev44
              have f45 := ti_max (0 : Int32) v42
              have hv44 := congrArg Int32.toInt ev44
              intro v46 ev46
              have hv46 := congrArg Int32.toInt ev46
              have f49 := tp_r v46
              refine And.intro (fun c48 => ?_) (fun c48 => ?_)
              · skip
                have c48 := (fa_lt _ _).mp c48
                refine And.intro (fun _ => ?_) (fun h9 => absurd h9 (by decide))
                exact hpost _ _ _ _ _ _ _ _ _ _ _ _ (by omega) (by omega) (by first | exact h_m_read | exact Or.inl rfl | exact Or.inr rfl | omega) (by omega) (by omega) (by omega) (by omega) (by omega) (by omega) (by omega) (by omega) (by omega)
              · skip
                have c48 := mt (fa_lt _ _).mpr c48
                refine And.intro (fun h9 => absurd h9 (by decide)) (fun _ => ?_)
                refine t_X10_secondsOf (by omega) (by omega) (by omega) (by omega) (by first | exact h_m_read | exact Or.inl rfl | exact Or.inr rfl | omega) (by omega) (by omega) (by omega) (by omega) (by omega) (by omega) (by omega) (by omega) (by omega) (by omega) (fun k => by have q9 := h_m_x k; omega) (fun k => by have q9 := h_m_height k; omega) (fun k => by have q9 := h_m_worth k; omega) (fun k => by have q9 := h_m_foot k; omega) (fun k => by have q9 := h_m_fork k; omega) (fun k => by have q9 := h_m_text k; omega) (fun k => by have q9 := h_m_rule k; omega) (fun r61 m_read_51 m_length_52 m_top_53 m_at_54 m_wrong_55 m_isAsked_56 m_askedFruit_57 m_askedStanding_58 m_askedHook_59 m_askedApron_60 h_r61 h_m_read_51 h_m_length_52 h_m_top_53 h_m_at_54 h_m_wrong_55 h_m_isAsked_56 h_m_askedFruit_57 h_m_askedStanding_58 h_m_askedHook_59 h_m_askedApron_60 => ?_)
                exact hpost _ _ _ _ _ _ _ _ _ _ _ _ (by omega) (by omega) (by first | exact h_m_read | exact Or.inl rfl | exact Or.inr rfl | omega) (by omega) (by omega) (by omega) (by omega) (by omega) (by omega) (by omega) (by omega) (by omega)
set_option maxHeartbeats 8000000 in
set_option maxRecDepth 200000 in
theorem ts_X10_handOf_31 {post : Int32 → Prop} {K4 : Int32 → Int32 → Int32 → Prop} {n4 : Int} (m_standings : Int32) (m_hand : Nat → Int32) (h_m_standings : 0 ≤ Int32.toInt m_standings ∧ Int32.toInt m_standings ≤ 8) (h_m_hand : ∀ k : Nat, 0 ≤ Int32.toInt (m_hand k) ∧ Int32.toInt (m_hand k) ≤ 65535) (hpost : ∀ (r : Int32) , (0 ≤ Int32.toInt r ∧ Int32.toInt r ≤ 65535) → post r) (hK4 : ∀ (x1 : Int32) (x2 : Int32) (x3 : Int32), (0 ≤ Int32.toInt x1 ∧ Int32.toInt x1 ≤ 255) → (0 ≤ Int32.toInt x2 ∧ Int32.toInt x2 ≤ 65535) → (0 ≤ Int32.toInt x3 ∧ Int32.toInt x3 ≤ 8) → (8 - Int32.toInt x3 < n4) → K4 x1 x2 x3) (x1 : Int32) (x3 : Int32) (k0 : Int32) (k1 : Int32) (h_x1 : 0 ≤ Int32.toInt x1 ∧ Int32.toInt x1 ≤ 255) (h_x3 : 0 ≤ Int32.toInt x3 ∧ Int32.toInt x3 ≤ 7) (h_k0 : 0 ≤ Int32.toInt k0 ∧ Int32.toInt k0 ≤ 65535) (h_k1 : 0 ≤ Int32.toInt k1 ∧ Int32.toInt k1 ≤ 65535) (hn4 : 8 - Int32.toInt x3 ≤ n4) : ws_X10_handOf_31 post K4 m_standings m_hand x1 x3 k0 k1 := by
  have l0 : Int32.toInt (1 : Int32) = 1 := (by decide)
  intro v1 ev1
  have f2 := ti_or 16 65536 k0 k1 (by decide) (by omega) (by omega)
  have hv1 := congrArg Int32.toInt ev1
  intro v3 ev3
  have f4 : Int32.toInt (x3 + 1) = Int32.toInt x3 + Int32.toInt (1 : Int32) := ta_add _ _ (by omega)
  rw [← ev3] at f4
  exact hK4 x1 v1 v3 (by omega) (by omega) (by omega) (by omega)
set_option maxHeartbeats 8000000 in
set_option maxRecDepth 200000 in
theorem ts_X10_handOf_4 {post : Int32 → Prop} {next : Int32 → Int32 → Int32 → Prop} {n4 : Int} (m_standings : Int32) (m_hand : Nat → Int32) (h_m_standings : 0 ≤ Int32.toInt m_standings ∧ Int32.toInt m_standings ≤ 8) (h_m_hand : ∀ k : Nat, 0 ≤ Int32.toInt (m_hand k) ∧ Int32.toInt (m_hand k) ≤ 65535) (hpost : ∀ (r : Int32) , (0 ≤ Int32.toInt r ∧ Int32.toInt r ≤ 65535) → post r) (hKn : ∀ (x1 : Int32) (x2 : Int32) (x3 : Int32), (0 ≤ Int32.toInt x1 ∧ Int32.toInt x1 ≤ 255) → (0 ≤ Int32.toInt x2 ∧ Int32.toInt x2 ≤ 65535) → (0 ≤ Int32.toInt x3 ∧ Int32.toInt x3 ≤ 8) → (8 - Int32.toInt x3 < n4) → next x1 x2 x3) (x1 : Int32) (x2 : Int32) (x3 : Int32) (h_x1 : 0 ≤ Int32.toInt x1 ∧ Int32.toInt x1 ≤ 255) (h_x2 : 0 ≤ Int32.toInt x2 ∧ Int32.toInt x2 ≤ 65535) (h_x3 : 0 ≤ Int32.toInt x3 ∧ Int32.toInt x3 ≤ 8) (hn4 : 8 - Int32.toInt x3 ≤ n4) : ws_X10_handOf_4 post next m_standings m_hand x1 x2 x3 := by
  have l0 : Int32.toInt (0 : Int32) = 0 := (by decide)
  have l1 : Int32.toInt (1 : Int32) = 1 := (by decide)
  refine And.intro (fun c5 => ?_) (fun c5 => ?_)
  · skip
    have c5 := (fa_le _ _).mp c5
    exact hpost _ (by omega)
  · skip
    have c5 := mt (fa_le _ _).mpr c5
    intro v6 ev6
    have f7 := ti_shr x1 x3 (by omega)
    have hv6 := congrArg Int32.toInt ev6
    intro v8 ev8
    have f9 := ti_andr v6 1 (by omega)
    have f10 := ti_andl v6 1 (by omega)
    have hv8 := congrArg Int32.toInt ev8
    refine And.intro (fun c11 => ?_) (fun c11 => ?_)
    · skip
      have c11 := mt (fa_eq _ _).mpr c11
      refine And.intro (fun _ => ?_) (fun h9 => absurd h9 (by decide))
      exact ts_X10_handOf_31 m_standings m_hand h_m_standings h_m_hand hpost hKn x1 x3 x2 0 (by omega) (by omega) (by omega) (by omega) (by omega)
    · skip
      have c11 := (fa_eq _ _).mp c11
      refine And.intro (fun h9 => absurd h9 (by decide)) (fun _ => ?_)
      refine And.intro (t_in (by omega)) ?_
      intro v12 ev12
      have f13 := h_m_hand x3.toNatClampNeg
      have hv12 := congrArg Int32.toInt ev12
      exact ts_X10_handOf_31 m_standings m_hand h_m_standings h_m_hand hpost hKn x1 x3 x2 v12 (by omega) (by omega) (by omega) (by omega) (by omega)
set_option maxHeartbeats 8000000 in
set_option maxRecDepth 200000 in
theorem tb_X10_handOf_4 {post : Int32 → Prop} (m_standings : Int32) (m_hand : Nat → Int32) (h_m_standings : 0 ≤ Int32.toInt m_standings ∧ Int32.toInt m_standings ≤ 8) (h_m_hand : ∀ k : Nat, 0 ≤ Int32.toInt (m_hand k) ∧ Int32.toInt (m_hand k) ≤ 65535) (hpost : ∀ (r : Int32) , (0 ≤ Int32.toInt r ∧ Int32.toInt r ≤ 65535) → post r) : ∀ (n : Nat) (x1 : Int32) (x2 : Int32) (x3 : Int32), (0 ≤ Int32.toInt x1 ∧ Int32.toInt x1 ≤ 255) → (0 ≤ Int32.toInt x2 ∧ Int32.toInt x2 ≤ 65535) → (0 ≤ Int32.toInt x3 ∧ Int32.toInt x3 ≤ 8) → (8 - Int32.toInt x3 < (n : Int)) → wb_X10_handOf_4 post m_standings m_hand n x1 x2 x3 := by
  intro n
  induction n with
  | zero =>
    intro x1 x2 x3 h_x1 h_x2 h_x3 hm
    exfalso; omega
  | succ n ih =>
    intro x1 x2 x3 h_x1 h_x2 h_x3 hm
    exact ts_X10_handOf_4 m_standings m_hand h_m_standings h_m_hand hpost ih x1 x2 x3 h_x1 h_x2 h_x3 (by omega)
set_option maxHeartbeats 8000000 in
set_option maxRecDepth 200000 in
theorem t_X10_handOf {post : Int32 → Prop} {p0 : Int32} {m_standings : Int32} {m_hand : Nat → Int32} (h_p0 : 0 ≤ Int32.toInt p0 ∧ Int32.toInt p0 ≤ 255) (h_m_standings : 0 ≤ Int32.toInt m_standings ∧ Int32.toInt m_standings ≤ 8) (h_m_hand : ∀ k : Nat, 0 ≤ Int32.toInt (m_hand k) ∧ Int32.toInt (m_hand k) ≤ 65535) (hpost : ∀ (r : Int32) , (0 ≤ Int32.toInt r ∧ Int32.toInt r ≤ 65535) → post r) : wp_X10_handOf post p0 m_standings m_hand := by
  have l0 : Int32.toInt (0 : Int32) = 0 := (by decide)
  exact ⟨10, tb_X10_handOf_4 m_standings m_hand h_m_standings h_m_hand hpost _ p0 0 0 (by omega) (by omega) (by omega) (by omega)⟩
set_option maxHeartbeats 8000000 in
set_option maxRecDepth 200000 in
theorem ts_X10_layHands__2 {post : Int32 → (Nat → Int32) → Prop} {SB : Int} {next : Int32 → Int32 → Int32 → (Nat → Int32) → Prop} {n2 : Int} (m_fruits : Int32) (m_standings : Int32) (m_now : Nat → Int32) (m_x : Nat → Int32) (m_height : Nat → Int32) (m_ripe : Nat → Int32) (m_foot : Nat → Int32) (m_fork : Nat → Int32) (m_told : Nat → Int32) (h_m_fruits : 0 ≤ Int32.toInt m_fruits ∧ Int32.toInt m_fruits ≤ 16) (h_m_standings : 0 ≤ Int32.toInt m_standings ∧ Int32.toInt m_standings ≤ 8) (e0_m_now : ∀ k : Nat, k = 17 → -1 ≤ Int32.toInt (m_now k) ∧ Int32.toInt (m_now k) ≤ SB) (e1_m_now : ∀ k : Nat, k = 19 → 0 ≤ Int32.toInt (m_now k) ∧ Int32.toInt (m_now k) ≤ 9) (h_m_x : ∀ k : Nat, 0 ≤ Int32.toInt (m_x k) ∧ Int32.toInt (m_x k) ≤ 99) (h_m_height : ∀ k : Nat, 0 ≤ Int32.toInt (m_height k) ∧ Int32.toInt (m_height k) ≤ 99) (h_m_ripe : ∀ k : Nat, 0 ≤ Int32.toInt (m_ripe k) ∧ Int32.toInt (m_ripe k) ≤ 9) (h_m_foot : ∀ k : Nat, 0 ≤ Int32.toInt (m_foot k) ∧ Int32.toInt (m_foot k) ≤ 99) (h_m_fork : ∀ k : Nat, 0 ≤ Int32.toInt (m_fork k) ∧ Int32.toInt (m_fork k) ≤ 99) (e0_m_told : ∀ k : Nat, k = 4 → 1 ≤ Int32.toInt (m_told k) ∧ Int32.toInt (m_told k) ≤ 30) (e1_m_told : ∀ k : Nat, k = 3 → 0 ≤ Int32.toInt (m_told k) ∧ Int32.toInt (m_told k) ≤ 9) (hc0 : -1 ≤ SB ∧ SB ≤ 7) (hc1 : (Int32.toInt m_standings ≤ 0 ∧ SB = 0) ∨ (1 ≤ Int32.toInt m_standings ∧ SB = Int32.toInt m_standings - 1)) (hpost : ∀ (m_wanted' : Int32) (m_hand' : Nat → Int32), (0 ≤ Int32.toInt m_wanted' ∧ Int32.toInt m_wanted' ≤ 65535) → (∀ k : Nat, 0 ≤ Int32.toInt (m_hand' k) ∧ Int32.toInt (m_hand' k) ≤ 65535) → post m_wanted' m_hand') (hKn : ∀ (x1 : Int32) (x2 : Int32) (m_wanted : Int32) (m_hand : Nat → Int32), (0 ≤ Int32.toInt x2 ∧ Int32.toInt x2 ≤ 8) → (0 ≤ Int32.toInt m_wanted ∧ Int32.toInt m_wanted ≤ 65535) → (∀ k : Nat, 0 ≤ Int32.toInt (m_hand k) ∧ Int32.toInt (m_hand k) ≤ 65535) → (8 - Int32.toInt x2 < n2) → next x1 x2 m_wanted m_hand) (x1 : Int32) (x2 : Int32) (m_wanted : Int32) (m_hand : Nat → Int32) (h_x2 : 0 ≤ Int32.toInt x2 ∧ Int32.toInt x2 ≤ 8) (h_m_wanted : 0 ≤ Int32.toInt m_wanted ∧ Int32.toInt m_wanted ≤ 65535) (h_m_hand : ∀ k : Nat, 0 ≤ Int32.toInt (m_hand k) ∧ Int32.toInt (m_hand k) ≤ 65535) (hn2 : 8 - Int32.toInt x2 ≤ n2) : ws_X10_layHands__2 post next m_fruits m_standings m_now m_x m_height m_ripe m_foot m_fork m_told x1 x2 m_wanted m_hand := by
  have l0 : Int32.toInt (0 : Int32) = 0 := (by decide)
  have l1 : Int32.toInt (1 : Int32) = 1 := (by decide)
  have l2 : Int32.toInt (19 : Int32) = 19 := (by decide)
  refine And.intro (fun c1 => ?_) (fun c1 => ?_)
  · skip
    have c1 := (fa_le _ _).mp c1
    refine t_X10_which (by omega) (by omega) e0_m_now e1_m_now (by omega) (fun r2 h_r2 ox3 => ?_)
    have q4 := e1_m_now (19 : Int32).toNatClampNeg (by have e9 : (19 : Int32).toNatClampNeg = (Int32.toInt (19 : Int32)).toNat := rfl; omega)
    intro v5 ev5
    have hv5 := congrArg Int32.toInt ev5
    refine t_X10_ripeOnes (by omega) (by omega) (fun k => by have q9 := h_m_ripe k; omega) (fun r7 h_r7 ox8 => ?_)
    intro v9 ev9
    have f10 := ti_andr r2 r7 (by omega)
    have f11 := ti_andl r2 r7 (by omega)
    have hv9 := congrArg Int32.toInt ev9
    intro v12 ev12
    have f13 := ti_shl1 8 256 m_standings (by decide) (by omega)
    have hv12 := congrArg Int32.toInt ev12
    have f15 : Int32.toInt (v12 - 1) = Int32.toInt v12 - Int32.toInt (1 : Int32) := ta_sub _ _ (by omega)
    refine t_X10_handOf (by omega) (by omega) (fun k => by have q9 := h_m_hand k; omega) (fun r14 h_r14 => ?_)
    intro v16 ev16
    have f17 := ti_andr v9 r14 (by omega)
    have f18 := ti_andl v9 r14 (by omega)
    have hv16 := congrArg Int32.toInt ev16
    exact hpost _ _ (by omega) (fun k => by have q9 := h_m_hand k; omega)
  · skip
    have c1 := mt (fa_le _ _).mpr c1
    refine t_X10_reachedFrom (by omega) (by omega) (by omega) (fun k => by have q9 := h_m_x k; omega) (fun k => by have q9 := h_m_height k; omega) (fun k => by have q9 := h_m_foot k; omega) (fun k => by have q9 := h_m_fork k; omega) e0_m_told e1_m_told (fun r19 h_r19 => ?_)
    refine And.intro (t_in (by omega)) ?_
    have a20 : ∀ k : Nat, 0 ≤ Int32.toInt ((upd m_hand x2.toNatClampNeg r19) k) ∧ Int32.toInt ((upd m_hand x2.toNatClampNeg r19) k) ≤ 65535 := t_upd (fun k => by have q9 := h_m_hand k; omega) (by omega)
    intro v21 ev21
    have f22 : Int32.toInt (x2 + 1) = Int32.toInt x2 + Int32.toInt (1 : Int32) := ta_add _ _ (by omega)
    rw [← ev21] at f22
    have f23 := tp_r x1
    exact hKn x1 v21 m_wanted (upd m_hand x2.toNatClampNeg r19) (by omega) (by omega) (fun k => by have q9 := a20 k; omega) (by omega)
set_option maxHeartbeats 8000000 in
set_option maxRecDepth 200000 in
theorem tb_X10_layHands__2 {post : Int32 → (Nat → Int32) → Prop} {SB : Int} (m_fruits : Int32) (m_standings : Int32) (m_now : Nat → Int32) (m_x : Nat → Int32) (m_height : Nat → Int32) (m_ripe : Nat → Int32) (m_foot : Nat → Int32) (m_fork : Nat → Int32) (m_told : Nat → Int32) (h_m_fruits : 0 ≤ Int32.toInt m_fruits ∧ Int32.toInt m_fruits ≤ 16) (h_m_standings : 0 ≤ Int32.toInt m_standings ∧ Int32.toInt m_standings ≤ 8) (e0_m_now : ∀ k : Nat, k = 17 → -1 ≤ Int32.toInt (m_now k) ∧ Int32.toInt (m_now k) ≤ SB) (e1_m_now : ∀ k : Nat, k = 19 → 0 ≤ Int32.toInt (m_now k) ∧ Int32.toInt (m_now k) ≤ 9) (h_m_x : ∀ k : Nat, 0 ≤ Int32.toInt (m_x k) ∧ Int32.toInt (m_x k) ≤ 99) (h_m_height : ∀ k : Nat, 0 ≤ Int32.toInt (m_height k) ∧ Int32.toInt (m_height k) ≤ 99) (h_m_ripe : ∀ k : Nat, 0 ≤ Int32.toInt (m_ripe k) ∧ Int32.toInt (m_ripe k) ≤ 9) (h_m_foot : ∀ k : Nat, 0 ≤ Int32.toInt (m_foot k) ∧ Int32.toInt (m_foot k) ≤ 99) (h_m_fork : ∀ k : Nat, 0 ≤ Int32.toInt (m_fork k) ∧ Int32.toInt (m_fork k) ≤ 99) (e0_m_told : ∀ k : Nat, k = 4 → 1 ≤ Int32.toInt (m_told k) ∧ Int32.toInt (m_told k) ≤ 30) (e1_m_told : ∀ k : Nat, k = 3 → 0 ≤ Int32.toInt (m_told k) ∧ Int32.toInt (m_told k) ≤ 9) (hc0 : -1 ≤ SB ∧ SB ≤ 7) (hc1 : (Int32.toInt m_standings ≤ 0 ∧ SB = 0) ∨ (1 ≤ Int32.toInt m_standings ∧ SB = Int32.toInt m_standings - 1)) (hpost : ∀ (m_wanted' : Int32) (m_hand' : Nat → Int32), (0 ≤ Int32.toInt m_wanted' ∧ Int32.toInt m_wanted' ≤ 65535) → (∀ k : Nat, 0 ≤ Int32.toInt (m_hand' k) ∧ Int32.toInt (m_hand' k) ≤ 65535) → post m_wanted' m_hand') : ∀ (n : Nat) (x1 : Int32) (x2 : Int32) (m_wanted : Int32) (m_hand : Nat → Int32), (0 ≤ Int32.toInt x2 ∧ Int32.toInt x2 ≤ 8) → (0 ≤ Int32.toInt m_wanted ∧ Int32.toInt m_wanted ≤ 65535) → (∀ k : Nat, 0 ≤ Int32.toInt (m_hand k) ∧ Int32.toInt (m_hand k) ≤ 65535) → (8 - Int32.toInt x2 < (n : Int)) → wb_X10_layHands__2 post m_fruits m_standings m_now m_x m_height m_ripe m_foot m_fork m_told n x1 x2 m_wanted m_hand := by
  intro n
  induction n with
  | zero =>
    intro x1 x2 m_wanted m_hand h_x2 h_m_wanted h_m_hand hm
    exfalso; omega
  | succ n ih =>
    intro x1 x2 m_wanted m_hand h_x2 h_m_wanted h_m_hand hm
    exact ts_X10_layHands__2 m_fruits m_standings m_now m_x m_height m_ripe m_foot m_fork m_told h_m_fruits h_m_standings e0_m_now e1_m_now h_m_x h_m_height h_m_ripe h_m_foot h_m_fork e0_m_told e1_m_told hc0 hc1 hpost ih x1 x2 m_wanted m_hand h_x2 h_m_wanted h_m_hand (by omega)
set_option maxHeartbeats 8000000 in
set_option maxRecDepth 200000 in
theorem t_X10_layHands_ {post : Int32 → (Nat → Int32) → Prop} {SB : Int} {p0 : Int32} {m_fruits : Int32} {m_standings : Int32} {m_wanted : Int32} {m_now : Nat → Int32} {m_x : Nat → Int32} {m_height : Nat → Int32} {m_ripe : Nat → Int32} {m_foot : Nat → Int32} {m_fork : Nat → Int32} {m_told : Nat → Int32} {m_hand : Nat → Int32} (h_m_fruits : 0 ≤ Int32.toInt m_fruits ∧ Int32.toInt m_fruits ≤ 16) (h_m_standings : 0 ≤ Int32.toInt m_standings ∧ Int32.toInt m_standings ≤ 8) (h_m_wanted : 0 ≤ Int32.toInt m_wanted ∧ Int32.toInt m_wanted ≤ 65535) (e0_m_now : ∀ k : Nat, k = 17 → -1 ≤ Int32.toInt (m_now k) ∧ Int32.toInt (m_now k) ≤ SB) (e1_m_now : ∀ k : Nat, k = 19 → 0 ≤ Int32.toInt (m_now k) ∧ Int32.toInt (m_now k) ≤ 9) (h_m_x : ∀ k : Nat, 0 ≤ Int32.toInt (m_x k) ∧ Int32.toInt (m_x k) ≤ 99) (h_m_height : ∀ k : Nat, 0 ≤ Int32.toInt (m_height k) ∧ Int32.toInt (m_height k) ≤ 99) (h_m_ripe : ∀ k : Nat, 0 ≤ Int32.toInt (m_ripe k) ∧ Int32.toInt (m_ripe k) ≤ 9) (h_m_foot : ∀ k : Nat, 0 ≤ Int32.toInt (m_foot k) ∧ Int32.toInt (m_foot k) ≤ 99) (h_m_fork : ∀ k : Nat, 0 ≤ Int32.toInt (m_fork k) ∧ Int32.toInt (m_fork k) ≤ 99) (e0_m_told : ∀ k : Nat, k = 4 → 1 ≤ Int32.toInt (m_told k) ∧ Int32.toInt (m_told k) ≤ 30) (e1_m_told : ∀ k : Nat, k = 3 → 0 ≤ Int32.toInt (m_told k) ∧ Int32.toInt (m_told k) ≤ 9) (h_m_hand : ∀ k : Nat, 0 ≤ Int32.toInt (m_hand k) ∧ Int32.toInt (m_hand k) ≤ 65535) (hc0 : -1 ≤ SB ∧ SB ≤ 7) (hc1 : (Int32.toInt m_standings ≤ 0 ∧ SB = 0) ∨ (1 ≤ Int32.toInt m_standings ∧ SB = Int32.toInt m_standings - 1)) (hpost : ∀ (m_wanted' : Int32) (m_hand' : Nat → Int32), (0 ≤ Int32.toInt m_wanted' ∧ Int32.toInt m_wanted' ≤ 65535) → (∀ k : Nat, 0 ≤ Int32.toInt (m_hand' k) ∧ Int32.toInt (m_hand' k) ≤ 65535) → post m_wanted' m_hand') : wp_X10_layHands_ post p0 m_fruits m_standings m_wanted m_now m_x m_height m_ripe m_foot m_fork m_told m_hand := by
  have l0 : Int32.toInt (0 : Int32) = 0 := (by decide)
  have f24 := tp_r p0
  exact ⟨10, tb_X10_layHands__2 m_fruits m_standings m_now m_x m_height m_ripe m_foot m_fork m_told h_m_fruits h_m_standings e0_m_now e1_m_now h_m_x h_m_height h_m_ripe h_m_foot h_m_fork e0_m_told e1_m_told hc0 hc1 hpost _ p0 0 m_wanted m_hand (by omega) (by omega) (fun k => by have q9 := h_m_hand k; omega) (by omega)⟩
set_option maxHeartbeats 8000000 in
set_option maxRecDepth 200000 in
theorem t_X10_both {post : Int32 → Int32 → Int32 → Int32 → (Nat → Int32) → (Nat → Int32) → Prop} {SB : Int} {p0 : Int32} {p1 : Int32} {m_fruits : Int32} {m_standings : Int32} {m_rowMany : Int32} {m_thrown : Int32} {m_wanted : Int32} {m_now : Nat → Int32} {m_x : Nat → Int32} {m_height : Nat → Int32} {m_ripe : Nat → Int32} {m_foot : Nat → Int32} {m_fork : Nat → Int32} {m_told : Nat → Int32} {m_row : Nat → Int32} {m_hand : Nat → Int32} (h_m_fruits : 0 ≤ Int32.toInt m_fruits ∧ Int32.toInt m_fruits ≤ 16) (h_m_standings : 0 ≤ Int32.toInt m_standings ∧ Int32.toInt m_standings ≤ 8) (h_m_rowMany : 0 ≤ Int32.toInt m_rowMany ∧ Int32.toInt m_rowMany ≤ 16) (h_m_thrown : 0 ≤ Int32.toInt m_thrown ∧ Int32.toInt m_thrown ≤ 1) (h_m_wanted : 0 ≤ Int32.toInt m_wanted ∧ Int32.toInt m_wanted ≤ 65535) (e0_m_now : ∀ k : Nat, k = 17 → -1 ≤ Int32.toInt (m_now k) ∧ Int32.toInt (m_now k) ≤ SB) (e1_m_now : ∀ k : Nat, k = 19 → 0 ≤ Int32.toInt (m_now k) ∧ Int32.toInt (m_now k) ≤ 9) (h_m_x : ∀ k : Nat, 0 ≤ Int32.toInt (m_x k) ∧ Int32.toInt (m_x k) ≤ 99) (h_m_height : ∀ k : Nat, 0 ≤ Int32.toInt (m_height k) ∧ Int32.toInt (m_height k) ≤ 99) (h_m_ripe : ∀ k : Nat, 0 ≤ Int32.toInt (m_ripe k) ∧ Int32.toInt (m_ripe k) ≤ 9) (h_m_foot : ∀ k : Nat, 0 ≤ Int32.toInt (m_foot k) ∧ Int32.toInt (m_foot k) ≤ 99) (h_m_fork : ∀ k : Nat, 0 ≤ Int32.toInt (m_fork k) ∧ Int32.toInt (m_fork k) ≤ 99) (e0_m_told : ∀ k : Nat, k = 4 → 1 ≤ Int32.toInt (m_told k) ∧ Int32.toInt (m_told k) ≤ 30) (e1_m_told : ∀ k : Nat, k = 3 → 0 ≤ Int32.toInt (m_told k) ∧ Int32.toInt (m_told k) ≤ 9) (h_m_hand : ∀ k : Nat, 0 ≤ Int32.toInt (m_hand k) ∧ Int32.toInt (m_hand k) ≤ 65535) (hc0 : -1 ≤ SB ∧ SB ≤ 7) (hc1 : (Int32.toInt m_standings ≤ 0 ∧ SB = 0) ∨ (1 ≤ Int32.toInt m_standings ∧ SB = Int32.toInt m_standings - 1)) (hpost : ∀ (r : Int32) (m_rowMany' : Int32) (m_thrown' : Int32) (m_wanted' : Int32) (m_row' : Nat → Int32) (m_hand' : Nat → Int32), (-1 ≤ Int32.toInt r ∧ Int32.toInt r ≤ 65535) → (0 ≤ Int32.toInt m_rowMany' ∧ Int32.toInt m_rowMany' ≤ 16) → (0 ≤ Int32.toInt m_thrown' ∧ Int32.toInt m_thrown' ≤ 0) → (0 ≤ Int32.toInt m_wanted' ∧ Int32.toInt m_wanted' ≤ 65535) → (∀ k : Nat, 0 ≤ Int32.toInt (m_hand' k) ∧ Int32.toInt (m_hand' k) ≤ 65535) → post r m_rowMany' m_thrown' m_wanted' m_row' m_hand') : wp_X10_both post p0 p1 m_fruits m_standings m_rowMany m_thrown m_wanted m_now m_x m_height m_ripe m_foot m_fork m_told m_row m_hand := by
  have l0 : Int32.toInt ((-1) : Int32) = -1 := (by decide)
  have l1 : Int32.toInt (0 : Int32) = 0 := (by decide)
  have l2 : Int32.toInt (1 : Int32) = 1 := (by decide)
  have l3 : Int32.toInt (18 : Int32) = 18 := (by decide)
  intro v1 ev1
  have f2 : Int32.toInt (m_standings - 1) = Int32.toInt m_standings - Int32.toInt (1 : Int32) := ta_sub _ _ (by omega)
  rw [← ev1] at f2
  have f4 := tp_r p0
  refine And.intro (fun c3 => ?_) (fun c3 => ?_)
  · skip
    have c3 := (fa_lt _ _).mp c3
    refine And.intro (t_bool (by omega)) ?_
    refine And.intro (fun _ => ?_) (fun h9 => absurd h9 (by decide))
    exact hpost _ _ _ _ _ _ (by omega) (by omega) (by omega) (by omega) (fun k => by have q9 := h_m_hand k; omega)
  · skip
    have c3 := mt (fa_lt _ _).mpr c3
    refine And.intro (fun c5 => ?_) (fun c5 => ?_)
    · skip
      have c5 := (fa_lt _ _).mp c5
      refine And.intro (t_bool (by omega)) ?_
      refine And.intro (fun _ => ?_) (fun h9 => absurd h9 (by decide))
      exact hpost _ _ _ _ _ _ (by omega) (by omega) (by omega) (by omega) (fun k => by have q9 := h_m_hand k; omega)
    · skip
      have c5 := mt (fa_lt _ _).mpr c5
      refine And.intro (t_bool (by omega)) ?_
      refine And.intro (fun h9 => absurd h9 (by decide)) (fun _ => ?_)
      intro v6 ev6
      have hv6 := congrArg Int32.toInt (ev6.trans ev1.symm)
      have f8 := tp_r p1
      refine And.intro (fun c7 => ?_) (fun c7 => ?_)
      · skip
        have c7 := (fa_lt _ _).mp c7
        refine And.intro (t_bool (by omega)) ?_
        refine And.intro (fun _ => ?_) (fun h9 => absurd h9 (by decide))
        exact hpost _ _ _ _ _ _ (by omega) (by omega) (by omega) (by omega) (fun k => by have q9 := h_m_hand k; omega)
      · skip
        have c7 := mt (fa_lt _ _).mpr c7
        refine And.intro (fun c9 => ?_) (fun c9 => ?_)
        · skip
          have c9 := (fa_lt _ _).mp c9
          refine And.intro (t_bool (by omega)) ?_
          refine And.intro (fun _ => ?_) (fun h9 => absurd h9 (by decide))
          exact hpost _ _ _ _ _ _ (by omega) (by omega) (by omega) (by omega) (fun k => by have q9 := h_m_hand k; omega)
        · skip
          have c9 := mt (fa_lt _ _).mpr c9
          refine And.intro (t_bool (by omega)) ?_
          refine And.intro (fun h9 => absurd h9 (by decide)) (fun _ => ?_)
          refine And.intro (fun c10 => ?_) (fun c10 => ?_)
          · skip
            have c10 := mt (fa_eq _ _).mpr c10
            intro v11 ev11
            have hv11 := congrArg Int32.toInt ev11
            refine t_X10_layHands_ (by omega) (by omega) (by omega) e0_m_now e1_m_now (fun k => by have q9 := h_m_x k; omega) (fun k => by have q9 := h_m_height k; omega) (fun k => by have q9 := h_m_ripe k; omega) (fun k => by have q9 := h_m_foot k; omega) (fun k => by have q9 := h_m_fork k; omega) e0_m_told e1_m_told (fun k => by have q9 := h_m_hand k; omega) (by omega) (by omega) (fun m_wanted_13 m_hand_14 h_m_wanted_13 h_m_hand_14 => ?_)
            refine And.intro (t_in (by omega)) ?_
            intro v15 ev15
            have f17 := h_m_hand_14 p0.toNatClampNeg
            have f16 := ti_andr m_wanted_13 (m_hand_14 p0.toNatClampNeg) (by omega)
            have f18 := ti_andl m_wanted_13 (m_hand_14 p0.toNatClampNeg) (by omega)
            have hv15 := congrArg Int32.toInt ev15
            refine And.intro (t_in (by omega)) ?_
            intro v19 ev19
            have f20 := h_m_hand_14 p1.toNatClampNeg
            have hv19 := congrArg Int32.toInt ev19
            intro v21 ev21
            have f23 := ti_andl v15 (v19 ^^^ (-1)) (by omega)
            have hv21 := congrArg Int32.toInt ev21
            refine And.intro (t_in (by omega)) ?_
            intro v24 ev24
            have f25 : Int32.toInt (0 + 1) = Int32.toInt (0 : Int32) + Int32.toInt (1 : Int32) := ta_add _ _ (by omega)
            rw [← ev24] at f25
            refine And.intro (t_in (by omega)) ?_
            intro v26 ev26
            have f27 := ti_andr m_wanted_13 (m_hand_14 p1.toNatClampNeg) (by omega)
            have f28 := ti_andl m_wanted_13 (m_hand_14 p1.toNatClampNeg) (by omega)
            have hv26 := congrArg Int32.toInt ev26
            refine And.intro (t_in (by omega)) ?_
            intro v29 ev29
            have hv29 := congrArg Int32.toInt ev29
            intro v30 ev30
            have f32 := ti_andl v26 (v29 ^^^ (-1)) (by omega)
            have hv30 := congrArg Int32.toInt ev30
            refine And.intro (t_in (by omega)) ?_
            intro v33 ev33
            have f34 : Int32.toInt (v24 + 1) = Int32.toInt v24 + Int32.toInt (1 : Int32) := ta_add _ _ (by omega)
            rw [← ev33] at f34
            refine And.intro (t_in (by omega)) ?_
            intro v35 ev35
            have hv35 := congrArg Int32.toInt ev35
            refine And.intro (t_in (by omega)) ?_
            have f36 := ti_andr v35 (m_hand_14 p1.toNatClampNeg) (by omega)
            have f37 := ti_andl v35 (m_hand_14 p1.toNatClampNeg) (by omega)
            exact hpost _ _ _ _ _ _ (by omega) (by omega) (by omega) (by omega) (fun k => by have q9 := h_m_hand_14 k; omega)
          · skip
            have c10 := (fa_eq _ _).mp c10
            exact hpost _ _ _ _ _ _ (by omega) (by omega) (by omega) (by omega) (fun k => by have q9 := h_m_hand k; omega)
set_option maxHeartbeats 8000000 in
set_option maxRecDepth 200000 in
theorem ts_X10_leanOf_2 {post : Int32 → Prop} {next : Int32 → Int32 → Int32 → Prop} {n2 : Int} (m_x : Nat → Int32) (m_height : Nat → Int32) (m_foot : Nat → Int32) (m_fork : Nat → Int32) (m_told : Nat → Int32) (h_m_x : ∀ k : Nat, 0 ≤ Int32.toInt (m_x k) ∧ Int32.toInt (m_x k) ≤ 99) (h_m_height : ∀ k : Nat, 0 ≤ Int32.toInt (m_height k) ∧ Int32.toInt (m_height k) ≤ 99) (h_m_foot : ∀ k : Nat, 0 ≤ Int32.toInt (m_foot k) ∧ Int32.toInt (m_foot k) ≤ 99) (h_m_fork : ∀ k : Nat, 0 ≤ Int32.toInt (m_fork k) ∧ Int32.toInt (m_fork k) ≤ 99) (e0_m_told : ∀ k : Nat, k = 4 → 1 ≤ Int32.toInt (m_told k) ∧ Int32.toInt (m_told k) ≤ 30) (e1_m_told : ∀ k : Nat, k = 3 → 0 ≤ Int32.toInt (m_told k) ∧ Int32.toInt (m_told k) ≤ 9) (hpost : ∀ (r : Int32) , (0 ≤ Int32.toInt r ∧ Int32.toInt r ≤ 31) → post r) (hKn : ∀ (x1 : Int32) (x2 : Int32) (x3 : Int32), (0 ≤ Int32.toInt x1 ∧ Int32.toInt x1 ≤ 15) → (0 ≤ Int32.toInt x2 ∧ Int32.toInt x2 ≤ 7) → (0 ≤ Int32.toInt x3 ∧ Int32.toInt x3 ≤ 31) → (31 - Int32.toInt x3 < n2) → next x1 x2 x3) (x1 : Int32) (x2 : Int32) (x3 : Int32) (h_x1 : 0 ≤ Int32.toInt x1 ∧ Int32.toInt x1 ≤ 15) (h_x2 : 0 ≤ Int32.toInt x2 ∧ Int32.toInt x2 ≤ 7) (h_x3 : 0 ≤ Int32.toInt x3 ∧ Int32.toInt x3 ≤ 31) (hn2 : 31 - Int32.toInt x3 ≤ n2) : ws_X10_leanOf_2 post next m_x m_height m_foot m_fork m_told x1 x2 x3 := by
  have l0 : Int32.toInt (0 : Int32) = 0 := (by decide)
  have l1 : Int32.toInt (1 : Int32) = 1 := (by decide)
  have l2 : Int32.toInt (30 : Int32) = 30 := (by decide)
  refine And.intro (fun c1 => ?_) (fun c1 => ?_)
  · skip
    have c1 := (fa_lt _ _).mp c1
    exact hpost _ (by omega)
  · skip
    have c1 := mt (fa_lt _ _).mpr c1
    intro v2 ev2
    have hv2 := congrArg Int32.toInt ev2
    intro v4 ev4
    have hv4 := congrArg Int32.toInt ev4
    refine And.intro (t_in (by omega)) ?_
    intro v6 ev6
    have f7 := h_m_x x1.toNatClampNeg
    have hv6 := congrArg Int32.toInt ev6
    refine And.intro (t_in (by omega)) ?_
    intro v8 ev8
    have f10 := h_m_foot x2.toNatClampNeg
    have f9 : Int32.toInt (v6 - (m_foot x2.toNatClampNeg)) = Int32.toInt v6 - Int32.toInt (m_foot x2.toNatClampNeg) := ta_sub _ _ (by omega)
    rw [← ev8] at f9
    intro v11 ev11
    have f12 := ti_abs v8 (by omega)
    have hv11 := congrArg Int32.toInt ev11
    refine And.intro (t_in (by omega)) ?_
    intro v13 ev13
    have hv13 := congrArg Int32.toInt ev13
    refine And.intro (t_in (by omega)) ?_
    intro v14 ev14
    have f15 : Int32.toInt (v13 - (m_foot x2.toNatClampNeg)) = Int32.toInt v13 - Int32.toInt (m_foot x2.toNatClampNeg) := ta_sub _ _ (by omega)
    rw [← ev14] at f15
    intro v16 ev16
    have f17 := ti_abs v14 (by omega)
    have hv16 := congrArg Int32.toInt ev16
    intro v18 ev18
    have hv18 := congrArg Int32.toInt ev18
    refine And.intro (t_in (by omega)) ?_
    intro v20 ev20
    have f21 := h_m_height x1.toNatClampNeg
    have hv20 := congrArg Int32.toInt ev20
    refine And.intro (t_in (by omega)) ?_
    intro v22 ev22
    have f24 := h_m_fork x2.toNatClampNeg
    have f23 : Int32.toInt (v20 - (m_fork x2.toNatClampNeg)) = Int32.toInt v20 - Int32.toInt (m_fork x2.toNatClampNeg) := ta_sub _ _ (by omega)
    rw [← ev22] at f23
    intro v25 ev25
    have f26 := ti_max (0 : Int32) v22
    have hv25 := congrArg Int32.toInt ev25
    refine And.intro (t_in (by omega)) ?_
    intro v27 ev27
    have hv27 := congrArg Int32.toInt ev27
    refine And.intro (t_in (by omega)) ?_
    intro v28 ev28
    have f29 : Int32.toInt (v27 - (m_fork x2.toNatClampNeg)) = Int32.toInt v27 - Int32.toInt (m_fork x2.toNatClampNeg) := ta_sub _ _ (by omega)
    rw [← ev28] at f29
    intro v30 ev30
    have f31 := ti_max (0 : Int32) v28
    have hv30 := congrArg Int32.toInt ev30
    intro v32 ev32
    have hv32 := congrArg Int32.toInt ev32
    have f35 := tp_r v32
    refine And.intro (fun c34 => ?_) (fun c34 => ?_)
    · skip
      have c34 := (fa_lt _ _).mp c34
      refine And.intro (fun h9 => absurd h9 (by decide)) (fun _ => ?_)
      intro v37 ev37
      have f38 : Int32.toInt (x3 + 1) = Int32.toInt x3 + Int32.toInt (1 : Int32) := ta_add _ _ (by omega)
      rw [← ev37] at f38
      exact hKn x1 x2 v37 (by omega) (by omega) (by omega) (by omega)
    · skip
      have c34 := mt (fa_lt _ _).mpr c34
      refine And.intro (fun _ => ?_) (fun h9 => absurd h9 (by decide))
      exact hpost _ (by omega)
set_option maxHeartbeats 8000000 in
set_option maxRecDepth 200000 in
theorem tb_X10_leanOf_2 {post : Int32 → Prop} (m_x : Nat → Int32) (m_height : Nat → Int32) (m_foot : Nat → Int32) (m_fork : Nat → Int32) (m_told : Nat → Int32) (h_m_x : ∀ k : Nat, 0 ≤ Int32.toInt (m_x k) ∧ Int32.toInt (m_x k) ≤ 99) (h_m_height : ∀ k : Nat, 0 ≤ Int32.toInt (m_height k) ∧ Int32.toInt (m_height k) ≤ 99) (h_m_foot : ∀ k : Nat, 0 ≤ Int32.toInt (m_foot k) ∧ Int32.toInt (m_foot k) ≤ 99) (h_m_fork : ∀ k : Nat, 0 ≤ Int32.toInt (m_fork k) ∧ Int32.toInt (m_fork k) ≤ 99) (e0_m_told : ∀ k : Nat, k = 4 → 1 ≤ Int32.toInt (m_told k) ∧ Int32.toInt (m_told k) ≤ 30) (e1_m_told : ∀ k : Nat, k = 3 → 0 ≤ Int32.toInt (m_told k) ∧ Int32.toInt (m_told k) ≤ 9) (hpost : ∀ (r : Int32) , (0 ≤ Int32.toInt r ∧ Int32.toInt r ≤ 31) → post r) : ∀ (n : Nat) (x1 : Int32) (x2 : Int32) (x3 : Int32), (0 ≤ Int32.toInt x1 ∧ Int32.toInt x1 ≤ 15) → (0 ≤ Int32.toInt x2 ∧ Int32.toInt x2 ≤ 7) → (0 ≤ Int32.toInt x3 ∧ Int32.toInt x3 ≤ 31) → (31 - Int32.toInt x3 < (n : Int)) → wb_X10_leanOf_2 post m_x m_height m_foot m_fork m_told n x1 x2 x3 := by
  intro n
  induction n with
  | zero =>
    intro x1 x2 x3 h_x1 h_x2 h_x3 hm
    exfalso; omega
  | succ n ih =>
    intro x1 x2 x3 h_x1 h_x2 h_x3 hm
    exact ts_X10_leanOf_2 m_x m_height m_foot m_fork m_told h_m_x h_m_height h_m_foot h_m_fork e0_m_told e1_m_told hpost ih x1 x2 x3 h_x1 h_x2 h_x3 (by omega)
set_option maxHeartbeats 8000000 in
set_option maxRecDepth 200000 in
theorem t_X10_leanOf {post : Int32 → Prop} {p0 : Int32} {p1 : Int32} {m_x : Nat → Int32} {m_height : Nat → Int32} {m_foot : Nat → Int32} {m_fork : Nat → Int32} {m_told : Nat → Int32} (h_p0 : 0 ≤ Int32.toInt p0 ∧ Int32.toInt p0 ≤ 15) (h_p1 : 0 ≤ Int32.toInt p1 ∧ Int32.toInt p1 ≤ 7) (h_m_x : ∀ k : Nat, 0 ≤ Int32.toInt (m_x k) ∧ Int32.toInt (m_x k) ≤ 99) (h_m_height : ∀ k : Nat, 0 ≤ Int32.toInt (m_height k) ∧ Int32.toInt (m_height k) ≤ 99) (h_m_foot : ∀ k : Nat, 0 ≤ Int32.toInt (m_foot k) ∧ Int32.toInt (m_foot k) ≤ 99) (h_m_fork : ∀ k : Nat, 0 ≤ Int32.toInt (m_fork k) ∧ Int32.toInt (m_fork k) ≤ 99) (e0_m_told : ∀ k : Nat, k = 4 → 1 ≤ Int32.toInt (m_told k) ∧ Int32.toInt (m_told k) ≤ 30) (e1_m_told : ∀ k : Nat, k = 3 → 0 ≤ Int32.toInt (m_told k) ∧ Int32.toInt (m_told k) ≤ 9) (hpost : ∀ (r : Int32) , (0 ≤ Int32.toInt r ∧ Int32.toInt r ≤ 31) → post r) : wp_X10_leanOf post p0 p1 m_x m_height m_foot m_fork m_told := by
  have l0 : Int32.toInt (0 : Int32) = 0 := (by decide)
  exact ⟨33, tb_X10_leanOf_2 m_x m_height m_foot m_fork m_told h_m_x h_m_height h_m_foot h_m_fork e0_m_told e1_m_told hpost _ p0 p1 0 (by omega) (by omega) (by omega) (by omega)⟩
set_option maxHeartbeats 8000000 in
set_option maxRecDepth 200000 in
theorem ts_X10_nearest_60 {post : Int32 → Int32 → Int32 → (Nat → Int32) → Prop} {K20 : Int32 → Int32 → Int32 → Int32 → Int32 → (Nat → Int32) → Prop} {n20 : Int} (m_fruits : Int32) (m_standings : Int32) (m_x : Nat → Int32) (m_height : Nat → Int32) (m_foot : Nat → Int32) (m_fork : Nat → Int32) (m_told : Nat → Int32) (h_m_fruits : 0 ≤ Int32.toInt m_fruits ∧ Int32.toInt m_fruits ≤ 16) (h_m_standings : 0 ≤ Int32.toInt m_standings ∧ Int32.toInt m_standings ≤ 8) (h_m_x : ∀ k : Nat, 0 ≤ Int32.toInt (m_x k) ∧ Int32.toInt (m_x k) ≤ 99) (h_m_height : ∀ k : Nat, 0 ≤ Int32.toInt (m_height k) ∧ Int32.toInt (m_height k) ≤ 99) (h_m_foot : ∀ k : Nat, 0 ≤ Int32.toInt (m_foot k) ∧ Int32.toInt (m_foot k) ≤ 99) (h_m_fork : ∀ k : Nat, 0 ≤ Int32.toInt (m_fork k) ∧ Int32.toInt (m_fork k) ≤ 99) (e0_m_told : ∀ k : Nat, k = 4 → 1 ≤ Int32.toInt (m_told k) ∧ Int32.toInt (m_told k) ≤ 30) (e1_m_told : ∀ k : Nat, k = 3 → 0 ≤ Int32.toInt (m_told k) ∧ Int32.toInt (m_told k) ≤ 9) (hpost : ∀ (r : Int32) (m_rowMany' : Int32) (m_thrown' : Int32) (m_row' : Nat → Int32), (-2 ≤ Int32.toInt r ∧ Int32.toInt r ≤ 7) → (0 ≤ Int32.toInt m_rowMany' ∧ Int32.toInt m_rowMany' ≤ 16) → (0 ≤ Int32.toInt m_thrown' ∧ Int32.toInt m_thrown' ≤ 0) → post r m_rowMany' m_thrown' m_row') (hK20 : ∀ (x1 : Int32) (x2 : Int32) (x3 : Int32) (m_rowMany : Int32) (m_thrown : Int32) (m_row : Nat → Int32), (0 ≤ Int32.toInt x1 ∧ Int32.toInt x1 ≤ 15) → (-2 ≤ Int32.toInt x2 ∧ Int32.toInt x2 ≤ 7) → (0 ≤ Int32.toInt x3 ∧ Int32.toInt x3 ≤ 8) → (0 ≤ Int32.toInt m_rowMany ∧ Int32.toInt m_rowMany ≤ 16) → (0 ≤ Int32.toInt m_thrown ∧ Int32.toInt m_thrown ≤ 0) → (8 - Int32.toInt x3 < n20) → K20 x1 x2 x3 m_rowMany m_thrown m_row) (x1 : Int32) (x2 : Int32) (x3 : Int32) (m_rowMany : Int32) (m_thrown : Int32) (m_row : Nat → Int32) (h_x1 : 0 ≤ Int32.toInt x1 ∧ Int32.toInt x1 ≤ 15) (h_x2 : -2 ≤ Int32.toInt x2 ∧ Int32.toInt x2 ≤ 7) (h_x3 : 0 ≤ Int32.toInt x3 ∧ Int32.toInt x3 ≤ 7) (h_m_rowMany : 0 ≤ Int32.toInt m_rowMany ∧ Int32.toInt m_rowMany ≤ 16) (h_m_thrown : 0 ≤ Int32.toInt m_thrown ∧ Int32.toInt m_thrown ≤ 0) (hn20 : 8 - Int32.toInt x3 ≤ n20) : ws_X10_nearest_60 post K20 m_fruits m_standings m_x m_height m_foot m_fork m_told x1 x2 x3 m_rowMany m_thrown m_row := by
  have l0 : Int32.toInt (1 : Int32) = 1 := (by decide)
  intro v1 ev1
  have f2 : Int32.toInt (x3 + 1) = Int32.toInt x3 + Int32.toInt (1 : Int32) := ta_add _ _ (by omega)
  rw [← ev1] at f2
  exact hK20 x1 x2 v1 m_rowMany m_thrown m_row (by omega) (by omega) (by omega) (by omega) (by omega) (by omega)
set_option maxHeartbeats 8000000 in
set_option maxRecDepth 200000 in
theorem ts_X10_nearest_58 {post : Int32 → Int32 → Int32 → (Nat → Int32) → Prop} {K20 : Int32 → Int32 → Int32 → Int32 → Int32 → (Nat → Int32) → Prop} {n20 : Int} (m_fruits : Int32) (m_standings : Int32) (m_x : Nat → Int32) (m_height : Nat → Int32) (m_foot : Nat → Int32) (m_fork : Nat → Int32) (m_told : Nat → Int32) (h_m_fruits : 0 ≤ Int32.toInt m_fruits ∧ Int32.toInt m_fruits ≤ 16) (h_m_standings : 0 ≤ Int32.toInt m_standings ∧ Int32.toInt m_standings ≤ 8) (h_m_x : ∀ k : Nat, 0 ≤ Int32.toInt (m_x k) ∧ Int32.toInt (m_x k) ≤ 99) (h_m_height : ∀ k : Nat, 0 ≤ Int32.toInt (m_height k) ∧ Int32.toInt (m_height k) ≤ 99) (h_m_foot : ∀ k : Nat, 0 ≤ Int32.toInt (m_foot k) ∧ Int32.toInt (m_foot k) ≤ 99) (h_m_fork : ∀ k : Nat, 0 ≤ Int32.toInt (m_fork k) ∧ Int32.toInt (m_fork k) ≤ 99) (e0_m_told : ∀ k : Nat, k = 4 → 1 ≤ Int32.toInt (m_told k) ∧ Int32.toInt (m_told k) ≤ 30) (e1_m_told : ∀ k : Nat, k = 3 → 0 ≤ Int32.toInt (m_told k) ∧ Int32.toInt (m_told k) ≤ 9) (hpost : ∀ (r : Int32) (m_rowMany' : Int32) (m_thrown' : Int32) (m_row' : Nat → Int32), (-2 ≤ Int32.toInt r ∧ Int32.toInt r ≤ 7) → (0 ≤ Int32.toInt m_rowMany' ∧ Int32.toInt m_rowMany' ≤ 16) → (0 ≤ Int32.toInt m_thrown' ∧ Int32.toInt m_thrown' ≤ 0) → post r m_rowMany' m_thrown' m_row') (hK20 : ∀ (x1 : Int32) (x2 : Int32) (x3 : Int32) (m_rowMany : Int32) (m_thrown : Int32) (m_row : Nat → Int32), (0 ≤ Int32.toInt x1 ∧ Int32.toInt x1 ≤ 15) → (-2 ≤ Int32.toInt x2 ∧ Int32.toInt x2 ≤ 7) → (0 ≤ Int32.toInt x3 ∧ Int32.toInt x3 ≤ 8) → (0 ≤ Int32.toInt m_rowMany ∧ Int32.toInt m_rowMany ≤ 16) → (0 ≤ Int32.toInt m_thrown ∧ Int32.toInt m_thrown ≤ 0) → (8 - Int32.toInt x3 < n20) → K20 x1 x2 x3 m_rowMany m_thrown m_row) (x1 : Int32) (x3 : Int32) (m_rowMany : Int32) (m_thrown : Int32) (m_row : Nat → Int32) (h_x1 : 0 ≤ Int32.toInt x1 ∧ Int32.toInt x1 ≤ 15) (h_x3 : 0 ≤ Int32.toInt x3 ∧ Int32.toInt x3 ≤ 7) (h_m_rowMany : 0 ≤ Int32.toInt m_rowMany ∧ Int32.toInt m_rowMany ≤ 16) (h_m_thrown : 0 ≤ Int32.toInt m_thrown ∧ Int32.toInt m_thrown ≤ 0) (hn20 : 8 - Int32.toInt x3 ≤ n20) : ws_X10_nearest_58 post K20 m_fruits m_standings m_x m_height m_foot m_fork m_told x1 x3 m_rowMany m_thrown m_row := by
  exact ts_X10_nearest_60 m_fruits m_standings m_x m_height m_foot m_fork m_told h_m_fruits h_m_standings h_m_x h_m_height h_m_foot h_m_fork e0_m_told e1_m_told hpost hK20 x1 x3 x3 m_rowMany m_thrown m_row (by omega) (by omega) (by omega) (by omega) (by omega) (by omega)
set_option maxHeartbeats 8000000 in
set_option maxRecDepth 200000 in
theorem ts_X10_nearest_20 {post : Int32 → Int32 → Int32 → (Nat → Int32) → Prop} {next : Int32 → Int32 → Int32 → Int32 → Int32 → (Nat → Int32) → Prop} {n20 : Int} (m_fruits : Int32) (m_standings : Int32) (m_x : Nat → Int32) (m_height : Nat → Int32) (m_foot : Nat → Int32) (m_fork : Nat → Int32) (m_told : Nat → Int32) (h_m_fruits : 0 ≤ Int32.toInt m_fruits ∧ Int32.toInt m_fruits ≤ 16) (h_m_standings : 0 ≤ Int32.toInt m_standings ∧ Int32.toInt m_standings ≤ 8) (h_m_x : ∀ k : Nat, 0 ≤ Int32.toInt (m_x k) ∧ Int32.toInt (m_x k) ≤ 99) (h_m_height : ∀ k : Nat, 0 ≤ Int32.toInt (m_height k) ∧ Int32.toInt (m_height k) ≤ 99) (h_m_foot : ∀ k : Nat, 0 ≤ Int32.toInt (m_foot k) ∧ Int32.toInt (m_foot k) ≤ 99) (h_m_fork : ∀ k : Nat, 0 ≤ Int32.toInt (m_fork k) ∧ Int32.toInt (m_fork k) ≤ 99) (e0_m_told : ∀ k : Nat, k = 4 → 1 ≤ Int32.toInt (m_told k) ∧ Int32.toInt (m_told k) ≤ 30) (e1_m_told : ∀ k : Nat, k = 3 → 0 ≤ Int32.toInt (m_told k) ∧ Int32.toInt (m_told k) ≤ 9) (hpost : ∀ (r : Int32) (m_rowMany' : Int32) (m_thrown' : Int32) (m_row' : Nat → Int32), (-2 ≤ Int32.toInt r ∧ Int32.toInt r ≤ 7) → (0 ≤ Int32.toInt m_rowMany' ∧ Int32.toInt m_rowMany' ≤ 16) → (0 ≤ Int32.toInt m_thrown' ∧ Int32.toInt m_thrown' ≤ 0) → post r m_rowMany' m_thrown' m_row') (hKn : ∀ (x1 : Int32) (x2 : Int32) (x3 : Int32) (m_rowMany : Int32) (m_thrown : Int32) (m_row : Nat → Int32), (0 ≤ Int32.toInt x1 ∧ Int32.toInt x1 ≤ 15) → (-2 ≤ Int32.toInt x2 ∧ Int32.toInt x2 ≤ 7) → (0 ≤ Int32.toInt x3 ∧ Int32.toInt x3 ≤ 8) → (0 ≤ Int32.toInt m_rowMany ∧ Int32.toInt m_rowMany ≤ 16) → (0 ≤ Int32.toInt m_thrown ∧ Int32.toInt m_thrown ≤ 0) → (8 - Int32.toInt x3 < n20) → next x1 x2 x3 m_rowMany m_thrown m_row) (x1 : Int32) (x2 : Int32) (x3 : Int32) (m_rowMany : Int32) (m_thrown : Int32) (m_row : Nat → Int32) (h_x1 : 0 ≤ Int32.toInt x1 ∧ Int32.toInt x1 ≤ 15) (h_x2 : -2 ≤ Int32.toInt x2 ∧ Int32.toInt x2 ≤ 7) (h_x3 : 0 ≤ Int32.toInt x3 ∧ Int32.toInt x3 ≤ 8) (h_m_rowMany : 0 ≤ Int32.toInt m_rowMany ∧ Int32.toInt m_rowMany ≤ 16) (h_m_thrown : 0 ≤ Int32.toInt m_thrown ∧ Int32.toInt m_thrown ≤ 0) (hn20 : 8 - Int32.toInt x3 ≤ n20) : ws_X10_nearest_20 post next m_fruits m_standings m_x m_height m_foot m_fork m_told x1 x2 x3 m_rowMany m_thrown m_row := by
  have l0 : Int32.toInt ((-2) : Int32) = -2 := (by decide)
  have l1 : Int32.toInt (0 : Int32) = 0 := (by decide)
  have l2 : Int32.toInt (1 : Int32) = 1 := (by decide)
  have l3 : Int32.toInt (30 : Int32) = 30 := (by decide)
  refine And.intro (fun c3 => ?_) (fun c3 => ?_)
  · skip
    have c3 := (fa_le _ _).mp c3
    refine And.intro (fun c4 => ?_) (fun c4 => ?_)
    · skip
      have c4 := (fa_le _ _).mp c4
      refine t_X10_leanOf (by omega) (by omega) (fun k => by have q9 := h_m_x k; omega) (fun k => by have q9 := h_m_height k; omega) (fun k => by have q9 := h_m_foot k; omega) (fun k => by have q9 := h_m_fork k; omega) e0_m_told e1_m_told (fun r5 h_r5 => ?_)
      refine And.intro (t_in (by omega)) ?_
      intro v6 ev6
      have f7 : Int32.toInt (0 + 1) = Int32.toInt (0 : Int32) + Int32.toInt (1 : Int32) := ta_add _ _ (by omega)
      rw [← ev6] at f7
      exact hpost _ _ _ _ (by omega) (by omega) (by omega)
    · skip
      have c4 := mt (fa_le _ _).mpr c4
      exact hpost _ _ _ _ (by omega) (by omega) (by omega)
  · skip
    have c3 := mt (fa_le _ _).mpr c3
    refine t_X10_leanOf (by omega) (by omega) (fun k => by have q9 := h_m_x k; omega) (fun k => by have q9 := h_m_height k; omega) (fun k => by have q9 := h_m_foot k; omega) (fun k => by have q9 := h_m_fork k; omega) e0_m_told e1_m_told (fun r8 h_r8 => ?_)
    refine And.intro (fun c9 => ?_) (fun c9 => ?_)
    · skip
      have c9 := (fa_lt _ _).mp c9
      exact ts_X10_nearest_60 m_fruits m_standings m_x m_height m_foot m_fork m_told h_m_fruits h_m_standings h_m_x h_m_height h_m_foot h_m_fork e0_m_told e1_m_told hpost hKn x1 x2 x3 m_rowMany m_thrown m_row (by omega) (by omega) (by omega) (by omega) (by omega) (by omega)
    · skip
      have c9 := mt (fa_lt _ _).mpr c9
      refine And.intro (fun c10 => ?_) (fun c10 => ?_)
      · skip
        have c10 := (fa_lt _ _).mp c10
        exact ts_X10_nearest_58 m_fruits m_standings m_x m_height m_foot m_fork m_told h_m_fruits h_m_standings h_m_x h_m_height h_m_foot h_m_fork e0_m_told e1_m_told hpost hKn x1 x3 m_rowMany m_thrown m_row (by omega) (by omega) (by omega) (by omega) (by omega)
      · skip
        have c10 := mt (fa_lt _ _).mpr c10
        refine t_X10_leanOf (by omega) (by omega) (fun k => by have q9 := h_m_x k; omega) (fun k => by have q9 := h_m_height k; omega) (fun k => by have q9 := h_m_foot k; omega) (fun k => by have q9 := h_m_fork k; omega) e0_m_told e1_m_told (fun r11 h_r11 => ?_)
        refine t_X10_leanOf (by omega) (by omega) (fun k => by have q9 := h_m_x k; omega) (fun k => by have q9 := h_m_height k; omega) (fun k => by have q9 := h_m_foot k; omega) (fun k => by have q9 := h_m_fork k; omega) e0_m_told e1_m_told (fun r12 h_r12 => ?_)
        refine And.intro (fun c13 => ?_) (fun c13 => ?_)
        · skip
          have c13 := (fa_le _ _).mp c13
          exact ts_X10_nearest_60 m_fruits m_standings m_x m_height m_foot m_fork m_told h_m_fruits h_m_standings h_m_x h_m_height h_m_foot h_m_fork e0_m_told e1_m_told hpost hKn x1 x2 x3 m_rowMany m_thrown m_row (by omega) (by omega) (by omega) (by omega) (by omega) (by omega)
        · skip
          have c13 := mt (fa_le _ _).mpr c13
          exact ts_X10_nearest_58 m_fruits m_standings m_x m_height m_foot m_fork m_told h_m_fruits h_m_standings h_m_x h_m_height h_m_foot h_m_fork e0_m_told e1_m_told hpost hKn x1 x3 m_rowMany m_thrown m_row (by omega) (by omega) (by omega) (by omega) (by omega)
set_option maxHeartbeats 8000000 in
set_option maxRecDepth 200000 in
theorem tb_X10_nearest_20 {post : Int32 → Int32 → Int32 → (Nat → Int32) → Prop} (m_fruits : Int32) (m_standings : Int32) (m_x : Nat → Int32) (m_height : Nat → Int32) (m_foot : Nat → Int32) (m_fork : Nat → Int32) (m_told : Nat → Int32) (h_m_fruits : 0 ≤ Int32.toInt m_fruits ∧ Int32.toInt m_fruits ≤ 16) (h_m_standings : 0 ≤ Int32.toInt m_standings ∧ Int32.toInt m_standings ≤ 8) (h_m_x : ∀ k : Nat, 0 ≤ Int32.toInt (m_x k) ∧ Int32.toInt (m_x k) ≤ 99) (h_m_height : ∀ k : Nat, 0 ≤ Int32.toInt (m_height k) ∧ Int32.toInt (m_height k) ≤ 99) (h_m_foot : ∀ k : Nat, 0 ≤ Int32.toInt (m_foot k) ∧ Int32.toInt (m_foot k) ≤ 99) (h_m_fork : ∀ k : Nat, 0 ≤ Int32.toInt (m_fork k) ∧ Int32.toInt (m_fork k) ≤ 99) (e0_m_told : ∀ k : Nat, k = 4 → 1 ≤ Int32.toInt (m_told k) ∧ Int32.toInt (m_told k) ≤ 30) (e1_m_told : ∀ k : Nat, k = 3 → 0 ≤ Int32.toInt (m_told k) ∧ Int32.toInt (m_told k) ≤ 9) (hpost : ∀ (r : Int32) (m_rowMany' : Int32) (m_thrown' : Int32) (m_row' : Nat → Int32), (-2 ≤ Int32.toInt r ∧ Int32.toInt r ≤ 7) → (0 ≤ Int32.toInt m_rowMany' ∧ Int32.toInt m_rowMany' ≤ 16) → (0 ≤ Int32.toInt m_thrown' ∧ Int32.toInt m_thrown' ≤ 0) → post r m_rowMany' m_thrown' m_row') : ∀ (n : Nat) (x1 : Int32) (x2 : Int32) (x3 : Int32) (m_rowMany : Int32) (m_thrown : Int32) (m_row : Nat → Int32), (0 ≤ Int32.toInt x1 ∧ Int32.toInt x1 ≤ 15) → (-2 ≤ Int32.toInt x2 ∧ Int32.toInt x2 ≤ 7) → (0 ≤ Int32.toInt x3 ∧ Int32.toInt x3 ≤ 8) → (0 ≤ Int32.toInt m_rowMany ∧ Int32.toInt m_rowMany ≤ 16) → (0 ≤ Int32.toInt m_thrown ∧ Int32.toInt m_thrown ≤ 0) → (8 - Int32.toInt x3 < (n : Int)) → wb_X10_nearest_20 post m_fruits m_standings m_x m_height m_foot m_fork m_told n x1 x2 x3 m_rowMany m_thrown m_row := by
  intro n
  induction n with
  | zero =>
    intro x1 x2 x3 m_rowMany m_thrown m_row h_x1 h_x2 h_x3 h_m_rowMany h_m_thrown hm
    exfalso; omega
  | succ n ih =>
    intro x1 x2 x3 m_rowMany m_thrown m_row h_x1 h_x2 h_x3 h_m_rowMany h_m_thrown hm
    exact ts_X10_nearest_20 m_fruits m_standings m_x m_height m_foot m_fork m_told h_m_fruits h_m_standings h_m_x h_m_height h_m_foot h_m_fork e0_m_told e1_m_told hpost ih x1 x2 x3 m_rowMany m_thrown m_row h_x1 h_x2 h_x3 h_m_rowMany h_m_thrown (by omega)
set_option maxHeartbeats 8000000 in
set_option maxRecDepth 200000 in
theorem t_X10_nearest {post : Int32 → Int32 → Int32 → (Nat → Int32) → Prop} {p0 : Int32} {m_fruits : Int32} {m_standings : Int32} {m_rowMany : Int32} {m_thrown : Int32} {m_x : Nat → Int32} {m_height : Nat → Int32} {m_foot : Nat → Int32} {m_fork : Nat → Int32} {m_told : Nat → Int32} {m_row : Nat → Int32} (h_m_fruits : 0 ≤ Int32.toInt m_fruits ∧ Int32.toInt m_fruits ≤ 16) (h_m_standings : 0 ≤ Int32.toInt m_standings ∧ Int32.toInt m_standings ≤ 8) (h_m_rowMany : 0 ≤ Int32.toInt m_rowMany ∧ Int32.toInt m_rowMany ≤ 16) (h_m_thrown : 0 ≤ Int32.toInt m_thrown ∧ Int32.toInt m_thrown ≤ 1) (h_m_x : ∀ k : Nat, 0 ≤ Int32.toInt (m_x k) ∧ Int32.toInt (m_x k) ≤ 99) (h_m_height : ∀ k : Nat, 0 ≤ Int32.toInt (m_height k) ∧ Int32.toInt (m_height k) ≤ 99) (h_m_foot : ∀ k : Nat, 0 ≤ Int32.toInt (m_foot k) ∧ Int32.toInt (m_foot k) ≤ 99) (h_m_fork : ∀ k : Nat, 0 ≤ Int32.toInt (m_fork k) ∧ Int32.toInt (m_fork k) ≤ 99) (e0_m_told : ∀ k : Nat, k = 4 → 1 ≤ Int32.toInt (m_told k) ∧ Int32.toInt (m_told k) ≤ 30) (e1_m_told : ∀ k : Nat, k = 3 → 0 ≤ Int32.toInt (m_told k) ∧ Int32.toInt (m_told k) ≤ 9) (hpost : ∀ (r : Int32) (m_rowMany' : Int32) (m_thrown' : Int32) (m_row' : Nat → Int32), (-2 ≤ Int32.toInt r ∧ Int32.toInt r ≤ 7) → (0 ≤ Int32.toInt m_rowMany' ∧ Int32.toInt m_rowMany' ≤ 16) → (0 ≤ Int32.toInt m_thrown' ∧ Int32.toInt m_thrown' ≤ 0) → post r m_rowMany' m_thrown' m_row') : wp_X10_nearest post p0 m_fruits m_standings m_rowMany m_thrown m_x m_height m_foot m_fork m_told m_row := by
  have l0 : Int32.toInt ((-1) : Int32) = -1 := (by decide)
  have l1 : Int32.toInt ((-2) : Int32) = -2 := (by decide)
  have l2 : Int32.toInt (0 : Int32) = 0 := (by decide)
  have l3 : Int32.toInt (1 : Int32) = 1 := (by decide)
  intro v14 ev14
  have f15 : Int32.toInt (m_fruits - 1) = Int32.toInt m_fruits - Int32.toInt (1 : Int32) := ta_sub _ _ (by omega)
  rw [← ev14] at f15
  have f17 := tp_r p0
  refine And.intro (fun c16 => ?_) (fun c16 => ?_)
  · skip
    have c16 := (fa_lt _ _).mp c16
    refine And.intro (t_bool (by omega)) ?_
    refine And.intro (fun h9 => absurd h9 (by decide)) (fun _ => ?_)
    exact hpost _ _ _ _ (by omega) (by omega) (by omega)
  · skip
    have c16 := mt (fa_lt _ _).mpr c16
    refine And.intro (fun c18 => ?_) (fun c18 => ?_)
    · skip
      have c18 := (fa_lt _ _).mp c18
      refine And.intro (t_bool (by omega)) ?_
      refine And.intro (fun h9 => absurd h9 (by decide)) (fun _ => ?_)
      exact hpost _ _ _ _ (by omega) (by omega) (by omega)
    · skip
      have c18 := mt (fa_lt _ _).mpr c18
      refine And.intro (t_bool (by omega)) ?_
      refine And.intro (fun _ => ?_) (fun h9 => absurd h9 (by decide))
      exact ⟨10, tb_X10_nearest_20 m_fruits m_standings m_x m_height m_foot m_fork m_told h_m_fruits h_m_standings h_m_x h_m_height h_m_foot h_m_fork e0_m_told e1_m_told hpost _ p0 (-2) 0 m_rowMany 0 m_row (by omega) (by omega) (by omega) (by omega) (by omega) (by omega)⟩
theorem t_J6_numberOfTrailingZeros_0f7a4 {post : Int32 → Prop} {p0 : Int32} (hpost : ∀ (r : Int32) , ((1 ≤ Int32.toInt p0 ∧ Int32.toInt p0 ≤ 65535) → (0 ≤ Int32.toInt r ∧ Int32.toInt r ≤ 15)) → post r) : wp_J6_numberOfTrailingZeros_0f7a4 post p0 := by
  exact f_ntz hpost
set_option maxHeartbeats 8000000 in
set_option maxRecDepth 200000 in
theorem ts_X10_cover_67 {post : Int32 → Prop} {K4 : Int32 → Int32 → Int32 → Prop} {n4 : Int} (m_standings : Int32) (m_hand : Nat → Int32) (h_m_standings : 0 ≤ Int32.toInt m_standings ∧ Int32.toInt m_standings ≤ 8) (h_m_hand : ∀ k : Nat, 0 ≤ Int32.toInt (m_hand k) ∧ Int32.toInt (m_hand k) ≤ 65535) (hpost : ∀ (r : Int32) , (-1 ≤ Int32.toInt r ∧ Int32.toInt r ≤ 255) → post r) (hK4 : ∀ (x1 : Int32) (x2 : Int32) (x3 : Int32), (0 ≤ Int32.toInt x1 ∧ Int32.toInt x1 ≤ 65535) → (-1 ≤ Int32.toInt x2 ∧ Int32.toInt x2 ≤ 255) → (0 ≤ Int32.toInt x3 ∧ Int32.toInt x3 ≤ 256) → (256 - Int32.toInt x3 < n4) → K4 x1 x2 x3) (x1 : Int32) (x2 : Int32) (x3 : Int32) (h_x1 : 0 ≤ Int32.toInt x1 ∧ Int32.toInt x1 ≤ 65535) (h_x2 : -1 ≤ Int32.toInt x2 ∧ Int32.toInt x2 ≤ 255) (h_x3 : 0 ≤ Int32.toInt x3 ∧ Int32.toInt x3 ≤ 255) (hn4 : 256 - Int32.toInt x3 ≤ n4) : ws_X10_cover_67 post K4 m_standings m_hand x1 x2 x3 := by
  have l0 : Int32.toInt (1 : Int32) = 1 := (by decide)
  intro v1 ev1
  have f2 : Int32.toInt (x3 + 1) = Int32.toInt x3 + Int32.toInt (1 : Int32) := ta_add _ _ (by omega)
  rw [← ev1] at f2
  exact hK4 x1 x2 v1 (by omega) (by omega) (by omega) (by omega)
set_option maxHeartbeats 8000000 in
set_option maxRecDepth 200000 in
theorem ts_X10_cover_65 {post : Int32 → Prop} {K4 : Int32 → Int32 → Int32 → Prop} {n4 : Int} (m_standings : Int32) (m_hand : Nat → Int32) (h_m_standings : 0 ≤ Int32.toInt m_standings ∧ Int32.toInt m_standings ≤ 8) (h_m_hand : ∀ k : Nat, 0 ≤ Int32.toInt (m_hand k) ∧ Int32.toInt (m_hand k) ≤ 65535) (hpost : ∀ (r : Int32) , (-1 ≤ Int32.toInt r ∧ Int32.toInt r ≤ 255) → post r) (hK4 : ∀ (x1 : Int32) (x2 : Int32) (x3 : Int32), (0 ≤ Int32.toInt x1 ∧ Int32.toInt x1 ≤ 65535) → (-1 ≤ Int32.toInt x2 ∧ Int32.toInt x2 ≤ 255) → (0 ≤ Int32.toInt x3 ∧ Int32.toInt x3 ≤ 256) → (256 - Int32.toInt x3 < n4) → K4 x1 x2 x3) (x1 : Int32) (x3 : Int32) (h_x1 : 0 ≤ Int32.toInt x1 ∧ Int32.toInt x1 ≤ 65535) (h_x3 : 0 ≤ Int32.toInt x3 ∧ Int32.toInt x3 ≤ 255) (hn4 : 256 - Int32.toInt x3 ≤ n4) : ws_X10_cover_65 post K4 m_standings m_hand x1 x3 := by
  exact ts_X10_cover_67 m_standings m_hand h_m_standings h_m_hand hpost hK4 x1 x3 x3 (by omega) (by omega) (by omega) (by omega)
set_option maxHeartbeats 8000000 in
set_option maxRecDepth 200000 in
theorem ts_X10_cover_45 {post : Int32 → Prop} {K4 : Int32 → Int32 → Int32 → Prop} {n4 : Int} (m_standings : Int32) (m_hand : Nat → Int32) (h_m_standings : 0 ≤ Int32.toInt m_standings ∧ Int32.toInt m_standings ≤ 8) (h_m_hand : ∀ k : Nat, 0 ≤ Int32.toInt (m_hand k) ∧ Int32.toInt (m_hand k) ≤ 65535) (hpost : ∀ (r : Int32) , (-1 ≤ Int32.toInt r ∧ Int32.toInt r ≤ 255) → post r) (hK4 : ∀ (x1 : Int32) (x2 : Int32) (x3 : Int32), (0 ≤ Int32.toInt x1 ∧ Int32.toInt x1 ≤ 65535) → (-1 ≤ Int32.toInt x2 ∧ Int32.toInt x2 ≤ 255) → (0 ≤ Int32.toInt x3 ∧ Int32.toInt x3 ≤ 256) → (256 - Int32.toInt x3 < n4) → K4 x1 x2 x3) (x1 : Int32) (x2 : Int32) (x3 : Int32) (k0 : Int32) (h_x1 : 0 ≤ Int32.toInt x1 ∧ Int32.toInt x1 ≤ 65535) (h_x2 : -1 ≤ Int32.toInt x2 ∧ Int32.toInt x2 ≤ 255) (h_x3 : 0 ≤ Int32.toInt x3 ∧ Int32.toInt x3 ≤ 255) (h_k0 : -63 ≤ Int32.toInt k0 ∧ Int32.toInt k0 ≤ 63) (hn4 : 256 - Int32.toInt x3 ≤ n4) : ws_X10_cover_45 post K4 m_standings m_hand x1 x2 x3 k0 := by
  have l0 : Int32.toInt (0 : Int32) = 0 := (by decide)
  have l1 : Int32.toInt (1 : Int32) = 1 := (by decide)
  refine And.intro (fun c3 => ?_) (fun c3 => ?_)
  · skip
    have c3 := (fa_lt _ _).mp c3
    exact ts_X10_cover_65 m_standings m_hand h_m_standings h_m_hand hpost hK4 x1 x3 (by omega) (by omega) (by omega)
  · skip
    have c3 := mt (fa_lt _ _).mpr c3
    refine And.intro (fun c4 => ?_) (fun c4 => ?_)
    · skip
      have c4 := mt (fa_eq _ _).mpr c4
      exact ts_X10_cover_67 m_standings m_hand h_m_standings h_m_hand hpost hK4 x1 x2 x3 (by omega) (by omega) (by omega) (by omega)
    · skip
      have c4 := (fa_eq _ _).mp c4
      intro v5 ev5
      refine t_J6_numberOfTrailingZeros_0f7a4  (fun r6 ox7 => ?_)
      intro v8 ev8
      have f9 := ti_shr x3 r6 (by omega)
      have hv8 := congrArg Int32.toInt ev8
      intro v10 ev10
      have f11 := ti_andr v8 1 (by omega)
      have f12 := ti_andl v8 1 (by omega)
      have hv10 := congrArg Int32.toInt ev10
      refine And.intro (fun c13 => ?_) (fun c13 => ?_)
      · skip
        have c13 := mt (fa_eq _ _).mpr c13
        refine And.intro (t_bool (by omega)) ?_
        refine And.intro (fun _ => ?_) (fun h9 => absurd h9 (by decide))
        exact ts_X10_cover_67 m_standings m_hand h_m_standings h_m_hand hpost hK4 x1 x2 x3 (by omega) (by omega) (by omega) (by omega)
      · skip
        have c13 := (fa_eq _ _).mp c13
        refine And.intro (t_bool (by omega)) ?_
        refine And.intro (fun h9 => absurd h9 (by decide)) (fun _ => ?_)
        exact ts_X10_cover_65 m_standings m_hand h_m_standings h_m_hand hpost hK4 x1 x3 (by omega) (by omega) (by omega)
set_option maxHeartbeats 8000000 in
set_option maxRecDepth 200000 in
theorem ts_X10_cover_4 {post : Int32 → Prop} {next : Int32 → Int32 → Int32 → Prop} {n4 : Int} (m_standings : Int32) (m_hand : Nat → Int32) (h_m_standings : 0 ≤ Int32.toInt m_standings ∧ Int32.toInt m_standings ≤ 8) (h_m_hand : ∀ k : Nat, 0 ≤ Int32.toInt (m_hand k) ∧ Int32.toInt (m_hand k) ≤ 65535) (hpost : ∀ (r : Int32) , (-1 ≤ Int32.toInt r ∧ Int32.toInt r ≤ 255) → post r) (hKn : ∀ (x1 : Int32) (x2 : Int32) (x3 : Int32), (0 ≤ Int32.toInt x1 ∧ Int32.toInt x1 ≤ 65535) → (-1 ≤ Int32.toInt x2 ∧ Int32.toInt x2 ≤ 255) → (0 ≤ Int32.toInt x3 ∧ Int32.toInt x3 ≤ 256) → (256 - Int32.toInt x3 < n4) → next x1 x2 x3) (x1 : Int32) (x2 : Int32) (x3 : Int32) (h_x1 : 0 ≤ Int32.toInt x1 ∧ Int32.toInt x1 ≤ 65535) (h_x2 : -1 ≤ Int32.toInt x2 ∧ Int32.toInt x2 ≤ 255) (h_x3 : 0 ≤ Int32.toInt x3 ∧ Int32.toInt x3 ≤ 256) (hn4 : 256 - Int32.toInt x3 ≤ n4) : ws_X10_cover_4 post next m_standings m_hand x1 x2 x3 := by
  have l0 : Int32.toInt ((-1) : Int32) = -1 := (by decide)
  have l1 : Int32.toInt (0 : Int32) = 0 := (by decide)
  have l2 : Int32.toInt (1 : Int32) = 1 := (by decide)
  have l3 : Int32.toInt (1431655765 : Int32) = 1431655765 := (by decide)
  have l4 : Int32.toInt (252645135 : Int32) = 252645135 := (by decide)
  have l5 : Int32.toInt (63 : Int32) = 63 := (by decide)
  have l6 : Int32.toInt (858993459 : Int32) = 858993459 := (by decide)
  intro v14 ev14
  have f15 := ti_shl1 8 256 m_standings (by decide) (by omega)
  have hv14 := congrArg Int32.toInt ev14
  have f17 : Int32.toInt (v14 - 1) = Int32.toInt v14 - Int32.toInt (1 : Int32) := ta_sub _ _ (by omega)
  refine And.intro (fun c16 => ?_) (fun c16 => ?_)
  · skip
    have c16 := (fa_lt _ _).mp c16
    exact hpost _ (by omega)
  · skip
    have c16 := mt (fa_lt _ _).mpr c16
    refine t_X10_handOf (by omega) (by omega) (fun k => by have q9 := h_m_hand k; omega) (fun r18 h_r18 => ?_)
    have f21 := ti_andl x1 (r18 ^^^ (-1)) (by omega)
    refine And.intro (fun c19 => ?_) (fun c19 => ?_)
    · skip
      have c19Z := c19
      have c19 := (fa_eq _ _).mp c19
      have s22 := ti_subset x1 r18 (c19Z) (by omega)
      refine And.intro (fun c23 => ?_) (fun c23 => ?_)
      · skip
        have c23 := mt (fa_eq _ _).mpr c23
        intro v24 ev24
        intro v25 ev25
        have f27 := ti_andr v24 1431655765 (by omega)
        have f26 : Int32.toInt (x3 - (v24 &&& 1431655765)) = Int32.toInt x3 - Int32.toInt (v24 &&& 1431655765) := ta_sub _ _ (by omega)
        rw [← ev25] at f26
        intro v28 ev28
        have f29 := ti_andr v25 858993459 (by omega)
        have hv28 := congrArg Int32.toInt ev28
        intro v30 ev30
        intro v31 ev31
        have f33 := ti_andr v30 858993459 (by omega)
        have f32 : Int32.toInt (v28 + (v30 &&& 858993459)) = Int32.toInt v28 + Int32.toInt (v30 &&& 858993459) := ta_add _ _ (by omega)
        rw [← ev31] at f32
        intro v34 ev34
        have hv34 := congrArg Int32.toInt ev34
        intro v36 ev36
        have f37 := ti_andr v34 252645135 (by omega)
        have hv36 := congrArg Int32.toInt ev36
        intro v38 ev38
        have hv38 := congrArg Int32.toInt ev38
        intro v40 ev40
        have hv40 := congrArg Int32.toInt ev40
        intro v42 ev42
        intro v43 ev43
        have f45 := ti_andr v42 1431655765 (by omega)
        have f44 : Int32.toInt (x2 - (v42 &&& 1431655765)) = Int32.toInt x2 - Int32.toInt (v42 &&& 1431655765) := ta_sub _ _ (by omega)
        rw [← ev43] at f44
        intro v46 ev46
        have f47 := ti_andr v43 858993459 (by omega)
        have hv46 := congrArg Int32.toInt ev46
        intro v48 ev48
        intro v49 ev49
        have f51 := ti_andr v48 858993459 (by omega)
        have f50 : Int32.toInt (v46 + (v48 &&& 858993459)) = Int32.toInt v46 + Int32.toInt (v48 &&& 858993459) := ta_add _ _ (by omega)
        rw [← ev49] at f50
        intro v52 ev52
        have hv52 := congrArg Int32.toInt ev52
        intro v54 ev54
        have f55 := ti_andr v52 252645135 (by omega)
        have hv54 := congrArg Int32.toInt ev54
        intro v56 ev56
        have hv56 := congrArg Int32.toInt ev56
        intro v58 ev58
        have hv58 := congrArg Int32.toInt ev58
        intro v60 ev60
        have f62 := ti_andr v40 63 (by omega)
        have f63 := ti_andr v58 63 (by omega)
        have f61 : Int32.toInt ((v40 &&& 63) - (v58 &&& 63)) = Int32.toInt (v40 &&& 63) - Int32.toInt (v58 &&& 63) := ta_sub _ _ (by omega)
        rw [← ev60] at f61
        exact ts_X10_cover_45 m_standings m_hand h_m_standings h_m_hand hpost hKn x1 x2 x3 v60 (by omega) (by omega) (by omega) (by omega) (by omega)
      · skip
        have c23 := (fa_eq _ _).mp c23
        exact ts_X10_cover_45 m_standings m_hand h_m_standings h_m_hand hpost hKn x1 x2 x3 (-1) (by omega) (by omega) (by omega) (by omega) (by omega)
    · skip
      have c19 := mt (fa_eq _ _).mpr c19
      exact ts_X10_cover_67 m_standings m_hand h_m_standings h_m_hand hpost hKn x1 x2 x3 (by omega) (by omega) (by omega) (by omega)
set_option maxHeartbeats 8000000 in
set_option maxRecDepth 200000 in
theorem tb_X10_cover_4 {post : Int32 → Prop} (m_standings : Int32) (m_hand : Nat → Int32) (h_m_standings : 0 ≤ Int32.toInt m_standings ∧ Int32.toInt m_standings ≤ 8) (h_m_hand : ∀ k : Nat, 0 ≤ Int32.toInt (m_hand k) ∧ Int32.toInt (m_hand k) ≤ 65535) (hpost : ∀ (r : Int32) , (-1 ≤ Int32.toInt r ∧ Int32.toInt r ≤ 255) → post r) : ∀ (n : Nat) (x1 : Int32) (x2 : Int32) (x3 : Int32), (0 ≤ Int32.toInt x1 ∧ Int32.toInt x1 ≤ 65535) → (-1 ≤ Int32.toInt x2 ∧ Int32.toInt x2 ≤ 255) → (0 ≤ Int32.toInt x3 ∧ Int32.toInt x3 ≤ 256) → (256 - Int32.toInt x3 < (n : Int)) → wb_X10_cover_4 post m_standings m_hand n x1 x2 x3 := by
  intro n
  induction n with
  | zero =>
    intro x1 x2 x3 h_x1 h_x2 h_x3 hm
    exfalso; omega
  | succ n ih =>
    intro x1 x2 x3 h_x1 h_x2 h_x3 hm
    exact ts_X10_cover_4 m_standings m_hand h_m_standings h_m_hand hpost ih x1 x2 x3 h_x1 h_x2 h_x3 (by omega)
set_option maxHeartbeats 8000000 in
set_option maxRecDepth 200000 in
theorem t_X10_cover {post : Int32 → Prop} {p0 : Int32} {m_standings : Int32} {m_hand : Nat → Int32} (h_p0 : 0 ≤ Int32.toInt p0 ∧ Int32.toInt p0 ≤ 65535) (h_m_standings : 0 ≤ Int32.toInt m_standings ∧ Int32.toInt m_standings ≤ 8) (h_m_hand : ∀ k : Nat, 0 ≤ Int32.toInt (m_hand k) ∧ Int32.toInt (m_hand k) ≤ 65535) (hpost : ∀ (r : Int32) , (-1 ≤ Int32.toInt r ∧ Int32.toInt r ≤ 255) → post r) : wp_X10_cover post p0 m_standings m_hand := by
  have l0 : Int32.toInt ((-1) : Int32) = -1 := (by decide)
  have l1 : Int32.toInt (0 : Int32) = 0 := (by decide)
  exact ⟨258, tb_X10_cover_4 m_standings m_hand h_m_standings h_m_hand hpost _ p0 (-1) 0 (by omega) (by omega) (by omega) (by omega)⟩
