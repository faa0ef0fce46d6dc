set_option maxHeartbeats 8000000 in
set_option maxRecDepth 200000 in
theorem ts_X10_tellCover_34 {post : Int32 → Int32 → (Nat → Int32) → Prop} {K13 : Int32 → Int32 → Int32 → (Nat → Int32) → Prop} {n13 : Int} (m_standings : Int32) (m_hand : Nat → Int32) (h_m_standings : 0 ≤ Int32.toInt m_standings ∧ Int32.toInt m_standings ≤ 8) (h_m_hand : ∀ k : Nat, 0 ≤ Int32.toInt (m_hand k) ∧ Int32.toInt (m_hand k) ≤ 65535) (hpost : ∀ (r : Int32) (m_rowMany' : Int32) (m_row' : Nat → Int32), (0 ≤ Int32.toInt r ∧ Int32.toInt r ≤ 63) → (0 ≤ Int32.toInt m_rowMany' ∧ Int32.toInt m_rowMany' ≤ 16) → post r m_rowMany' m_row') (hK13 : ∀ (x2 : Int32) (x3 : Int32) (m_rowMany : Int32) (m_row : Nat → Int32), (-1 ≤ Int32.toInt x2 ∧ Int32.toInt x2 ≤ 255) → (0 ≤ Int32.toInt x3 ∧ Int32.toInt x3 ≤ 8) → (0 ≤ Int32.toInt m_rowMany ∧ Int32.toInt m_rowMany ≤ 16) → (Int32.toInt m_rowMany ≤ Int32.toInt x3) → (8 - Int32.toInt x3 < n13) → K13 x2 x3 m_rowMany m_row) (x2 : Int32) (x3 : Int32) (m_rowMany : Int32) (m_row : Nat → Int32) (h_x2 : -1 ≤ Int32.toInt x2 ∧ Int32.toInt x2 ≤ 255) (h_x3 : 0 ≤ Int32.toInt x3 ∧ Int32.toInt x3 ≤ 7) (h_m_rowMany : 0 ≤ Int32.toInt m_rowMany ∧ Int32.toInt m_rowMany ≤ 16) (hx0 : Int32.toInt m_rowMany ≤ Int32.toInt x3 + 1) (hn13 : 8 - Int32.toInt x3 ≤ n13) : ws_X10_tellCover_34 post K13 m_standings m_hand x2 x3 m_rowMany m_row := by
  have l0 : Int32.toInt (1 : Int32) = 1 := (by decide)
  intro v1 ev1
  have f2 : Int32.toInt (x3 + 1) = Int32.toInt x3 + Int32.toInt (1 : Int32) := ta_add _ _ (by omega)
  rw [← ev1] at f2
  exact hK13 x2 v1 m_rowMany m_row (by omega) (by omega) (by omega) (by omega) (by omega)
set_option maxHeartbeats 8000000 in
set_option maxRecDepth 200000 in
theorem ts_X10_tellCover_13 {post : Int32 → Int32 → (Nat → Int32) → Prop} {next : Int32 → Int32 → Int32 → (Nat → Int32) → Prop} {n13 : Int} (m_standings : Int32) (m_hand : Nat → Int32) (h_m_standings : 0 ≤ Int32.toInt m_standings ∧ Int32.toInt m_standings ≤ 8) (h_m_hand : ∀ k : Nat, 0 ≤ Int32.toInt (m_hand k) ∧ Int32.toInt (m_hand k) ≤ 65535) (hpost : ∀ (r : Int32) (m_rowMany' : Int32) (m_row' : Nat → Int32), (0 ≤ Int32.toInt r ∧ Int32.toInt r ≤ 63) → (0 ≤ Int32.toInt m_rowMany' ∧ Int32.toInt m_rowMany' ≤ 16) → post r m_rowMany' m_row') (hKn : ∀ (x2 : Int32) (x3 : Int32) (m_rowMany : Int32) (m_row : Nat → Int32), (-1 ≤ Int32.toInt x2 ∧ Int32.toInt x2 ≤ 255) → (0 ≤ Int32.toInt x3 ∧ Int32.toInt x3 ≤ 8) → (0 ≤ Int32.toInt m_rowMany ∧ Int32.toInt m_rowMany ≤ 16) → (Int32.toInt m_rowMany ≤ Int32.toInt x3) → (8 - Int32.toInt x3 < n13) → next x2 x3 m_rowMany m_row) (x2 : Int32) (x3 : Int32) (m_rowMany : Int32) (m_row : Nat → Int32) (h_x2 : -1 ≤ Int32.toInt x2 ∧ Int32.toInt x2 ≤ 255) (h_x3 : 0 ≤ Int32.toInt x3 ∧ Int32.toInt x3 ≤ 8) (h_m_rowMany : 0 ≤ Int32.toInt m_rowMany ∧ Int32.toInt m_rowMany ≤ 16) (hx0 : Int32.toInt m_rowMany ≤ Int32.toInt x3) (hn13 : 8 - Int32.toInt x3 ≤ n13) : ws_X10_tellCover_13 post next m_standings m_hand x2 x3 m_rowMany m_row := by
  have l0 : Int32.toInt (1 : Int32) = 1 := (by decide)
  have l1 : Int32.toInt (1431655765 : Int32) = 1431655765 := (by decide)
  have l2 : Int32.toInt (252645135 : Int32) = 252645135 := (by decide)
  have l3 : Int32.toInt (63 : Int32) = 63 := (by decide)
  have l4 : Int32.toInt (858993459 : Int32) = 858993459 := (by decide)
  refine And.intro (fun c3 => ?_) (fun c3 => ?_)
  · skip
    have c3 := (fa_le _ _).mp c3
    intro v4 ev4
    intro v5 ev5
    have f7 := ti_andr v4 1431655765 (by omega)
    have f6 : Int32.toInt (x2 - (v4 &&& 1431655765)) = Int32.toInt x2 - Int32.toInt (v4 &&& 1431655765) := ta_sub _ _ (by omega)
    rw [← ev5] at f6
    intro v8 ev8
    have f9 := ti_andr v5 858993459 (by omega)
    have hv8 := congrArg Int32.toInt ev8
    intro v10 ev10
    intro v11 ev11
    have f13 := ti_andr v10 858993459 (by omega)
    have f12 : Int32.toInt (v8 + (v10 &&& 858993459)) = Int32.toInt v8 + Int32.toInt (v10 &&& 858993459) := ta_add _ _ (by omega)
    rw [← ev11] at f12
    intro v14 ev14
    have hv14 := congrArg Int32.toInt ev14
    intro v16 ev16
    have f17 := ti_andr v14 252645135 (by omega)
    have hv16 := congrArg Int32.toInt ev16
    intro v18 ev18
    have hv18 := congrArg Int32.toInt ev18
    intro v20 ev20
    have hv20 := congrArg Int32.toInt ev20
    have f22 := ti_andr v20 63 (by omega)
    exact hpost _ _ _ (by omega) (by omega)
  · skip
    have c3 := mt (fa_le _ _).mpr c3
    intro v23 ev23
    intro v24 ev24
    have f25 := ti_andr v23 1 (by omega)
    have hv24 := congrArg Int32.toInt ev24
    refine And.intro (fun c26 => ?_) (fun c26 => ?_)
    · skip
      have c26 := mt (fa_eq _ _).mpr c26
      refine And.intro (fun _ => ?_) (fun h9 => absurd h9 (by decide))
      exact ts_X10_tellCover_34 m_standings m_hand h_m_standings h_m_hand hpost hKn x2 x3 m_rowMany m_row (by omega) (by omega) (by omega) (by omega) (by omega)
    · skip
      have c26 := (fa_eq _ _).mp c26
      refine And.intro (fun h9 => absurd h9 (by decide)) (fun _ => ?_)
      refine And.intro (t_in (by omega)) ?_
      intro v27 ev27
      have f28 : Int32.toInt (m_rowMany + 1) = Int32.toInt m_rowMany + Int32.toInt (1 : Int32) := ta_add _ _ (by omega)
      rw [← ev27] at f28
      exact ts_X10_tellCover_34 m_standings m_hand h_m_standings h_m_hand hpost hKn x2 x3 v27 (upd m_row m_rowMany.toNatClampNeg x3) (by omega) (by omega) (by omega) (by omega) (by omega)
set_option maxHeartbeats 8000000 in
set_option maxRecDepth 200000 in
theorem tb_X10_tellCover_13 {post : Int32 → Int32 → (Nat → Int32) → Prop} (m_standings : Int32) (m_hand : Nat → Int32) (h_m_standings : 0 ≤ Int32.toInt m_standings ∧ Int32.toInt m_standings ≤ 8) (h_m_hand : ∀ k : Nat, 0 ≤ Int32.toInt (m_hand k) ∧ Int32.toInt (m_hand k) ≤ 65535) (hpost : ∀ (r : Int32) (m_rowMany' : Int32) (m_row' : Nat → Int32), (0 ≤ Int32.toInt r ∧ Int32.toInt r ≤ 63) → (0 ≤ Int32.toInt m_rowMany' ∧ Int32.toInt m_rowMany' ≤ 16) → post r m_rowMany' m_row') : ∀ (n : Nat) (x2 : Int32) (x3 : Int32) (m_rowMany : Int32) (m_row : Nat → Int32), (-1 ≤ Int32.toInt x2 ∧ Int32.toInt x2 ≤ 255) → (0 ≤ Int32.toInt x3 ∧ Int32.toInt x3 ≤ 8) → (0 ≤ Int32.toInt m_rowMany ∧ Int32.toInt m_rowMany ≤ 16) → (Int32.toInt m_rowMany ≤ Int32.toInt x3) → (8 - Int32.toInt x3 < (n : Int)) → wb_X10_tellCover_13 post m_standings m_hand n x2 x3 m_rowMany m_row := by
  intro n
  induction n with
  | zero =>
    intro x2 x3 m_rowMany m_row h_x2 h_x3 h_m_rowMany hx0 hm
    exfalso; omega
  | succ n ih =>
    intro x2 x3 m_rowMany m_row h_x2 h_x3 h_m_rowMany hx0 hm
    exact ts_X10_tellCover_13 m_standings m_hand h_m_standings h_m_hand hpost ih x2 x3 m_rowMany m_row h_x2 h_x3 h_m_rowMany hx0 (by omega)
set_option maxHeartbeats 8000000 in
set_option maxRecDepth 200000 in
theorem t_X10_tellCover {post : Int32 → Int32 → (Nat → Int32) → Prop} {p0 : Int32} {m_standings : Int32} {m_rowMany : Int32} {m_row : Nat → Int32} {m_hand : Nat → Int32} (h_p0 : 0 ≤ Int32.toInt p0 ∧ Int32.toInt p0 ≤ 65535) (h_m_standings : 0 ≤ Int32.toInt m_standings ∧ Int32.toInt m_standings ≤ 8) (h_m_rowMany : 0 ≤ Int32.toInt m_rowMany ∧ Int32.toInt m_rowMany ≤ 16) (h_m_hand : ∀ k : Nat, 0 ≤ Int32.toInt (m_hand k) ∧ Int32.toInt (m_hand k) ≤ 65535) (hpost : ∀ (r : Int32) (m_rowMany' : Int32) (m_row' : Nat → Int32), (0 ≤ Int32.toInt r ∧ Int32.toInt r ≤ 63) → (0 ≤ Int32.toInt m_rowMany' ∧ Int32.toInt m_rowMany' ≤ 16) → post r m_rowMany' m_row') : wp_X10_tellCover post p0 m_standings m_rowMany m_row m_hand := by
  have l0 : Int32.toInt (0 : Int32) = 0 := (by decide)
  refine t_X10_cover (by omega) (by omega) (fun k => by have q9 := h_m_hand k; omega) (fun r29 h_r29 => ?_)
  exact ⟨10, tb_X10_tellCover_13 m_standings m_hand h_m_standings h_m_hand hpost _ r29 0 0 m_row (by omega) (by omega) (by omega) (by omega) (by omega)⟩
set_option maxHeartbeats 8000000 in
set_option maxRecDepth 200000 in
theorem t_X10_fewest {post : Int32 → Int32 → Int32 → Int32 → (Nat → Int32) → (Nat → Int32) → Prop} {SB : Int} {m_fruits : Int32} {m_standings : Int32} {m_rowMany : Int32} {m_thrown : Int32} {m_wanted : Int32} {m_now : Nat → Int32} {m_x : Nat → Int32} {m_height : Nat → Int32} {m_ripe : Nat → Int32} {m_foot : Nat → Int32} {m_fork : Nat → Int32} {m_told : Nat → Int32} {m_row : Nat → Int32} {m_hand : Nat → Int32} (h_m_fruits : 0 ≤ Int32.toInt m_fruits ∧ Int32.toInt m_fruits ≤ 16) (h_m_standings : 0 ≤ Int32.toInt m_standings ∧ Int32.toInt m_standings ≤ 8) (h_m_rowMany : 0 ≤ Int32.toInt m_rowMany ∧ Int32.toInt m_rowMany ≤ 16) (h_m_thrown : 0 ≤ Int32.toInt m_thrown ∧ Int32.toInt m_thrown ≤ 1) (h_m_wanted : 0 ≤ Int32.toInt m_wanted ∧ Int32.toInt m_wanted ≤ 65535) (e0_m_now : ∀ k : Nat, k = 17 → -1 ≤ Int32.toInt (m_now k) ∧ Int32.toInt (m_now k) ≤ SB) (e1_m_now : ∀ k : Nat, k = 19 → 0 ≤ Int32.toInt (m_now k) ∧ Int32.toInt (m_now k) ≤ 9) (h_m_x : ∀ k : Nat, 0 ≤ Int32.toInt (m_x k) ∧ Int32.toInt (m_x k) ≤ 99) (h_m_height : ∀ k : Nat, 0 ≤ Int32.toInt (m_height k) ∧ Int32.toInt (m_height k) ≤ 99) (h_m_ripe : ∀ k : Nat, 0 ≤ Int32.toInt (m_ripe k) ∧ Int32.toInt (m_ripe k) ≤ 9) (h_m_foot : ∀ k : Nat, 0 ≤ Int32.toInt (m_foot k) ∧ Int32.toInt (m_foot k) ≤ 99) (h_m_fork : ∀ k : Nat, 0 ≤ Int32.toInt (m_fork k) ∧ Int32.toInt (m_fork k) ≤ 99) (e0_m_told : ∀ k : Nat, k = 4 → 1 ≤ Int32.toInt (m_told k) ∧ Int32.toInt (m_told k) ≤ 30) (e1_m_told : ∀ k : Nat, k = 3 → 0 ≤ Int32.toInt (m_told k) ∧ Int32.toInt (m_told k) ≤ 9) (h_m_hand : ∀ k : Nat, 0 ≤ Int32.toInt (m_hand k) ∧ Int32.toInt (m_hand k) ≤ 65535) (hc0 : -1 ≤ SB ∧ SB ≤ 7) (hc1 : (Int32.toInt m_standings ≤ 0 ∧ SB = 0) ∨ (1 ≤ Int32.toInt m_standings ∧ SB = Int32.toInt m_standings - 1)) (hpost : ∀ (r : Int32) (m_rowMany' : Int32) (m_thrown' : Int32) (m_wanted' : Int32) (m_row' : Nat → Int32) (m_hand' : Nat → Int32), (0 ≤ Int32.toInt r ∧ Int32.toInt r ≤ 63) → (0 ≤ Int32.toInt m_rowMany' ∧ Int32.toInt m_rowMany' ≤ 16) → (0 ≤ Int32.toInt m_thrown' ∧ Int32.toInt m_thrown' ≤ 0) → (0 ≤ Int32.toInt m_wanted' ∧ Int32.toInt m_wanted' ≤ 65535) → (∀ k : Nat, 0 ≤ Int32.toInt (m_hand' k) ∧ Int32.toInt (m_hand' k) ≤ 65535) → post r m_rowMany' m_thrown' m_wanted' m_row' m_hand') : wp_X10_fewest post m_fruits m_standings m_rowMany m_thrown m_wanted m_now m_x m_height m_ripe m_foot m_fork m_told m_row m_hand := by
  have l0 : Int32.toInt (0 : Int32) = 0 := (by decide)
  have l1 : Int32.toInt (18 : Int32) = 18 := (by decide)
  intro v1 ev1
  have hv1 := congrArg Int32.toInt ev1
  refine t_X10_layHands_ (by omega) (by omega) (by omega) e0_m_now e1_m_now (fun k => by have q9 := h_m_x k; omega) (fun k => by have q9 := h_m_height k; omega) (fun k => by have q9 := h_m_ripe k; omega) (fun k => by have q9 := h_m_foot k; omega) (fun k => by have q9 := h_m_fork k; omega) e0_m_told e1_m_told (fun k => by have q9 := h_m_hand k; omega) (by omega) (by omega) (fun m_wanted_3 m_hand_4 h_m_wanted_3 h_m_hand_4 => ?_)
  refine t_X10_tellCover (by omega) (by omega) (by omega) (fun k => by have q9 := h_m_hand_4 k; omega) (fun r7 m_rowMany_5 m_row_6 h_r7 h_m_rowMany_5 => ?_)
  exact hpost _ _ _ _ _ _ (by omega) (by omega) (by omega) (by omega) (fun k => by have q9 := h_m_hand_4 k; omega)
set_option maxHeartbeats 8000000 in
set_option maxRecDepth 200000 in
theorem ts_X10_needed_105 {post : Int32 → Int32 → Int32 → Int32 → (Nat → Int32) → (Nat → Int32) → Prop} {SB : Int} {K15 : Int32 → Int32 → Int32 → Int32 → Int32 → Int32 → (Nat → Int32) → (Nat → Int32) → Prop} {n15 : Int} (m_fruits : Int32) (m_standings : Int32) (m_now : Nat → Int32) (m_x : Nat → Int32) (m_height : Nat → Int32) (m_ripe : Nat → Int32) (m_foot : Nat → Int32) (m_fork : Nat → Int32) (m_told : Nat → Int32) (h_m_fruits : 0 ≤ Int32.toInt m_fruits ∧ Int32.toInt m_fruits ≤ 16) (h_m_standings : 0 ≤ Int32.toInt m_standings ∧ Int32.toInt m_standings ≤ 8) (e0_m_now : ∀ k : Nat, k = 17 → -1 ≤ Int32.toInt (m_now k) ∧ Int32.toInt (m_now k) ≤ SB) (e1_m_now : ∀ k : Nat, k = 19 → 0 ≤ Int32.toInt (m_now k) ∧ Int32.toInt (m_now k) ≤ 9) (h_m_x : ∀ k : Nat, 0 ≤ Int32.toInt (m_x k) ∧ Int32.toInt (m_x k) ≤ 99) (h_m_height : ∀ k : Nat, 0 ≤ Int32.toInt (m_height k) ∧ Int32.toInt (m_height k) ≤ 99) (h_m_ripe : ∀ k : Nat, 0 ≤ Int32.toInt (m_ripe k) ∧ Int32.toInt (m_ripe k) ≤ 9) (h_m_foot : ∀ k : Nat, 0 ≤ Int32.toInt (m_foot k) ∧ Int32.toInt (m_foot k) ≤ 99) (h_m_fork : ∀ k : Nat, 0 ≤ Int32.toInt (m_fork k) ∧ Int32.toInt (m_fork k) ≤ 99) (e0_m_told : ∀ k : Nat, k = 4 → 1 ≤ Int32.toInt (m_told k) ∧ Int32.toInt (m_told k) ≤ 30) (e1_m_told : ∀ k : Nat, k = 3 → 0 ≤ Int32.toInt (m_told k) ∧ Int32.toInt (m_told k) ≤ 9) (hc0 : -1 ≤ SB ∧ SB ≤ 7) (hc1 : (Int32.toInt m_standings ≤ 0 ∧ SB = 0) ∨ (1 ≤ Int32.toInt m_standings ∧ SB = Int32.toInt m_standings - 1)) (hpost : ∀ (r : Int32) (m_rowMany' : Int32) (m_thrown' : Int32) (m_wanted' : Int32) (m_row' : Nat → Int32) (m_hand' : Nat → Int32), (0 ≤ Int32.toInt r ∧ Int32.toInt r ≤ 255) → (1 ≤ Int32.toInt m_rowMany' ∧ Int32.toInt m_rowMany' ≤ 1) → (0 ≤ Int32.toInt m_thrown' ∧ Int32.toInt m_thrown' ≤ 0) → (0 ≤ Int32.toInt m_wanted' ∧ Int32.toInt m_wanted' ≤ 65535) → (∀ k : Nat, 0 ≤ Int32.toInt (m_hand' k) ∧ Int32.toInt (m_hand' k) ≤ 65535) → post r m_rowMany' m_thrown' m_wanted' m_row' m_hand') (hK15 : ∀ (x1 : Int32) (x2 : Int32) (x3 : Int32) (m_rowMany : Int32) (m_thrown : Int32) (m_wanted : Int32) (m_row : Nat → Int32) (m_hand : Nat → Int32), (0 ≤ Int32.toInt x1 ∧ Int32.toInt x1 ≤ 255) → (0 ≤ Int32.toInt x2 ∧ Int32.toInt x2 ≤ 65535) → (0 ≤ Int32.toInt x3 ∧ Int32.toInt x3 ≤ 16) → (0 ≤ Int32.toInt m_rowMany ∧ Int32.toInt m_rowMany ≤ 16) → (0 ≤ Int32.toInt m_thrown ∧ Int32.toInt m_thrown ≤ 0) → (0 ≤ Int32.toInt m_wanted ∧ Int32.toInt m_wanted ≤ 65535) → (∀ k : Nat, 0 ≤ Int32.toInt (m_hand k) ∧ Int32.toInt (m_hand k) ≤ 65535) → (16 - Int32.toInt x3 < n15) → K15 x1 x2 x3 m_rowMany m_thrown m_wanted m_row m_hand) (x1 : Int32) (x2 : Int32) (x3 : Int32) (m_rowMany : Int32) (m_thrown : Int32) (m_wanted : Int32) (m_row : Nat → Int32) (m_hand : Nat → Int32) (h_x1 : 0 ≤ Int32.toInt x1 ∧ Int32.toInt x1 ≤ 255) (h_x2 : 0 ≤ Int32.toInt x2 ∧ Int32.toInt x2 ≤ 65535) (h_x3 : 0 ≤ Int32.toInt x3 ∧ Int32.toInt x3 ≤ 15) (h_m_rowMany : 0 ≤ Int32.toInt m_rowMany ∧ Int32.toInt m_rowMany ≤ 16) (h_m_thrown : 0 ≤ Int32.toInt m_thrown ∧ Int32.toInt m_thrown ≤ 0) (h_m_wanted : 0 ≤ Int32.toInt m_wanted ∧ Int32.toInt m_wanted ≤ 65535) (h_m_hand : ∀ k : Nat, 0 ≤ Int32.toInt (m_hand k) ∧ Int32.toInt (m_hand k) ≤ 65535) (hn15 : 16 - Int32.toInt x3 ≤ n15) : ws_X10_needed_105 post K15 m_fruits m_standings m_now m_x m_height m_ripe m_foot m_fork m_told x1 x2 x3 m_rowMany m_thrown m_wanted m_row m_hand := by
  have l0 : Int32.toInt (1 : Int32) = 1 := (by decide)
  intro v1 ev1
  have f2 : Int32.toInt (x3 + 1) = Int32.toInt x3 + Int32.toInt (1 : Int32) := ta_add _ _ (by omega)
  rw [← ev1] at f2
  exact hK15 x1 x2 v1 m_rowMany m_thrown m_wanted m_row m_hand (by omega) (by omega) (by omega) (by omega) (by omega) (by omega) (fun k => by have q9 := h_m_hand k; omega) (by omega)
set_option maxHeartbeats 8000000 in
set_option maxRecDepth 200000 in
theorem ts_X10_needed_62 {post : Int32 → Int32 → Int32 → Int32 → (Nat → Int32) → (Nat → Int32) → Prop} {SB : Int} {K15 : Int32 → Int32 → Int32 → Int32 → Int32 → Int32 → (Nat → Int32) → (Nat → Int32) → Prop} {K29 : Int32 → Int32 → Int32 → Int32 → Int32 → Int32 → Int32 → Int32 → (Nat → Int32) → (Nat → Int32) → Prop} {n15 : Int} {n29 : Int} (m_fruits : Int32) (m_standings : Int32) (m_now : Nat → Int32) (m_x : Nat → Int32) (m_height : Nat → Int32) (m_ripe : Nat → Int32) (m_foot : Nat → Int32) (m_fork : Nat → Int32) (m_told : Nat → Int32) (h_m_fruits : 0 ≤ Int32.toInt m_fruits ∧ Int32.toInt m_fruits ≤ 16) (h_m_standings : 0 ≤ Int32.toInt m_standings ∧ Int32.toInt m_standings ≤ 8) (e0_m_now : ∀ k : Nat, k = 17 → -1 ≤ Int32.toInt (m_now k) ∧ Int32.toInt (m_now k) ≤ SB) (e1_m_now : ∀ k : Nat, k = 19 → 0 ≤ Int32.toInt (m_now k) ∧ Int32.toInt (m_now k) ≤ 9) (h_m_x : ∀ k : Nat, 0 ≤ Int32.toInt (m_x k) ∧ Int32.toInt (m_x k) ≤ 99) (h_m_height : ∀ k : Nat, 0 ≤ Int32.toInt (m_height k) ∧ Int32.toInt (m_height k) ≤ 99) (h_m_ripe : ∀ k : Nat, 0 ≤ Int32.toInt (m_ripe k) ∧ Int32.toInt (m_ripe k) ≤ 9) (h_m_foot : ∀ k : Nat, 0 ≤ Int32.toInt (m_foot k) ∧ Int32.toInt (m_foot k) ≤ 99) (h_m_fork : ∀ k : Nat, 0 ≤ Int32.toInt (m_fork k) ∧ Int32.toInt (m_fork k) ≤ 99) (e0_m_told : ∀ k : Nat, k = 4 → 1 ≤ Int32.toInt (m_told k) ∧ Int32.toInt (m_told k) ≤ 30) (e1_m_told : ∀ k : Nat, k = 3 → 0 ≤ Int32.toInt (m_told k) ∧ Int32.toInt (m_told k) ≤ 9) (hc0 : -1 ≤ SB ∧ SB ≤ 7) (hc1 : (Int32.toInt m_standings ≤ 0 ∧ SB = 0) ∨ (1 ≤ Int32.toInt m_standings ∧ SB = Int32.toInt m_standings - 1)) (hpost : ∀ (r : Int32) (m_rowMany' : Int32) (m_thrown' : Int32) (m_wanted' : Int32) (m_row' : Nat → Int32) (m_hand' : Nat → Int32), (0 ≤ Int32.toInt r ∧ Int32.toInt r ≤ 255) → (1 ≤ Int32.toInt m_rowMany' ∧ Int32.toInt m_rowMany' ≤ 1) → (0 ≤ Int32.toInt m_thrown' ∧ Int32.toInt m_thrown' ≤ 0) → (0 ≤ Int32.toInt m_wanted' ∧ Int32.toInt m_wanted' ≤ 65535) → (∀ k : Nat, 0 ≤ Int32.toInt (m_hand' k) ∧ Int32.toInt (m_hand' k) ≤ 65535) → post r m_rowMany' m_thrown' m_wanted' m_row' m_hand') (hK15 : ∀ (x1 : Int32) (x2 : Int32) (x3 : Int32) (m_rowMany : Int32) (m_thrown : Int32) (m_wanted : Int32) (m_row : Nat → Int32) (m_hand : Nat → Int32), (0 ≤ Int32.toInt x1 ∧ Int32.toInt x1 ≤ 255) → (0 ≤ Int32.toInt x2 ∧ Int32.toInt x2 ≤ 65535) → (0 ≤ Int32.toInt x3 ∧ Int32.toInt x3 ≤ 16) → (0 ≤ Int32.toInt m_rowMany ∧ Int32.toInt m_rowMany ≤ 16) → (0 ≤ Int32.toInt m_thrown ∧ Int32.toInt m_thrown ≤ 0) → (0 ≤ Int32.toInt m_wanted ∧ Int32.toInt m_wanted ≤ 65535) → (∀ k : Nat, 0 ≤ Int32.toInt (m_hand k) ∧ Int32.toInt (m_hand k) ≤ 65535) → (16 - Int32.toInt x3 < n15) → K15 x1 x2 x3 m_rowMany m_thrown m_wanted m_row m_hand) (hK29 : ∀ (x1 : Int32) (x2 : Int32) (x3 : Int32) (x4 : Int32) (x5 : Int32) (m_rowMany : Int32) (m_thrown : Int32) (m_wanted : Int32) (m_row : Nat → Int32) (m_hand : Nat → Int32), (0 ≤ Int32.toInt x1 ∧ Int32.toInt x1 ≤ 255) → (0 ≤ Int32.toInt x2 ∧ Int32.toInt x2 ≤ 65535) → (0 ≤ Int32.toInt x3 ∧ Int32.toInt x3 ≤ 15) → (0 ≤ Int32.toInt x4 ∧ Int32.toInt x4 ≤ 255) → (0 ≤ Int32.toInt x5 ∧ Int32.toInt x5 ≤ 8) → (0 ≤ Int32.toInt m_rowMany ∧ Int32.toInt m_rowMany ≤ 16) → (0 ≤ Int32.toInt m_thrown ∧ Int32.toInt m_thrown ≤ 0) → (0 ≤ Int32.toInt m_wanted ∧ Int32.toInt m_wanted ≤ 65535) → (∀ k : Nat, 0 ≤ Int32.toInt (m_hand k) ∧ Int32.toInt (m_hand k) ≤ 65535) → (16 - Int32.toInt x3 ≤ n15) → (8 - Int32.toInt x5 < n29) → K29 x1 x2 x3 x4 x5 m_rowMany m_thrown m_wanted m_row m_hand) (x1 : Int32) (x2 : Int32) (x3 : Int32) (x5 : Int32) (k0 : Int32) (k1 : Int32) (m_rowMany : Int32) (m_thrown : Int32) (m_wanted : Int32) (m_row : Nat → Int32) (m_hand : Nat → Int32) (h_x1 : 0 ≤ Int32.toInt x1 ∧ Int32.toInt x1 ≤ 255) (h_x2 : 0 ≤ Int32.toInt x2 ∧ Int32.toInt x2 ≤ 65535) (h_x3 : 0 ≤ Int32.toInt x3 ∧ Int32.toInt x3 ≤ 15) (h_x5 : 0 ≤ Int32.toInt x5 ∧ Int32.toInt x5 ≤ 7) (h_k0 : 0 ≤ Int32.toInt k0 ∧ Int32.toInt k0 ≤ 255) (h_k1 : 0 ≤ Int32.toInt k1 ∧ Int32.toInt k1 ≤ 128) (h_m_rowMany : 0 ≤ Int32.toInt m_rowMany ∧ Int32.toInt m_rowMany ≤ 16) (h_m_thrown : 0 ≤ Int32.toInt m_thrown ∧ Int32.toInt m_thrown ≤ 0) (h_m_wanted : 0 ≤ Int32.toInt m_wanted ∧ Int32.toInt m_wanted ≤ 65535) (h_m_hand : ∀ k : Nat, 0 ≤ Int32.toInt (m_hand k) ∧ Int32.toInt (m_hand k) ≤ 65535) (hn15 : 16 - Int32.toInt x3 ≤ n15) (hn29 : 8 - Int32.toInt x5 ≤ n29) : ws_X10_needed_62 post K15 K29 m_fruits m_standings m_now m_x m_height m_ripe m_foot m_fork m_told x1 x2 x3 x5 k0 k1 m_rowMany m_thrown m_wanted m_row m_hand := by
  have l0 : Int32.toInt (1 : Int32) = 1 := (by decide)
  intro v3 ev3
  have f4 := ti_or 8 256 k0 k1 (by decide) (by omega) (by omega)
  have hv3 := congrArg Int32.toInt ev3
  intro v5 ev5
  have f6 : Int32.toInt (x5 + 1) = Int32.toInt x5 + Int32.toInt (1 : Int32) := ta_add _ _ (by omega)
  rw [← ev5] at f6
  exact hK29 x1 x2 x3 v3 v5 m_rowMany m_thrown m_wanted m_row m_hand (by omega) (by omega) (by omega) (by omega) (by omega) (by omega) (by omega) (by omega) (fun k => by have q9 := h_m_hand k; omega) (by omega) (by omega)
set_option maxHeartbeats 8000000 in
set_option maxRecDepth 200000 in
theorem ts_X10_needed_29 {post : Int32 → Int32 → Int32 → Int32 → (Nat → Int32) → (Nat → Int32) → Prop} {SB : Int} {K15 : Int32 → Int32 → Int32 → Int32 → Int32 → Int32 → (Nat → Int32) → (Nat → Int32) → Prop} {next : Int32 → Int32 → Int32 → Int32 → Int32 → Int32 → Int32 → Int32 → (Nat → Int32) → (Nat → Int32) → Prop} {n29 : Int} {n15 : Int} (m_fruits : Int32) (m_standings : Int32) (m_now : Nat → Int32) (m_x : Nat → Int32) (m_height : Nat → Int32) (m_ripe : Nat → Int32) (m_foot : Nat → Int32) (m_fork : Nat → Int32) (m_told : Nat → Int32) (h_m_fruits : 0 ≤ Int32.toInt m_fruits ∧ Int32.toInt m_fruits ≤ 16) (h_m_standings : 0 ≤ Int32.toInt m_standings ∧ Int32.toInt m_standings ≤ 8) (e0_m_now : ∀ k : Nat, k = 17 → -1 ≤ Int32.toInt (m_now k) ∧ Int32.toInt (m_now k) ≤ SB) (e1_m_now : ∀ k : Nat, k = 19 → 0 ≤ Int32.toInt (m_now k) ∧ Int32.toInt (m_now k) ≤ 9) (h_m_x : ∀ k : Nat, 0 ≤ Int32.toInt (m_x k) ∧ Int32.toInt (m_x k) ≤ 99) (h_m_height : ∀ k : Nat, 0 ≤ Int32.toInt (m_height k) ∧ Int32.toInt (m_height k) ≤ 99) (h_m_ripe : ∀ k : Nat, 0 ≤ Int32.toInt (m_ripe k) ∧ Int32.toInt (m_ripe k) ≤ 9) (h_m_foot : ∀ k : Nat, 0 ≤ Int32.toInt (m_foot k) ∧ Int32.toInt (m_foot k) ≤ 99) (h_m_fork : ∀ k : Nat, 0 ≤ Int32.toInt (m_fork k) ∧ Int32.toInt (m_fork k) ≤ 99) (e0_m_told : ∀ k : Nat, k = 4 → 1 ≤ Int32.toInt (m_told k) ∧ Int32.toInt (m_told k) ≤ 30) (e1_m_told : ∀ k : Nat, k = 3 → 0 ≤ Int32.toInt (m_told k) ∧ Int32.toInt (m_told k) ≤ 9) (hc0 : -1 ≤ SB ∧ SB ≤ 7) (hc1 : (Int32.toInt m_standings ≤ 0 ∧ SB = 0) ∨ (1 ≤ Int32.toInt m_standings ∧ SB = Int32.toInt m_standings - 1)) (hpost : ∀ (r : Int32) (m_rowMany' : Int32) (m_thrown' : Int32) (m_wanted' : Int32) (m_row' : Nat → Int32) (m_hand' : Nat → Int32), (0 ≤ Int32.toInt r ∧ Int32.toInt r ≤ 255) → (1 ≤ Int32.toInt m_rowMany' ∧ Int32.toInt m_rowMany' ≤ 1) → (0 ≤ Int32.toInt m_thrown' ∧ Int32.toInt m_thrown' ≤ 0) → (0 ≤ Int32.toInt m_wanted' ∧ Int32.toInt m_wanted' ≤ 65535) → (∀ k : Nat, 0 ≤ Int32.toInt (m_hand' k) ∧ Int32.toInt (m_hand' k) ≤ 65535) → post r m_rowMany' m_thrown' m_wanted' m_row' m_hand') (hK15 : ∀ (x1 : Int32) (x2 : Int32) (x3 : Int32) (m_rowMany : Int32) (m_thrown : Int32) (m_wanted : Int32) (m_row : Nat → Int32) (m_hand : Nat → Int32), (0 ≤ Int32.toInt x1 ∧ Int32.toInt x1 ≤ 255) → (0 ≤ Int32.toInt x2 ∧ Int32.toInt x2 ≤ 65535) → (0 ≤ Int32.toInt x3 ∧ Int32.toInt x3 ≤ 16) → (0 ≤ Int32.toInt m_rowMany ∧ Int32.toInt m_rowMany ≤ 16) → (0 ≤ Int32.toInt m_thrown ∧ Int32.toInt m_thrown ≤ 0) → (0 ≤ Int32.toInt m_wanted ∧ Int32.toInt m_wanted ≤ 65535) → (∀ k : Nat, 0 ≤ Int32.toInt (m_hand k) ∧ Int32.toInt (m_hand k) ≤ 65535) → (16 - Int32.toInt x3 < n15) → K15 x1 x2 x3 m_rowMany m_thrown m_wanted m_row m_hand) (hKn : ∀ (x1 : Int32) (x2 : Int32) (x3 : Int32) (x4 : Int32) (x5 : Int32) (m_rowMany : Int32) (m_thrown : Int32) (m_wanted : Int32) (m_row : Nat → Int32) (m_hand : Nat → Int32), (0 ≤ Int32.toInt x1 ∧ Int32.toInt x1 ≤ 255) → (0 ≤ Int32.toInt x2 ∧ Int32.toInt x2 ≤ 65535) → (0 ≤ Int32.toInt x3 ∧ Int32.toInt x3 ≤ 15) → (0 ≤ Int32.toInt x4 ∧ Int32.toInt x4 ≤ 255) → (0 ≤ Int32.toInt x5 ∧ Int32.toInt x5 ≤ 8) → (0 ≤ Int32.toInt m_rowMany ∧ Int32.toInt m_rowMany ≤ 16) → (0 ≤ Int32.toInt m_thrown ∧ Int32.toInt m_thrown ≤ 0) → (0 ≤ Int32.toInt m_wanted ∧ Int32.toInt m_wanted ≤ 65535) → (∀ k : Nat, 0 ≤ Int32.toInt (m_hand k) ∧ Int32.toInt (m_hand k) ≤ 65535) → (16 - Int32.toInt x3 ≤ n15) → (8 - Int32.toInt x5 < n29) → next x1 x2 x3 x4 x5 m_rowMany m_thrown m_wanted m_row m_hand) (x1 : Int32) (x2 : Int32) (x3 : Int32) (x4 : Int32) (x5 : Int32) (m_rowMany : Int32) (m_thrown : Int32) (m_wanted : Int32) (m_row : Nat → Int32) (m_hand : Nat → Int32) (h_x1 : 0 ≤ Int32.toInt x1 ∧ Int32.toInt x1 ≤ 255) (h_x2 : 0 ≤ Int32.toInt x2 ∧ Int32.toInt x2 ≤ 65535) (h_x3 : 0 ≤ Int32.toInt x3 ∧ Int32.toInt x3 ≤ 15) (h_x4 : 0 ≤ Int32.toInt x4 ∧ Int32.toInt x4 ≤ 255) (h_x5 : 0 ≤ Int32.toInt x5 ∧ Int32.toInt x5 ≤ 8) (h_m_rowMany : 0 ≤ Int32.toInt m_rowMany ∧ Int32.toInt m_rowMany ≤ 16) (h_m_thrown : 0 ≤ Int32.toInt m_thrown ∧ Int32.toInt m_thrown ≤ 0) (h_m_wanted : 0 ≤ Int32.toInt m_wanted ∧ Int32.toInt m_wanted ≤ 65535) (h_m_hand : ∀ k : Nat, 0 ≤ Int32.toInt (m_hand k) ∧ Int32.toInt (m_hand k) ≤ 65535) (hn15 : 16 - Int32.toInt x3 ≤ n15) (hn29 : 8 - Int32.toInt x5 ≤ n29) : ws_X10_needed_29 post K15 next m_fruits m_standings m_now m_x m_height m_ripe m_foot m_fork m_told x1 x2 x3 x4 x5 m_rowMany m_thrown m_wanted m_row m_hand := by
  have l0 : Int32.toInt (0 : Int32) = 0 := (by decide)
  have l1 : Int32.toInt (1 : Int32) = 1 := (by decide)
  have l2 : Int32.toInt (1431655765 : Int32) = 1431655765 := (by decide)
  have l3 : Int32.toInt (252645135 : Int32) = 252645135 := (by decide)
  have l4 : Int32.toInt (63 : Int32) = 63 := (by decide)
  have l5 : Int32.toInt (858993459 : Int32) = 858993459 := (by decide)
  refine And.intro (fun c7 => ?_) (fun c7 => ?_)
  · skip
    have c7 := (fa_le _ _).mp c7
    intro v8 ev8
    have f9 := ti_shr m_wanted x3 (by omega)
    have hv8 := congrArg Int32.toInt ev8
    intro v10 ev10
    have f11 := ti_andr v8 1 (by omega)
    have f12 := ti_andl v8 1 (by omega)
    have hv10 := congrArg Int32.toInt ev10
    refine And.intro (fun c13 => ?_) (fun c13 => ?_)
    · skip
      have c13 := mt (fa_eq _ _).mpr c13
      refine And.intro (fun _ => ?_) (fun h9 => absurd h9 (by decide))
      exact ts_X10_needed_105 m_fruits m_standings m_now m_x m_height m_ripe m_foot m_fork m_told h_m_fruits h_m_standings e0_m_now e1_m_now h_m_x h_m_height h_m_ripe h_m_foot h_m_fork e0_m_told e1_m_told hc0 hc1 hpost hK15 x1 x2 x3 m_rowMany m_thrown m_wanted m_row m_hand (by omega) (by omega) (by omega) (by omega) (by omega) (by omega) (fun k => by have q9 := h_m_hand k; omega) (by omega)
    · skip
      have c13 := (fa_eq _ _).mp c13
      refine And.intro (fun h9 => absurd h9 (by decide)) (fun _ => ?_)
      intro v14 ev14
      intro v15 ev15
      have f17 := ti_andr v14 1431655765 (by omega)
      have f16 : Int32.toInt (x4 - (v14 &&& 1431655765)) = Int32.toInt x4 - Int32.toInt (v14 &&& 1431655765) := ta_sub _ _ (by omega)
      rw [← ev15] at f16
      intro v18 ev18
      have f19 := ti_andr v15 858993459 (by omega)
      have hv18 := congrArg Int32.toInt ev18
      intro v20 ev20
      intro v21 ev21
      have f23 := ti_andr v20 858993459 (by omega)
      have f22 : Int32.toInt (v18 + (v20 &&& 858993459)) = Int32.toInt v18 + Int32.toInt (v20 &&& 858993459) := ta_add _ _ (by omega)
      rw [← ev21] at f22
      intro v24 ev24
      have hv24 := congrArg Int32.toInt ev24
      intro v26 ev26
      have f27 := ti_andr v24 252645135 (by omega)
      have hv26 := congrArg Int32.toInt ev26
      intro v28 ev28
      have hv28 := congrArg Int32.toInt ev28
      intro v30 ev30
      have hv30 := congrArg Int32.toInt ev30
      have f33 := ti_andr v30 63 (by omega)
      refine And.intro (fun c32 => ?_) (fun c32 => ?_)
      · skip
        have c32 := (fa_eq _ _).mp c32
        intro v34 ev34
        have f35 := ti_or 8 256 x1 x4 (by decide) (by omega) (by omega)
        have hv34 := congrArg Int32.toInt ev34
        intro v36 ev36
        have f38 := ti_shl1 15 32768 x3 (by decide) (by omega)
        have f37 := ti_or 16 65536 x2 (1 <<< (x3 &&& 31)) (by decide) (by omega) (by omega)
        have hv36 := congrArg Int32.toInt ev36
        exact ts_X10_needed_105 m_fruits m_standings m_now m_x m_height m_ripe m_foot m_fork m_told h_m_fruits h_m_standings e0_m_now e1_m_now h_m_x h_m_height h_m_ripe h_m_foot h_m_fork e0_m_told e1_m_told hc0 hc1 hpost hK15 v34 v36 x3 m_rowMany m_thrown m_wanted m_row m_hand (by omega) (by omega) (by omega) (by omega) (by omega) (by omega) (fun k => by have q9 := h_m_hand k; omega) (by omega)
      · skip
        have c32 := mt (fa_eq _ _).mpr c32
        exact ts_X10_needed_105 m_fruits m_standings m_now m_x m_height m_ripe m_foot m_fork m_told h_m_fruits h_m_standings e0_m_now e1_m_now h_m_x h_m_height h_m_ripe h_m_foot h_m_fork e0_m_told e1_m_told hc0 hc1 hpost hK15 x1 x2 x3 m_rowMany m_thrown m_wanted m_row m_hand (by omega) (by omega) (by omega) (by omega) (by omega) (by omega) (fun k => by have q9 := h_m_hand k; omega) (by omega)
  · skip
    have c7 := mt (fa_le _ _).mpr c7
    refine And.intro (t_in (by omega)) ?_
    intro v39 ev39
    have f40 := h_m_hand x5.toNatClampNeg
    have hv39 := congrArg Int32.toInt ev39
    intro v41 ev41
    have f42 := ti_shr v39 x3 (by omega)
    have hv41 := congrArg Int32.toInt ev41
    intro v43 ev43
    have f44 := ti_andr v41 1 (by omega)
    have f45 := ti_andl v41 1 (by omega)
    have hv43 := congrArg Int32.toInt ev43
    refine And.intro (fun c46 => ?_) (fun c46 => ?_)
    · skip
      have c46 := mt (fa_eq _ _).mpr c46
      refine And.intro (fun _ => ?_) (fun h9 => absurd h9 (by decide))
      exact ts_X10_needed_62 m_fruits m_standings m_now m_x m_height m_ripe m_foot m_fork m_told h_m_fruits h_m_standings e0_m_now e1_m_now h_m_x h_m_height h_m_ripe h_m_foot h_m_fork e0_m_told e1_m_told hc0 hc1 hpost hK15 hKn x1 x2 x3 x5 x4 0 m_rowMany m_thrown m_wanted m_row m_hand (by omega) (by omega) (by omega) (by omega) (by omega) (by omega) (by omega) (by omega) (by omega) (fun k => by have q9 := h_m_hand k; omega) (by omega) (by omega)
    · skip
      have c46 := (fa_eq _ _).mp c46
      refine And.intro (fun h9 => absurd h9 (by decide)) (fun _ => ?_)
      intro v47 ev47
      have f48 := ti_shl1 7 128 x5 (by decide) (by omega)
      have hv47 := congrArg Int32.toInt ev47
      exact ts_X10_needed_62 m_fruits m_standings m_now m_x m_height m_ripe m_foot m_fork m_told h_m_fruits h_m_standings e0_m_now e1_m_now h_m_x h_m_height h_m_ripe h_m_foot h_m_fork e0_m_told e1_m_told hc0 hc1 hpost hK15 hKn x1 x2 x3 x5 x4 v47 m_rowMany m_thrown m_wanted m_row m_hand (by omega) (by omega) (by omega) (by omega) (by omega) (by omega) (by omega) (by omega) (by omega) (fun k => by have q9 := h_m_hand k; omega) (by omega) (by omega)
set_option maxHeartbeats 8000000 in
set_option maxRecDepth 200000 in
theorem tb_X10_needed_29 {post : Int32 → Int32 → Int32 → Int32 → (Nat → Int32) → (Nat → Int32) → Prop} {SB : Int} {K15 : Int32 → Int32 → Int32 → Int32 → Int32 → Int32 → (Nat → Int32) → (Nat → Int32) → Prop} {n15 : Int} (m_fruits : Int32) (m_standings : Int32) (m_now : Nat → Int32) (m_x : Nat → Int32) (m_height : Nat → Int32) (m_ripe : Nat → Int32) (m_foot : Nat → Int32) (m_fork : Nat → Int32) (m_told : Nat → Int32) (h_m_fruits : 0 ≤ Int32.toInt m_fruits ∧ Int32.toInt m_fruits ≤ 16) (h_m_standings : 0 ≤ Int32.toInt m_standings ∧ Int32.toInt m_standings ≤ 8) (e0_m_now : ∀ k : Nat, k = 17 → -1 ≤ Int32.toInt (m_now k) ∧ Int32.toInt (m_now k) ≤ SB) (e1_m_now : ∀ k : Nat, k = 19 → 0 ≤ Int32.toInt (m_now k) ∧ Int32.toInt (m_now k) ≤ 9) (h_m_x : ∀ k : Nat, 0 ≤ Int32.toInt (m_x k) ∧ Int32.toInt (m_x k) ≤ 99) (h_m_height : ∀ k : Nat, 0 ≤ Int32.toInt (m_height k) ∧ Int32.toInt (m_height k) ≤ 99) (h_m_ripe : ∀ k : Nat, 0 ≤ Int32.toInt (m_ripe k) ∧ Int32.toInt (m_ripe k) ≤ 9) (h_m_foot : ∀ k : Nat, 0 ≤ Int32.toInt (m_foot k) ∧ Int32.toInt (m_foot k) ≤ 99) (h_m_fork : ∀ k : Nat, 0 ≤ Int32.toInt (m_fork k) ∧ Int32.toInt (m_fork k) ≤ 99) (e0_m_told : ∀ k : Nat, k = 4 → 1 ≤ Int32.toInt (m_told k) ∧ Int32.toInt (m_told k) ≤ 30) (e1_m_told : ∀ k : Nat, k = 3 → 0 ≤ Int32.toInt (m_told k) ∧ Int32.toInt (m_told k) ≤ 9) (hc0 : -1 ≤ SB ∧ SB ≤ 7) (hc1 : (Int32.toInt m_standings ≤ 0 ∧ SB = 0) ∨ (1 ≤ Int32.toInt m_standings ∧ SB = Int32.toInt m_standings - 1)) (hpost : ∀ (r : Int32) (m_rowMany' : Int32) (m_thrown' : Int32) (m_wanted' : Int32) (m_row' : Nat → Int32) (m_hand' : Nat → Int32), (0 ≤ Int32.toInt r ∧ Int32.toInt r ≤ 255) → (1 ≤ Int32.toInt m_rowMany' ∧ Int32.toInt m_rowMany' ≤ 1) → (0 ≤ Int32.toInt m_thrown' ∧ Int32.toInt m_thrown' ≤ 0) → (0 ≤ Int32.toInt m_wanted' ∧ Int32.toInt m_wanted' ≤ 65535) → (∀ k : Nat, 0 ≤ Int32.toInt (m_hand' k) ∧ Int32.toInt (m_hand' k) ≤ 65535) → post r m_rowMany' m_thrown' m_wanted' m_row' m_hand') (hK15 : ∀ (x1 : Int32) (x2 : Int32) (x3 : Int32) (m_rowMany : Int32) (m_thrown : Int32) (m_wanted : Int32) (m_row : Nat → Int32) (m_hand : Nat → Int32), (0 ≤ Int32.toInt x1 ∧ Int32.toInt x1 ≤ 255) → (0 ≤ Int32.toInt x2 ∧ Int32.toInt x2 ≤ 65535) → (0 ≤ Int32.toInt x3 ∧ Int32.toInt x3 ≤ 16) → (0 ≤ Int32.toInt m_rowMany ∧ Int32.toInt m_rowMany ≤ 16) → (0 ≤ Int32.toInt m_thrown ∧ Int32.toInt m_thrown ≤ 0) → (0 ≤ Int32.toInt m_wanted ∧ Int32.toInt m_wanted ≤ 65535) → (∀ k : Nat, 0 ≤ Int32.toInt (m_hand k) ∧ Int32.toInt (m_hand k) ≤ 65535) → (16 - Int32.toInt x3 < n15) → K15 x1 x2 x3 m_rowMany m_thrown m_wanted m_row m_hand) : ∀ (n : Nat) (x1 : Int32) (x2 : Int32) (x3 : Int32) (x4 : Int32) (x5 : Int32) (m_rowMany : Int32) (m_thrown : Int32) (m_wanted : Int32) (m_row : Nat → Int32) (m_hand : Nat → Int32), (0 ≤ Int32.toInt x1 ∧ Int32.toInt x1 ≤ 255) → (0 ≤ Int32.toInt x2 ∧ Int32.toInt x2 ≤ 65535) → (0 ≤ Int32.toInt x3 ∧ Int32.toInt x3 ≤ 15) → (0 ≤ Int32.toInt x4 ∧ Int32.toInt x4 ≤ 255) → (0 ≤ Int32.toInt x5 ∧ Int32.toInt x5 ≤ 8) → (0 ≤ Int32.toInt m_rowMany ∧ Int32.toInt m_rowMany ≤ 16) → (0 ≤ Int32.toInt m_thrown ∧ Int32.toInt m_thrown ≤ 0) → (0 ≤ Int32.toInt m_wanted ∧ Int32.toInt m_wanted ≤ 65535) → (∀ k : Nat, 0 ≤ Int32.toInt (m_hand k) ∧ Int32.toInt (m_hand k) ≤ 65535) → (16 - Int32.toInt x3 ≤ n15) → (8 - Int32.toInt x5 < (n : Int)) → wb_X10_needed_29 post K15 m_fruits m_standings m_now m_x m_height m_ripe m_foot m_fork m_told n x1 x2 x3 x4 x5 m_rowMany m_thrown m_wanted m_row m_hand := by
  intro n
  induction n with
  | zero =>
    intro x1 x2 x3 x4 x5 m_rowMany m_thrown m_wanted m_row m_hand h_x1 h_x2 h_x3 h_x4 h_x5 h_m_rowMany h_m_thrown h_m_wanted h_m_hand hn15 hm
    exfalso; omega
  | succ n ih =>
    intro x1 x2 x3 x4 x5 m_rowMany m_thrown m_wanted m_row m_hand h_x1 h_x2 h_x3 h_x4 h_x5 h_m_rowMany h_m_thrown h_m_wanted h_m_hand hn15 hm
    exact ts_X10_needed_29 m_fruits m_standings m_now m_x m_height m_ripe m_foot m_fork m_told h_m_fruits h_m_standings e0_m_now e1_m_now h_m_x h_m_height h_m_ripe h_m_foot h_m_fork e0_m_told e1_m_told hc0 hc1 hpost hK15 ih x1 x2 x3 x4 x5 m_rowMany m_thrown m_wanted m_row m_hand h_x1 h_x2 h_x3 h_x4 h_x5 h_m_rowMany h_m_thrown h_m_wanted h_m_hand hn15 (by omega)
set_option maxHeartbeats 8000000 in
set_option maxRecDepth 200000 in
theorem ts_X10_needed_15 {post : Int32 → Int32 → Int32 → Int32 → (Nat → Int32) → (Nat → Int32) → Prop} {SB : Int} {next : Int32 → Int32 → Int32 → Int32 → Int32 → Int32 → (Nat → Int32) → (Nat → Int32) → Prop} {n15 : Int} (m_fruits : Int32) (m_standings : Int32) (m_now : Nat → Int32) (m_x : Nat → Int32) (m_height : Nat → Int32) (m_ripe : Nat → Int32) (m_foot : Nat → Int32) (m_fork : Nat → Int32) (m_told : Nat → Int32) (h_m_fruits : 0 ≤ Int32.toInt m_fruits ∧ Int32.toInt m_fruits ≤ 16) (h_m_standings : 0 ≤ Int32.toInt m_standings ∧ Int32.toInt m_standings ≤ 8) (e0_m_now : ∀ k : Nat, k = 17 → -1 ≤ Int32.toInt (m_now k) ∧ Int32.toInt (m_now k) ≤ SB) (e1_m_now : ∀ k : Nat, k = 19 → 0 ≤ Int32.toInt (m_now k) ∧ Int32.toInt (m_now k) ≤ 9) (h_m_x : ∀ k : Nat, 0 ≤ Int32.toInt (m_x k) ∧ Int32.toInt (m_x k) ≤ 99) (h_m_height : ∀ k : Nat, 0 ≤ Int32.toInt (m_height k) ∧ Int32.toInt (m_height k) ≤ 99) (h_m_ripe : ∀ k : Nat, 0 ≤ Int32.toInt (m_ripe k) ∧ Int32.toInt (m_ripe k) ≤ 9) (h_m_foot : ∀ k : Nat, 0 ≤ Int32.toInt (m_foot k) ∧ Int32.toInt (m_foot k) ≤ 99) (h_m_fork : ∀ k : Nat, 0 ≤ Int32.toInt (m_fork k) ∧ Int32.toInt (m_fork k) ≤ 99) (e0_m_told : ∀ k : Nat, k = 4 → 1 ≤ Int32.toInt (m_told k) ∧ Int32.toInt (m_told k) ≤ 30) (e1_m_told : ∀ k : Nat, k = 3 → 0 ≤ Int32.toInt (m_told k) ∧ Int32.toInt (m_told k) ≤ 9) (hc0 : -1 ≤ SB ∧ SB ≤ 7) (hc1 : (Int32.toInt m_standings ≤ 0 ∧ SB = 0) ∨ (1 ≤ Int32.toInt m_standings ∧ SB = Int32.toInt m_standings - 1)) (hpost : ∀ (r : Int32) (m_rowMany' : Int32) (m_thrown' : Int32) (m_wanted' : Int32) (m_row' : Nat → Int32) (m_hand' : Nat → Int32), (0 ≤ Int32.toInt r ∧ Int32.toInt r ≤ 255) → (1 ≤ Int32.toInt m_rowMany' ∧ Int32.toInt m_rowMany' ≤ 1) → (0 ≤ Int32.toInt m_thrown' ∧ Int32.toInt m_thrown' ≤ 0) → (0 ≤ Int32.toInt m_wanted' ∧ Int32.toInt m_wanted' ≤ 65535) → (∀ k : Nat, 0 ≤ Int32.toInt (m_hand' k) ∧ Int32.toInt (m_hand' k) ≤ 65535) → post r m_rowMany' m_thrown' m_wanted' m_row' m_hand') (hKn : ∀ (x1 : Int32) (x2 : Int32) (x3 : Int32) (m_rowMany : Int32) (m_thrown : Int32) (m_wanted : Int32) (m_row : Nat → Int32) (m_hand : Nat → Int32), (0 ≤ Int32.toInt x1 ∧ Int32.toInt x1 ≤ 255) → (0 ≤ Int32.toInt x2 ∧ Int32.toInt x2 ≤ 65535) → (0 ≤ Int32.toInt x3 ∧ Int32.toInt x3 ≤ 16) → (0 ≤ Int32.toInt m_rowMany ∧ Int32.toInt m_rowMany ≤ 16) → (0 ≤ Int32.toInt m_thrown ∧ Int32.toInt m_thrown ≤ 0) → (0 ≤ Int32.toInt m_wanted ∧ Int32.toInt m_wanted ≤ 65535) → (∀ k : Nat, 0 ≤ Int32.toInt (m_hand k) ∧ Int32.toInt (m_hand k) ≤ 65535) → (16 - Int32.toInt x3 < n15) → next x1 x2 x3 m_rowMany m_thrown m_wanted m_row m_hand) (x1 : Int32) (x2 : Int32) (x3 : Int32) (m_rowMany : Int32) (m_thrown : Int32) (m_wanted : Int32) (m_row : Nat → Int32) (m_hand : Nat → Int32) (h_x1 : 0 ≤ Int32.toInt x1 ∧ Int32.toInt x1 ≤ 255) (h_x2 : 0 ≤ Int32.toInt x2 ∧ Int32.toInt x2 ≤ 65535) (h_x3 : 0 ≤ Int32.toInt x3 ∧ Int32.toInt x3 ≤ 16) (h_m_rowMany : 0 ≤ Int32.toInt m_rowMany ∧ Int32.toInt m_rowMany ≤ 16) (h_m_thrown : 0 ≤ Int32.toInt m_thrown ∧ Int32.toInt m_thrown ≤ 0) (h_m_wanted : 0 ≤ Int32.toInt m_wanted ∧ Int32.toInt m_wanted ≤ 65535) (h_m_hand : ∀ k : Nat, 0 ≤ Int32.toInt (m_hand k) ∧ Int32.toInt (m_hand k) ≤ 65535) (hn15 : 16 - Int32.toInt x3 ≤ n15) : ws_X10_needed_15 post next m_fruits m_standings m_now m_x m_height m_ripe m_foot m_fork m_told x1 x2 x3 m_rowMany m_thrown m_wanted m_row m_hand := by
  have l0 : Int32.toInt (0 : Int32) = 0 := (by decide)
  have l1 : Int32.toInt (1 : Int32) = 1 := (by decide)
  refine And.intro (fun c49 => ?_) (fun c49 => ?_)
  · skip
    have c49 := (fa_le _ _).mp c49
    refine And.intro (t_in (by omega)) ?_
    intro v50 ev50
    have f51 : Int32.toInt (0 + 1) = Int32.toInt (0 : Int32) + Int32.toInt (1 : Int32) := ta_add _ _ (by omega)
    rw [← ev50] at f51
    exact hpost _ _ _ _ _ _ (by omega) (by omega) (by omega) (by omega) (fun k => by have q9 := h_m_hand k; omega)
  · skip
    have c49 := mt (fa_le _ _).mpr c49
    exact ⟨10, tb_X10_needed_29 m_fruits m_standings m_now m_x m_height m_ripe m_foot m_fork m_told h_m_fruits h_m_standings e0_m_now e1_m_now h_m_x h_m_height h_m_ripe h_m_foot h_m_fork e0_m_told e1_m_told hc0 hc1 hpost hKn _ x1 x2 x3 0 0 m_rowMany m_thrown m_wanted m_row m_hand (by omega) (by omega) (by omega) (by omega) (by omega) (by omega) (by omega) (by omega) (fun k => by have q9 := h_m_hand k; omega) (by omega) (by omega)⟩
set_option maxHeartbeats 8000000 in
set_option maxRecDepth 200000 in
theorem tb_X10_needed_15 {post : Int32 → Int32 → Int32 → Int32 → (Nat → Int32) → (Nat → Int32) → Prop} {SB : Int} (m_fruits : Int32) (m_standings : Int32) (m_now : Nat → Int32) (m_x : Nat → Int32) (m_height : Nat → Int32) (m_ripe : Nat → Int32) (m_foot : Nat → Int32) (m_fork : Nat → Int32) (m_told : Nat → Int32) (h_m_fruits : 0 ≤ Int32.toInt m_fruits ∧ Int32.toInt m_fruits ≤ 16) (h_m_standings : 0 ≤ Int32.toInt m_standings ∧ Int32.toInt m_standings ≤ 8) (e0_m_now : ∀ k : Nat, k = 17 → -1 ≤ Int32.toInt (m_now k) ∧ Int32.toInt (m_now k) ≤ SB) (e1_m_now : ∀ k : Nat, k = 19 → 0 ≤ Int32.toInt (m_now k) ∧ Int32.toInt (m_now k) ≤ 9) (h_m_x : ∀ k : Nat, 0 ≤ Int32.toInt (m_x k) ∧ Int32.toInt (m_x k) ≤ 99) (h_m_height : ∀ k : Nat, 0 ≤ Int32.toInt (m_height k) ∧ Int32.toInt (m_height k) ≤ 99) (h_m_ripe : ∀ k : Nat, 0 ≤ Int32.toInt (m_ripe k) ∧ Int32.toInt (m_ripe k) ≤ 9) (h_m_foot : ∀ k : Nat, 0 ≤ Int32.toInt (m_foot k) ∧ Int32.toInt (m_foot k) ≤ 99) (h_m_fork : ∀ k : Nat, 0 ≤ Int32.toInt (m_fork k) ∧ Int32.toInt (m_fork k) ≤ 99) (e0_m_told : ∀ k : Nat, k = 4 → 1 ≤ Int32.toInt (m_told k) ∧ Int32.toInt (m_told k) ≤ 30) (e1_m_told : ∀ k : Nat, k = 3 → 0 ≤ Int32.toInt (m_told k) ∧ Int32.toInt (m_told k) ≤ 9) (hc0 : -1 ≤ SB ∧ SB ≤ 7) (hc1 : (Int32.toInt m_standings ≤ 0 ∧ SB = 0) ∨ (1 ≤ Int32.toInt m_standings ∧ SB = Int32.toInt m_standings - 1)) (hpost : ∀ (r : Int32) (m_rowMany' : Int32) (m_thrown' : Int32) (m_wanted' : Int32) (m_row' : Nat → Int32) (m_hand' : Nat → Int32), (0 ≤ Int32.toInt r ∧ Int32.toInt r ≤ 255) → (1 ≤ Int32.toInt m_rowMany' ∧ Int32.toInt m_rowMany' ≤ 1) → (0 ≤ Int32.toInt m_thrown' ∧ Int32.toInt m_thrown' ≤ 0) → (0 ≤ Int32.toInt m_wanted' ∧ Int32.toInt m_wanted' ≤ 65535) → (∀ k : Nat, 0 ≤ Int32.toInt (m_hand' k) ∧ Int32.toInt (m_hand' k) ≤ 65535) → post r m_rowMany' m_thrown' m_wanted' m_row' m_hand') : ∀ (n : Nat) (x1 : Int32) (x2 : Int32) (x3 : Int32) (m_rowMany : Int32) (m_thrown : Int32) (m_wanted : Int32) (m_row : Nat → Int32) (m_hand : Nat → Int32), (0 ≤ Int32.toInt x1 ∧ Int32.toInt x1 ≤ 255) → (0 ≤ Int32.toInt x2 ∧ Int32.toInt x2 ≤ 65535) → (0 ≤ Int32.toInt x3 ∧ Int32.toInt x3 ≤ 16) → (0 ≤ Int32.toInt m_rowMany ∧ Int32.toInt m_rowMany ≤ 16) → (0 ≤ Int32.toInt m_thrown ∧ Int32.toInt m_thrown ≤ 0) → (0 ≤ Int32.toInt m_wanted ∧ Int32.toInt m_wanted ≤ 65535) → (∀ k : Nat, 0 ≤ Int32.toInt (m_hand k) ∧ Int32.toInt (m_hand k) ≤ 65535) → (16 - Int32.toInt x3 < (n : Int)) → wb_X10_needed_15 post m_fruits m_standings m_now m_x m_height m_ripe m_foot m_fork m_told n x1 x2 x3 m_rowMany m_thrown m_wanted m_row m_hand := by
  intro n
  induction n with
  | zero =>
    intro x1 x2 x3 m_rowMany m_thrown m_wanted m_row m_hand h_x1 h_x2 h_x3 h_m_rowMany h_m_thrown h_m_wanted h_m_hand hm
    exfalso; omega
  | succ n ih =>
    intro x1 x2 x3 m_rowMany m_thrown m_wanted m_row m_hand h_x1 h_x2 h_x3 h_m_rowMany h_m_thrown h_m_wanted h_m_hand hm
    exact ts_X10_needed_15 m_fruits m_standings m_now m_x m_height m_ripe m_foot m_fork m_told h_m_fruits h_m_standings e0_m_now e1_m_now h_m_x h_m_height h_m_ripe h_m_foot h_m_fork e0_m_told e1_m_told hc0 hc1 hpost ih x1 x2 x3 m_rowMany m_thrown m_wanted m_row m_hand h_x1 h_x2 h_x3 h_m_rowMany h_m_thrown h_m_wanted h_m_hand (by omega)
set_option maxHeartbeats 8000000 in
set_option maxRecDepth 200000 in
theorem t_X10_needed {post : Int32 → Int32 → Int32 → Int32 → (Nat → Int32) → (Nat → Int32) → Prop} {SB : Int} {m_fruits : Int32} {m_standings : Int32} {m_rowMany : Int32} {m_thrown : Int32} {m_wanted : Int32} {m_now : Nat → Int32} {m_x : Nat → Int32} {m_height : Nat → Int32} {m_ripe : Nat → Int32} {m_foot : Nat → Int32} {m_fork : Nat → Int32} {m_told : Nat → Int32} {m_row : Nat → Int32} {m_hand : Nat → Int32} (h_m_fruits : 0 ≤ Int32.toInt m_fruits ∧ Int32.toInt m_fruits ≤ 16) (h_m_standings : 0 ≤ Int32.toInt m_standings ∧ Int32.toInt m_standings ≤ 8) (h_m_rowMany : 0 ≤ Int32.toInt m_rowMany ∧ Int32.toInt m_rowMany ≤ 16) (h_m_thrown : 0 ≤ Int32.toInt m_thrown ∧ Int32.toInt m_thrown ≤ 1) (h_m_wanted : 0 ≤ Int32.toInt m_wanted ∧ Int32.toInt m_wanted ≤ 65535) (e0_m_now : ∀ k : Nat, k = 17 → -1 ≤ Int32.toInt (m_now k) ∧ Int32.toInt (m_now k) ≤ SB) (e1_m_now : ∀ k : Nat, k = 19 → 0 ≤ Int32.toInt (m_now k) ∧ Int32.toInt (m_now k) ≤ 9) (h_m_x : ∀ k : Nat, 0 ≤ Int32.toInt (m_x k) ∧ Int32.toInt (m_x k) ≤ 99) (h_m_height : ∀ k : Nat, 0 ≤ Int32.toInt (m_height k) ∧ Int32.toInt (m_height k) ≤ 99) (h_m_ripe : ∀ k : Nat, 0 ≤ Int32.toInt (m_ripe k) ∧ Int32.toInt (m_ripe k) ≤ 9) (h_m_foot : ∀ k : Nat, 0 ≤ Int32.toInt (m_foot k) ∧ Int32.toInt (m_foot k) ≤ 99) (h_m_fork : ∀ k : Nat, 0 ≤ Int32.toInt (m_fork k) ∧ Int32.toInt (m_fork k) ≤ 99) (e0_m_told : ∀ k : Nat, k = 4 → 1 ≤ Int32.toInt (m_told k) ∧ Int32.toInt (m_told k) ≤ 30) (e1_m_told : ∀ k : Nat, k = 3 → 0 ≤ Int32.toInt (m_told k) ∧ Int32.toInt (m_told k) ≤ 9) (h_m_hand : ∀ k : Nat, 0 ≤ Int32.toInt (m_hand k) ∧ Int32.toInt (m_hand k) ≤ 65535) (hc0 : -1 ≤ SB ∧ SB ≤ 7) (hc1 : (Int32.toInt m_standings ≤ 0 ∧ SB = 0) ∨ (1 ≤ Int32.toInt m_standings ∧ SB = Int32.toInt m_standings - 1)) (hpost : ∀ (r : Int32) (m_rowMany' : Int32) (m_thrown' : Int32) (m_wanted' : Int32) (m_row' : Nat → Int32) (m_hand' : Nat → Int32), (0 ≤ Int32.toInt r ∧ Int32.toInt r ≤ 255) → (1 ≤ Int32.toInt m_rowMany' ∧ Int32.toInt m_rowMany' ≤ 1) → (0 ≤ Int32.toInt m_thrown' ∧ Int32.toInt m_thrown' ≤ 0) → (0 ≤ Int32.toInt m_wanted' ∧ Int32.toInt m_wanted' ≤ 65535) → (∀ k : Nat, 0 ≤ Int32.toInt (m_hand' k) ∧ Int32.toInt (m_hand' k) ≤ 65535) → post r m_rowMany' m_thrown' m_wanted' m_row' m_hand') : wp_X10_needed post m_fruits m_standings m_rowMany m_thrown m_wanted m_now m_x m_height m_ripe m_foot m_fork m_told m_row m_hand := by
  have l0 : Int32.toInt (0 : Int32) = 0 := (by decide)
  have l1 : Int32.toInt (18 : Int32) = 18 := (by decide)
  intro v52 ev52
  have hv52 := congrArg Int32.toInt ev52
  refine t_X10_layHands_ (by omega) (by omega) (by omega) e0_m_now e1_m_now (fun k => by have q9 := h_m_x k; omega) (fun k => by have q9 := h_m_height k; omega) (fun k => by have q9 := h_m_ripe k; omega) (fun k => by have q9 := h_m_foot k; omega) (fun k => by have q9 := h_m_fork k; omega) e0_m_told e1_m_told (fun k => by have q9 := h_m_hand k; omega) (by omega) (by omega) (fun m_wanted_54 m_hand_55 h_m_wanted_54 h_m_hand_55 => ?_)
  exact ⟨18, tb_X10_needed_15 m_fruits m_standings m_now m_x m_height m_ripe m_foot m_fork m_told h_m_fruits h_m_standings e0_m_now e1_m_now h_m_x h_m_height h_m_ripe h_m_foot h_m_fork e0_m_told e1_m_told hc0 hc1 hpost _ 0 0 0 m_rowMany 0 m_wanted_54 m_row m_hand_55 (by omega) (by omega) (by omega) (by omega) (by omega) (by omega) (fun k => by have q9 := h_m_hand_55 k; omega) (by omega)⟩
set_option maxHeartbeats 8000000 in
set_option maxRecDepth 200000 in
theorem ts_X10_birds_82 {post : Int32 → Int32 → Int32 → Int32 → (Nat → Int32) → (Nat → Int32) → Prop} {SB : Int} {K25 : Int32 → Int32 → Int32 → Int32 → Int32 → Int32 → (Nat → Int32) → (Nat → Int32) → Prop} {n25 : Int} (m_fruits : Int32) (m_standings : Int32) (m_now : Nat → Int32) (m_x : Nat → Int32) (m_height : Nat → Int32) (m_worth : Nat → Int32) (m_ripe : Nat → Int32) (m_foot : Nat → Int32) (m_fork : Nat → Int32) (m_told : Nat → Int32) (h_m_fruits : 0 ≤ Int32.toInt m_fruits ∧ Int32.toInt m_fruits ≤ 16) (h_m_standings : 0 ≤ Int32.toInt m_standings ∧ Int32.toInt m_standings ≤ 8) (e0_m_now : ∀ k : Nat, k = 17 → -1 ≤ Int32.toInt (m_now k) ∧ Int32.toInt (m_now k) ≤ SB) (e1_m_now : ∀ k : Nat, k = 19 → 0 ≤ Int32.toInt (m_now k) ∧ Int32.toInt (m_now k) ≤ 9) (h_m_x : ∀ k : Nat, 0 ≤ Int32.toInt (m_x k) ∧ Int32.toInt (m_x k) ≤ 99) (h_m_height : ∀ k : Nat, 0 ≤ Int32.toInt (m_height k) ∧ Int32.toInt (m_height k) ≤ 99) (h_m_worth : ∀ k : Nat, 0 ≤ Int32.toInt (m_worth k) ∧ Int32.toInt (m_worth k) ≤ 9) (h_m_ripe : ∀ k : Nat, 0 ≤ Int32.toInt (m_ripe k) ∧ Int32.toInt (m_ripe k) ≤ 9) (h_m_foot : ∀ k : Nat, 0 ≤ Int32.toInt (m_foot k) ∧ Int32.toInt (m_foot k) ≤ 99) (h_m_fork : ∀ k : Nat, 0 ≤ Int32.toInt (m_fork k) ∧ Int32.toInt (m_fork k) ≤ 99) (e0_m_told : ∀ k : Nat, k = 4 → 1 ≤ Int32.toInt (m_told k) ∧ Int32.toInt (m_told k) ≤ 30) (e1_m_told : ∀ k : Nat, k = 3 → 0 ≤ Int32.toInt (m_told k) ∧ Int32.toInt (m_told k) ≤ 9) (hc0 : -1 ≤ SB ∧ SB ≤ 7) (hc1 : (Int32.toInt m_standings ≤ 0 ∧ SB = 0) ∨ (1 ≤ Int32.toInt m_standings ∧ SB = Int32.toInt m_standings - 1)) (hpost : ∀ (r : Int32) (m_rowMany' : Int32) (m_thrown' : Int32) (m_wanted' : Int32) (m_row' : Nat → Int32) (m_hand' : Nat → Int32), (0 ≤ Int32.toInt m_rowMany' ∧ Int32.toInt m_rowMany' ≤ 16) → (0 ≤ Int32.toInt m_thrown' ∧ Int32.toInt m_thrown' ≤ 0) → (0 ≤ Int32.toInt m_wanted' ∧ Int32.toInt m_wanted' ≤ 65535) → (∀ k : Nat, 0 ≤ Int32.toInt (m_hand' k) ∧ Int32.toInt (m_hand' k) ≤ 65535) → post r m_rowMany' m_thrown' m_wanted' m_row' m_hand') (hK25 : ∀ (x1 : Int32) (x2 : Int32) (x3 : Int32) (m_rowMany : Int32) (m_thrown : Int32) (m_wanted : Int32) (m_row : Nat → Int32) (m_hand : Nat → Int32), (0 ≤ Int32.toInt x1 ∧ Int32.toInt x1 ≤ 8) → (0 ≤ Int32.toInt x2 ∧ Int32.toInt x2 ≤ 255) → (1 ≤ Int32.toInt x3 ∧ Int32.toInt x3 ≤ 256) → (0 ≤ Int32.toInt m_rowMany ∧ Int32.toInt m_rowMany ≤ 16) → (0 ≤ Int32.toInt m_thrown ∧ Int32.toInt m_thrown ≤ 0) → (0 ≤ Int32.toInt m_wanted ∧ Int32.toInt m_wanted ≤ 65535) → (∀ k : Nat, 0 ≤ Int32.toInt (m_hand k) ∧ Int32.toInt (m_hand k) ≤ 65535) → (256 - Int32.toInt x3 < n25) → K25 x1 x2 x3 m_rowMany m_thrown m_wanted m_row m_hand) (x1 : Int32) (x2 : Int32) (x3 : Int32) (m_rowMany : Int32) (m_thrown : Int32) (m_wanted : Int32) (m_row : Nat → Int32) (m_hand : Nat → Int32) (h_x1 : 0 ≤ Int32.toInt x1 ∧ Int32.toInt x1 ≤ 8) (h_x2 : 0 ≤ Int32.toInt x2 ∧ Int32.toInt x2 ≤ 255) (h_x3 : 1 ≤ Int32.toInt x3 ∧ Int32.toInt x3 ≤ 255) (h_m_rowMany : 0 ≤ Int32.toInt m_rowMany ∧ Int32.toInt m_rowMany ≤ 16) (h_m_thrown : 0 ≤ Int32.toInt m_thrown ∧ Int32.toInt m_thrown ≤ 0) (h_m_wanted : 0 ≤ Int32.toInt m_wanted ∧ Int32.toInt m_wanted ≤ 65535) (h_m_hand : ∀ k : Nat, 0 ≤ Int32.toInt (m_hand k) ∧ Int32.toInt (m_hand k) ≤ 65535) (hn25 : 256 - Int32.toInt x3 ≤ n25) : ws_X10_birds_82 post K25 m_fruits m_standings m_now m_x m_height m_worth m_ripe m_foot m_fork m_told x1 x2 x3 m_rowMany m_thrown m_wanted m_row m_hand := by
  have l0 : Int32.toInt (1 : Int32) = 1 := (by decide)
  intro v1 ev1
  have f2 : Int32.toInt (x3 + 1) = Int32.toInt x3 + Int32.toInt (1 : Int32) := ta_add _ _ (by omega)
  rw [← ev1] at f2
  exact hK25 x1 x2 v1 m_rowMany m_thrown m_wanted m_row m_hand (by omega) (by omega) (by omega) (by omega) (by omega) (by omega) (fun k => by have q9 := h_m_hand k; omega) (by omega)
set_option maxHeartbeats 8000000 in
set_option maxRecDepth 200000 in
theorem ts_X10_birds_80 {post : Int32 → Int32 → Int32 → Int32 → (Nat → Int32) → (Nat → Int32) → Prop} {SB : Int} {K25 : Int32 → Int32 → Int32 → Int32 → Int32 → Int32 → (Nat → Int32) → (Nat → Int32) → Prop} {n25 : Int} (m_fruits : Int32) (m_standings : Int32) (m_now : Nat → Int32) (m_x : Nat → Int32) (m_height : Nat → Int32) (m_worth : Nat → Int32) (m_ripe : Nat → Int32) (m_foot : Nat → Int32) (m_fork : Nat → Int32) (m_told : Nat → Int32) (h_m_fruits : 0 ≤ Int32.toInt m_fruits ∧ Int32.toInt m_fruits ≤ 16) (h_m_standings : 0 ≤ Int32.toInt m_standings ∧ Int32.toInt m_standings ≤ 8) (e0_m_now : ∀ k : Nat, k = 17 → -1 ≤ Int32.toInt (m_now k) ∧ Int32.toInt (m_now k) ≤ SB) (e1_m_now : ∀ k : Nat, k = 19 → 0 ≤ Int32.toInt (m_now k) ∧ Int32.toInt (m_now k) ≤ 9) (h_m_x : ∀ k : Nat, 0 ≤ Int32.toInt (m_x k) ∧ Int32.toInt (m_x k) ≤ 99) (h_m_height : ∀ k : Nat, 0 ≤ Int32.toInt (m_height k) ∧ Int32.toInt (m_height k) ≤ 99) (h_m_worth : ∀ k : Nat, 0 ≤ Int32.toInt (m_worth k) ∧ Int32.toInt (m_worth k) ≤ 9) (h_m_ripe : ∀ k : Nat, 0 ≤ Int32.toInt (m_ripe k) ∧ Int32.toInt (m_ripe k) ≤ 9) (h_m_foot : ∀ k : Nat, 0 ≤ Int32.toInt (m_foot k) ∧ Int32.toInt (m_foot k) ≤ 99) (h_m_fork : ∀ k : Nat, 0 ≤ Int32.toInt (m_fork k) ∧ Int32.toInt (m_fork k) ≤ 99) (e0_m_told : ∀ k : Nat, k = 4 → 1 ≤ Int32.toInt (m_told k) ∧ Int32.toInt (m_told k) ≤ 30) (e1_m_told : ∀ k : Nat, k = 3 → 0 ≤ Int32.toInt (m_told k) ∧ Int32.toInt (m_told k) ≤ 9) (hc0 : -1 ≤ SB ∧ SB ≤ 7) (hc1 : (Int32.toInt m_standings ≤ 0 ∧ SB = 0) ∨ (1 ≤ Int32.toInt m_standings ∧ SB = Int32.toInt m_standings - 1)) (hpost : ∀ (r : Int32) (m_rowMany' : Int32) (m_thrown' : Int32) (m_wanted' : Int32) (m_row' : Nat → Int32) (m_hand' : Nat → Int32), (0 ≤ Int32.toInt m_rowMany' ∧ Int32.toInt m_rowMany' ≤ 16) → (0 ≤ Int32.toInt m_thrown' ∧ Int32.toInt m_thrown' ≤ 0) → (0 ≤ Int32.toInt m_wanted' ∧ Int32.toInt m_wanted' ≤ 65535) → (∀ k : Nat, 0 ≤ Int32.toInt (m_hand' k) ∧ Int32.toInt (m_hand' k) ≤ 65535) → post r m_rowMany' m_thrown' m_wanted' m_row' m_hand') (hK25 : ∀ (x1 : Int32) (x2 : Int32) (x3 : Int32) (m_rowMany : Int32) (m_thrown : Int32) (m_wanted : Int32) (m_row : Nat → Int32) (m_hand : Nat → Int32), (0 ≤ Int32.toInt x1 ∧ Int32.toInt x1 ≤ 8) → (0 ≤ Int32.toInt x2 ∧ Int32.toInt x2 ≤ 255) → (1 ≤ Int32.toInt x3 ∧ Int32.toInt x3 ≤ 256) → (0 ≤ Int32.toInt m_rowMany ∧ Int32.toInt m_rowMany ≤ 16) → (0 ≤ Int32.toInt m_thrown ∧ Int32.toInt m_thrown ≤ 0) → (0 ≤ Int32.toInt m_wanted ∧ Int32.toInt m_wanted ≤ 65535) → (∀ k : Nat, 0 ≤ Int32.toInt (m_hand k) ∧ Int32.toInt (m_hand k) ≤ 65535) → (256 - Int32.toInt x3 < n25) → K25 x1 x2 x3 m_rowMany m_thrown m_wanted m_row m_hand) (x1 : Int32) (x3 : Int32) (m_rowMany : Int32) (m_thrown : Int32) (m_wanted : Int32) (m_row : Nat → Int32) (m_hand : Nat → Int32) (h_x1 : 0 ≤ Int32.toInt x1 ∧ Int32.toInt x1 ≤ 8) (h_x3 : 1 ≤ Int32.toInt x3 ∧ Int32.toInt x3 ≤ 255) (h_m_rowMany : 0 ≤ Int32.toInt m_rowMany ∧ Int32.toInt m_rowMany ≤ 16) (h_m_thrown : 0 ≤ Int32.toInt m_thrown ∧ Int32.toInt m_thrown ≤ 0) (h_m_wanted : 0 ≤ Int32.toInt m_wanted ∧ Int32.toInt m_wanted ≤ 65535) (h_m_hand : ∀ k : Nat, 0 ≤ Int32.toInt (m_hand k) ∧ Int32.toInt (m_hand k) ≤ 65535) (hn25 : 256 - Int32.toInt x3 ≤ n25) : ws_X10_birds_80 post K25 m_fruits m_standings m_now m_x m_height m_worth m_ripe m_foot m_fork m_told x1 x3 m_rowMany m_thrown m_wanted m_row m_hand := by
  exact ts_X10_birds_82 m_fruits m_standings m_now m_x m_height m_worth m_ripe m_foot m_fork m_told h_m_fruits h_m_standings e0_m_now e1_m_now h_m_x h_m_height h_m_worth h_m_ripe h_m_foot h_m_fork e0_m_told e1_m_told hc0 hc1 hpost hK25 x1 x3 x3 m_rowMany m_thrown m_wanted m_row m_hand (by omega) (by omega) (by omega) (by omega) (by omega) (by omega) (fun k => by have q9 := h_m_hand k; omega) (by omega)
set_option maxHeartbeats 8000000 in
set_option maxRecDepth 200000 in
theorem ts_X10_birds_25 {post : Int32 → Int32 → Int32 → Int32 → (Nat → Int32) → (Nat → Int32) → Prop} {SB : Int} {next : Int32 → Int32 → Int32 → Int32 → Int32 → Int32 → (Nat → Int32) → (Nat → Int32) → Prop} {n25 : Int} (m_fruits : Int32) (m_standings : Int32) (m_now : Nat → Int32) (m_x : Nat → Int32) (m_height : Nat → Int32) (m_worth : Nat → Int32) (m_ripe : Nat → Int32) (m_foot : Nat → Int32) (m_fork : Nat → Int32) (m_told : Nat → Int32) (h_m_fruits : 0 ≤ Int32.toInt m_fruits ∧ Int32.toInt m_fruits ≤ 16) (h_m_standings : 0 ≤ Int32.toInt m_standings ∧ Int32.toInt m_standings ≤ 8) (e0_m_now : ∀ k : Nat, k = 17 → -1 ≤ Int32.toInt (m_now k) ∧ Int32.toInt (m_now k) ≤ SB) (e1_m_now : ∀ k : Nat, k = 19 → 0 ≤ Int32.toInt (m_now k) ∧ Int32.toInt (m_now k) ≤ 9) (h_m_x : ∀ k : Nat, 0 ≤ Int32.toInt (m_x k) ∧ Int32.toInt (m_x k) ≤ 99) (h_m_height : ∀ k : Nat, 0 ≤ Int32.toInt (m_height k) ∧ Int32.toInt (m_height k) ≤ 99) (h_m_worth : ∀ k : Nat, 0 ≤ Int32.toInt (m_worth k) ∧ Int32.toInt (m_worth k) ≤ 9) (h_m_ripe : ∀ k : Nat, 0 ≤ Int32.toInt (m_ripe k) ∧ Int32.toInt (m_ripe k) ≤ 9) (h_m_foot : ∀ k : Nat, 0 ≤ Int32.toInt (m_foot k) ∧ Int32.toInt (m_foot k) ≤ 99) (h_m_fork : ∀ k : Nat, 0 ≤ Int32.toInt (m_fork k) ∧ Int32.toInt (m_fork k) ≤ 99) (e0_m_told : ∀ k : Nat, k = 4 → 1 ≤ Int32.toInt (m_told k) ∧ Int32.toInt (m_told k) ≤ 30) (e1_m_told : ∀ k : Nat, k = 3 → 0 ≤ Int32.toInt (m_told k) ∧ Int32.toInt (m_told k) ≤ 9) (hc0 : -1 ≤ SB ∧ SB ≤ 7) (hc1 : (Int32.toInt m_standings ≤ 0 ∧ SB = 0) ∨ (1 ≤ Int32.toInt m_standings ∧ SB = Int32.toInt m_standings - 1)) (hpost : ∀ (r : Int32) (m_rowMany' : Int32) (m_thrown' : Int32) (m_wanted' : Int32) (m_row' : Nat → Int32) (m_hand' : Nat → Int32), (0 ≤ Int32.toInt m_rowMany' ∧ Int32.toInt m_rowMany' ≤ 16) → (0 ≤ Int32.toInt m_thrown' ∧ Int32.toInt m_thrown' ≤ 0) → (0 ≤ Int32.toInt m_wanted' ∧ Int32.toInt m_wanted' ≤ 65535) → (∀ k : Nat, 0 ≤ Int32.toInt (m_hand' k) ∧ Int32.toInt (m_hand' k) ≤ 65535) → post r m_rowMany' m_thrown' m_wanted' m_row' m_hand') (hKn : ∀ (x1 : Int32) (x2 : Int32) (x3 : Int32) (m_rowMany : Int32) (m_thrown : Int32) (m_wanted : Int32) (m_row : Nat → Int32) (m_hand : Nat → Int32), (0 ≤ Int32.toInt x1 ∧ Int32.toInt x1 ≤ 8) → (0 ≤ Int32.toInt x2 ∧ Int32.toInt x2 ≤ 255) → (1 ≤ Int32.toInt x3 ∧ Int32.toInt x3 ≤ 256) → (0 ≤ Int32.toInt m_rowMany ∧ Int32.toInt m_rowMany ≤ 16) → (0 ≤ Int32.toInt m_thrown ∧ Int32.toInt m_thrown ≤ 0) → (0 ≤ Int32.toInt m_wanted ∧ Int32.toInt m_wanted ≤ 65535) → (∀ k : Nat, 0 ≤ Int32.toInt (m_hand k) ∧ Int32.toInt (m_hand k) ≤ 65535) → (256 - Int32.toInt x3 < n25) → next x1 x2 x3 m_rowMany m_thrown m_wanted m_row m_hand) (x1 : Int32) (x2 : Int32) (x3 : Int32) (m_rowMany : Int32) (m_thrown : Int32) (m_wanted : Int32) (m_row : Nat → Int32) (m_hand : Nat → Int32) (h_x1 : 0 ≤ Int32.toInt x1 ∧ Int32.toInt x1 ≤ 8) (h_x2 : 0 ≤ Int32.toInt x2 ∧ Int32.toInt x2 ≤ 255) (h_x3 : 1 ≤ Int32.toInt x3 ∧ Int32.toInt x3 ≤ 256) (h_m_rowMany : 0 ≤ Int32.toInt m_rowMany ∧ Int32.toInt m_rowMany ≤ 16) (h_m_thrown : 0 ≤ Int32.toInt m_thrown ∧ Int32.toInt m_thrown ≤ 0) (h_m_wanted : 0 ≤ Int32.toInt m_wanted ∧ Int32.toInt m_wanted ≤ 65535) (h_m_hand : ∀ k : Nat, 0 ≤ Int32.toInt (m_hand k) ∧ Int32.toInt (m_hand k) ≤ 65535) (hn25 : 256 - Int32.toInt x3 ≤ n25) : ws_X10_birds_25 post next m_fruits m_standings m_now m_x m_height m_worth m_ripe m_foot m_fork m_told x1 x2 x3 m_rowMany m_thrown m_wanted m_row m_hand := by
  have l0 : Int32.toInt (0 : Int32) = 0 := (by decide)
  have l1 : Int32.toInt (1 : Int32) = 1 := (by decide)
  have l2 : Int32.toInt (1431655765 : Int32) = 1431655765 := (by decide)
  have l3 : Int32.toInt (16 : Int32) = 16 := (by decide)
  have l4 : Int32.toInt (252645135 : Int32) = 252645135 := (by decide)
  have l5 : Int32.toInt (63 : Int32) = 63 := (by decide)
  have l6 : Int32.toInt (858993459 : Int32) = 858993459 := (by decide)
  intro v3 ev3
  have f4 := ti_shl1 8 256 m_standings (by decide) (by omega)
  have hv3 := congrArg Int32.toInt ev3
  have f6 : Int32.toInt (v3 - 1) = Int32.toInt v3 - Int32.toInt (1 : Int32) := ta_sub _ _ (by omega)
  refine And.intro (fun c5 => ?_) (fun c5 => ?_)
  · skip
    have c5 := (fa_lt _ _).mp c5
    refine And.intro (t_in (by omega)) ?_
    intro v7 ev7
    have f8 : Int32.toInt (0 + 1) = Int32.toInt (0 : Int32) + Int32.toInt (1 : Int32) := ta_add _ _ (by omega)
    rw [← ev7] at f8
    refine t_X10_handOf (by omega) (by omega) (fun k => by have q9 := h_m_hand k; omega) (fun r9 h_r9 => ?_)
    intro v10 ev10
    have f12 := ti_andl m_wanted (r9 ^^^ (-1)) (by omega)
    have hv10 := congrArg Int32.toInt ev10
    refine And.intro (t_in (by omega)) ?_
    intro v13 ev13
    have f14 : Int32.toInt (v7 + 1) = Int32.toInt v7 + Int32.toInt (1 : Int32) := ta_add _ _ (by omega)
    rw [← ev13] at f14
    refine t_X10_handOf (by omega) (by omega) (fun k => by have q9 := h_m_hand k; omega) (fun r15 h_r15 => ?_)
    intro v16 ev16
    have f18 := ti_andl m_wanted (r15 ^^^ (-1)) (by omega)
    have hv16 := congrArg Int32.toInt ev16
    intro v19 ev19
    have hv19 := congrArg Int32.toInt ev19
    refine t_X10_worthOfAll (by omega) (by omega) (fun k => by have q9 := h_m_worth k; omega) (fun r21 => ?_)
    exact hpost _ _ _ _ _ _ (by omega) (by omega) (by omega) (fun k => by have q9 := h_m_hand k; omega)
  · skip
    have c5 := mt (fa_lt _ _).mpr c5
    intro v22 ev22
    intro v23 ev23
    have f25 := ti_andr v22 1431655765 (by omega)
    have f24 : Int32.toInt (x3 - (v22 &&& 1431655765)) = Int32.toInt x3 - Int32.toInt (v22 &&& 1431655765) := ta_sub _ _ (by omega)
    rw [← ev23] at f24
    intro v26 ev26
    have f27 := ti_andr v23 858993459 (by omega)
    have hv26 := congrArg Int32.toInt ev26
    intro v28 ev28
    intro v29 ev29
    have f31 := ti_andr v28 858993459 (by omega)
    have f30 : Int32.toInt (v26 + (v28 &&& 858993459)) = Int32.toInt v26 + Int32.toInt (v28 &&& 858993459) := ta_add _ _ (by omega)
    rw [← ev29] at f30
    intro v32 ev32
    have hv32 := congrArg Int32.toInt ev32
    intro v34 ev34
    have f35 := ti_andr v32 252645135 (by omega)
    have hv34 := congrArg Int32.toInt ev34
    intro v36 ev36
    have hv36 := congrArg Int32.toInt ev36
    intro v38 ev38
    have hv38 := congrArg Int32.toInt ev38
    have f41 := ti_andr v38 63 (by omega)
    refine And.intro (fun c40 => ?_) (fun c40 => ?_)
    · skip
      have c40 := (fa_le _ _).mp c40
      refine t_X10_handOf (by omega) (by omega) (fun k => by have q9 := h_m_hand k; omega) (fun r42 h_r42 => ?_)
      intro v43 ev43
      have f45 := ti_andl m_wanted (r42 ^^^ (-1)) (by omega)
      have hv43 := congrArg Int32.toInt ev43
      intro v46 ev46
      have hv46 := congrArg Int32.toInt ev46
      refine t_X10_worthOfAll (by omega) (by omega) (fun k => by have q9 := h_m_worth k; omega) (fun r48 => ?_)
      refine t_X10_handOf (by omega) (by omega) (fun k => by have q9 := h_m_hand k; omega) (fun r49 h_r49 => ?_)
      intro v50 ev50
      have f52 := ti_andl m_wanted (r49 ^^^ (-1)) (by omega)
      have hv50 := congrArg Int32.toInt ev50
      intro v53 ev53
      have hv53 := congrArg Int32.toInt ev53
      refine t_X10_worthOfAll (by omega) (by omega) (fun k => by have q9 := h_m_worth k; omega) (fun r54 => ?_)
      intro v55 ev55
      have hv55 := congrArg Int32.toInt ev55
      have f58 := tp_r v55
      refine And.intro (fun c57 => ?_) (fun c57 => ?_)
      · skip
        have c57 := (fa_lt _ _).mp c57
        exact ts_X10_birds_80 m_fruits m_standings m_now m_x m_height m_worth m_ripe m_foot m_fork m_told h_m_fruits h_m_standings e0_m_now e1_m_now h_m_x h_m_height h_m_worth h_m_ripe h_m_foot h_m_fork e0_m_told e1_m_told hc0 hc1 hpost hKn x1 x3 m_rowMany m_thrown m_wanted m_row m_hand (by omega) (by omega) (by omega) (by omega) (by omega) (fun k => by have q9 := h_m_hand k; omega) (by omega)
      · skip
        have c57 := mt (fa_lt _ _).mpr c57
        refine And.intro (fun c59 => ?_) (fun c59 => ?_)
        · skip
          have c59 := mt (fa_eq _ _).mpr c59
          exact ts_X10_birds_82 m_fruits m_standings m_now m_x m_height m_worth m_ripe m_foot m_fork m_told h_m_fruits h_m_standings e0_m_now e1_m_now h_m_x h_m_height h_m_worth h_m_ripe h_m_foot h_m_fork e0_m_told e1_m_told hc0 hc1 hpost hKn x1 x2 x3 m_rowMany m_thrown m_wanted m_row m_hand (by omega) (by omega) (by omega) (by omega) (by omega) (by omega) (fun k => by have q9 := h_m_hand k; omega) (by omega)
        · skip
          have c59 := (fa_eq _ _).mp c59
          intro v60 ev60
          intro v61 ev61
          have f63 := ti_andr v60 1431655765 (by omega)
          have f62 : Int32.toInt (x2 - (v60 &&& 1431655765)) = Int32.toInt x2 - Int32.toInt (v60 &&& 1431655765) := ta_sub _ _ (by omega)
          rw [← ev61] at f62
          intro v64 ev64
          have f65 := ti_andr v61 858993459 (by omega)
          have hv64 := congrArg Int32.toInt ev64
          intro v66 ev66
          intro v67 ev67
          have f69 := ti_andr v66 858993459 (by omega)
          have f68 : Int32.toInt (v64 + (v66 &&& 858993459)) = Int32.toInt v64 + Int32.toInt (v66 &&& 858993459) := ta_add _ _ (by omega)
          rw [← ev67] at f68
          intro v70 ev70
          have hv70 := congrArg Int32.toInt ev70
          intro v72 ev72
          have f73 := ti_andr v70 252645135 (by omega)
          have hv72 := congrArg Int32.toInt ev72
          intro v74 ev74
          have hv74 := congrArg Int32.toInt ev74
          intro v76 ev76
          have hv76 := congrArg Int32.toInt ev76
          have f79 := ti_andr v76 63 (by omega)
          refine And.intro (fun c78 => ?_) (fun c78 => ?_)
          · skip
            have c78 := (fa_le _ _).mp c78
            exact ts_X10_birds_82 m_fruits m_standings m_now m_x m_height m_worth m_ripe m_foot m_fork m_told h_m_fruits h_m_standings e0_m_now e1_m_now h_m_x h_m_height h_m_worth h_m_ripe h_m_foot h_m_fork e0_m_told e1_m_told hc0 hc1 hpost hKn x1 x2 x3 m_rowMany m_thrown m_wanted m_row m_hand (by omega) (by omega) (by omega) (by omega) (by omega) (by omega) (fun k => by have q9 := h_m_hand k; omega) (by omega)
          · skip
            have c78 := mt (fa_le _ _).mpr c78
            exact ts_X10_birds_80 m_fruits m_standings m_now m_x m_height m_worth m_ripe m_foot m_fork m_told h_m_fruits h_m_standings e0_m_now e1_m_now h_m_x h_m_height h_m_worth h_m_ripe h_m_foot h_m_fork e0_m_told e1_m_told hc0 hc1 hpost hKn x1 x3 m_rowMany m_thrown m_wanted m_row m_hand (by omega) (by omega) (by omega) (by omega) (by omega) (fun k => by have q9 := h_m_hand k; omega) (by omega)
    · skip
      have c40 := mt (fa_le _ _).mpr c40
      exact ts_X10_birds_82 m_fruits m_standings m_now m_x m_height m_worth m_ripe m_foot m_fork m_told h_m_fruits h_m_standings e0_m_now e1_m_now h_m_x h_m_height h_m_worth h_m_ripe h_m_foot h_m_fork e0_m_told e1_m_told hc0 hc1 hpost hKn x1 x2 x3 m_rowMany m_thrown m_wanted m_row m_hand (by omega) (by omega) (by omega) (by omega) (by omega) (by omega) (fun k => by have q9 := h_m_hand k; omega) (by omega)
set_option maxHeartbeats 8000000 in
set_option maxRecDepth 200000 in
theorem tb_X10_birds_25 {post : Int32 → Int32 → Int32 → Int32 → (Nat → Int32) → (Nat → Int32) → Prop} {SB : Int} (m_fruits : Int32) (m_standings : Int32) (m_now : Nat → Int32) (m_x : Nat → Int32) (m_height : Nat → Int32) (m_worth : Nat → Int32) (m_ripe : Nat → Int32) (m_foot : Nat → Int32) (m_fork : Nat → Int32) (m_told : Nat → Int32) (h_m_fruits : 0 ≤ Int32.toInt m_fruits ∧ Int32.toInt m_fruits ≤ 16) (h_m_standings : 0 ≤ Int32.toInt m_standings ∧ Int32.toInt m_standings ≤ 8) (e0_m_now : ∀ k : Nat, k = 17 → -1 ≤ Int32.toInt (m_now k) ∧ Int32.toInt (m_now k) ≤ SB) (e1_m_now : ∀ k : Nat, k = 19 → 0 ≤ Int32.toInt (m_now k) ∧ Int32.toInt (m_now k) ≤ 9) (h_m_x : ∀ k : Nat, 0 ≤ Int32.toInt (m_x k) ∧ Int32.toInt (m_x k) ≤ 99) (h_m_height : ∀ k : Nat, 0 ≤ Int32.toInt (m_height k) ∧ Int32.toInt (m_height k) ≤ 99) (h_m_worth : ∀ k : Nat, 0 ≤ Int32.toInt (m_worth k) ∧ Int32.toInt (m_worth k) ≤ 9) (h_m_ripe : ∀ k : Nat, 0 ≤ Int32.toInt (m_ripe k) ∧ Int32.toInt (m_ripe k) ≤ 9) (h_m_foot : ∀ k : Nat, 0 ≤ Int32.toInt (m_foot k) ∧ Int32.toInt (m_foot k) ≤ 99) (h_m_fork : ∀ k : Nat, 0 ≤ Int32.toInt (m_fork k) ∧ Int32.toInt (m_fork k) ≤ 99) (e0_m_told : ∀ k : Nat, k = 4 → 1 ≤ Int32.toInt (m_told k) ∧ Int32.toInt (m_told k) ≤ 30) (e1_m_told : ∀ k : Nat, k = 3 → 0 ≤ Int32.toInt (m_told k) ∧ Int32.toInt (m_told k) ≤ 9) (hc0 : -1 ≤ SB ∧ SB ≤ 7) (hc1 : (Int32.toInt m_standings ≤ 0 ∧ SB = 0) ∨ (1 ≤ Int32.toInt m_standings ∧ SB = Int32.toInt m_standings - 1)) (hpost : ∀ (r : Int32) (m_rowMany' : Int32) (m_thrown' : Int32) (m_wanted' : Int32) (m_row' : Nat → Int32) (m_hand' : Nat → Int32), (0 ≤ Int32.toInt m_rowMany' ∧ Int32.toInt m_rowMany' ≤ 16) → (0 ≤ Int32.toInt m_thrown' ∧ Int32.toInt m_thrown' ≤ 0) → (0 ≤ Int32.toInt m_wanted' ∧ Int32.toInt m_wanted' ≤ 65535) → (∀ k : Nat, 0 ≤ Int32.toInt (m_hand' k) ∧ Int32.toInt (m_hand' k) ≤ 65535) → post r m_rowMany' m_thrown' m_wanted' m_row' m_hand') : ∀ (n : Nat) (x1 : Int32) (x2 : Int32) (x3 : Int32) (m_rowMany : Int32) (m_thrown : Int32) (m_wanted : Int32) (m_row : Nat → Int32) (m_hand : Nat → Int32), (0 ≤ Int32.toInt x1 ∧ Int32.toInt x1 ≤ 8) → (0 ≤ Int32.toInt x2 ∧ Int32.toInt x2 ≤ 255) → (1 ≤ Int32.toInt x3 ∧ Int32.toInt x3 ≤ 256) → (0 ≤ Int32.toInt m_rowMany ∧ Int32.toInt m_rowMany ≤ 16) → (0 ≤ Int32.toInt m_thrown ∧ Int32.toInt m_thrown ≤ 0) → (0 ≤ Int32.toInt m_wanted ∧ Int32.toInt m_wanted ≤ 65535) → (∀ k : Nat, 0 ≤ Int32.toInt (m_hand k) ∧ Int32.toInt (m_hand k) ≤ 65535) → (256 - Int32.toInt x3 < (n : Int)) → wb_X10_birds_25 post m_fruits m_standings m_now m_x m_height m_worth m_ripe m_foot m_fork m_told n x1 x2 x3 m_rowMany m_thrown m_wanted m_row m_hand := by
  intro n
  induction n with
  | zero =>
    intro x1 x2 x3 m_rowMany m_thrown m_wanted m_row m_hand h_x1 h_x2 h_x3 h_m_rowMany h_m_thrown h_m_wanted h_m_hand hm
    exfalso; omega
  | succ n ih =>
    intro x1 x2 x3 m_rowMany m_thrown m_wanted m_row m_hand h_x1 h_x2 h_x3 h_m_rowMany h_m_thrown h_m_wanted h_m_hand hm
    exact ts_X10_birds_25 m_fruits m_standings m_now m_x m_height m_worth m_ripe m_foot m_fork m_told h_m_fruits h_m_standings e0_m_now e1_m_now h_m_x h_m_height h_m_worth h_m_ripe h_m_foot h_m_fork e0_m_told e1_m_told hc0 hc1 hpost ih x1 x2 x3 m_rowMany m_thrown m_wanted m_row m_hand h_x1 h_x2 h_x3 h_m_rowMany h_m_thrown h_m_wanted h_m_hand (by omega)
set_option maxHeartbeats 8000000 in
set_option maxRecDepth 200000 in
theorem t_X10_birds {post : Int32 → Int32 → Int32 → Int32 → (Nat → Int32) → (Nat → Int32) → Prop} {SB : Int} {p0 : Int32} {m_fruits : Int32} {m_standings : Int32} {m_rowMany : Int32} {m_thrown : Int32} {m_wanted : Int32} {m_now : Nat → Int32} {m_x : Nat → Int32} {m_height : Nat → Int32} {m_worth : Nat → Int32} {m_ripe : Nat → Int32} {m_foot : Nat → Int32} {m_fork : Nat → Int32} {m_told : Nat → Int32} {m_row : Nat → Int32} {m_hand : Nat → Int32} (h_m_fruits : 0 ≤ Int32.toInt m_fruits ∧ Int32.toInt m_fruits ≤ 16) (h_m_standings : 0 ≤ Int32.toInt m_standings ∧ Int32.toInt m_standings ≤ 8) (h_m_rowMany : 0 ≤ Int32.toInt m_rowMany ∧ Int32.toInt m_rowMany ≤ 16) (h_m_thrown : 0 ≤ Int32.toInt m_thrown ∧ Int32.toInt m_thrown ≤ 1) (h_m_wanted : 0 ≤ Int32.toInt m_wanted ∧ Int32.toInt m_wanted ≤ 65535) (e0_m_now : ∀ k : Nat, k = 17 → -1 ≤ Int32.toInt (m_now k) ∧ Int32.toInt (m_now k) ≤ SB) (e1_m_now : ∀ k : Nat, k = 19 → 0 ≤ Int32.toInt (m_now k) ∧ Int32.toInt (m_now k) ≤ 9) (h_m_x : ∀ k : Nat, 0 ≤ Int32.toInt (m_x k) ∧ Int32.toInt (m_x k) ≤ 99) (h_m_height : ∀ k : Nat, 0 ≤ Int32.toInt (m_height k) ∧ Int32.toInt (m_height k) ≤ 99) (h_m_worth : ∀ k : Nat, 0 ≤ Int32.toInt (m_worth k) ∧ Int32.toInt (m_worth k) ≤ 9) (h_m_ripe : ∀ k : Nat, 0 ≤ Int32.toInt (m_ripe k) ∧ Int32.toInt (m_ripe k) ≤ 9) (h_m_foot : ∀ k : Nat, 0 ≤ Int32.toInt (m_foot k) ∧ Int32.toInt (m_foot k) ≤ 99) (h_m_fork : ∀ k : Nat, 0 ≤ Int32.toInt (m_fork k) ∧ Int32.toInt (m_fork k) ≤ 99) (e0_m_told : ∀ k : Nat, k = 4 → 1 ≤ Int32.toInt (m_told k) ∧ Int32.toInt (m_told k) ≤ 30) (e1_m_told : ∀ k : Nat, k = 3 → 0 ≤ Int32.toInt (m_told k) ∧ Int32.toInt (m_told k) ≤ 9) (h_m_hand : ∀ k : Nat, 0 ≤ Int32.toInt (m_hand k) ∧ Int32.toInt (m_hand k) ≤ 65535) (hc0 : -1 ≤ SB ∧ SB ≤ 7) (hc1 : (Int32.toInt m_standings ≤ 0 ∧ SB = 0) ∨ (1 ≤ Int32.toInt m_standings ∧ SB = Int32.toInt m_standings - 1)) (hpost : ∀ (r : Int32) (m_rowMany' : Int32) (m_thrown' : Int32) (m_wanted' : Int32) (m_row' : Nat → Int32) (m_hand' : Nat → Int32), (0 ≤ Int32.toInt m_rowMany' ∧ Int32.toInt m_rowMany' ≤ 16) → (0 ≤ Int32.toInt m_thrown' ∧ Int32.toInt m_thrown' ≤ 0) → (0 ≤ Int32.toInt m_wanted' ∧ Int32.toInt m_wanted' ≤ 65535) → (∀ k : Nat, 0 ≤ Int32.toInt (m_hand' k) ∧ Int32.toInt (m_hand' k) ≤ 65535) → post r m_rowMany' m_thrown' m_wanted' m_row' m_hand') : wp_X10_birds post p0 m_fruits m_standings m_rowMany m_thrown m_wanted m_now m_x m_height m_worth m_ripe m_foot m_fork m_told m_row m_hand := by
  have l0 : Int32.toInt (0 : Int32) = 0 := (by decide)
  have l1 : Int32.toInt (1 : Int32) = 1 := (by decide)
  have l2 : Int32.toInt (18 : Int32) = 18 := (by decide)
  have l3 : Int32.toInt (8 : Int32) = 8 := (by decide)
  have f81 := tp_r p0
  refine And.intro (fun c80 => ?_) (fun c80 => ?_)
  · skip
    have c80 := (fa_lt _ _).mp c80
    refine And.intro (fun h9 => absurd h9 (by decide)) (fun _ => ?_)
    exact hpost _ _ _ _ _ _ (by omega) (by omega) (by omega) (fun k => by have q9 := h_m_hand k; omega)
  · skip
    have c80 := mt (fa_lt _ _).mpr c80
    refine And.intro (fun c82 => ?_) (fun c82 => ?_)
    · skip
      have c82 := (fa_lt _ _).mp c82
      refine And.intro (fun h9 => absurd h9 (by decide)) (fun _ => ?_)
      exact hpost _ _ _ _ _ _ (by omega) (by omega) (by omega) (fun k => by have q9 := h_m_hand k; omega)
    · skip
      have c82 := mt (fa_lt _ _).mpr c82
      refine And.intro (fun _ => ?_) (fun h9 => absurd h9 (by decide))
      intro v83 ev83
      have hv83 := congrArg Int32.toInt ev83
      refine t_X10_layHands_ (by omega) (by omega) (by omega) e0_m_now e1_m_now (fun k => by have q9 := h_m_x k; omega) (fun k => by have q9 := h_m_height k; omega) (fun k => by have q9 := h_m_ripe k; omega) (fun k => by have q9 := h_m_foot k; omega) (fun k => by have q9 := h_m_fork k; omega) e0_m_told e1_m_told (fun k => by have q9 := h_m_hand k; omega) (by omega) (by omega) (fun m_wanted_85 m_hand_86 h_m_wanted_85 h_m_hand_86 => ?_)
      exact ⟨257, tb_X10_birds_25 m_fruits m_standings m_now m_x m_height m_worth m_ripe m_foot m_fork m_told h_m_fruits h_m_standings e0_m_now e1_m_now h_m_x h_m_height h_m_worth h_m_ripe h_m_foot h_m_fork e0_m_told e1_m_told hc0 hc1 hpost _ p0 0 1 m_rowMany 0 m_wanted_85 m_row m_hand_86 (by omega) (by omega) (by omega) (by omega) (by omega) (by omega) (fun k => by have q9 := h_m_hand_86 k; omega) (by omega)⟩
set_option maxHeartbeats 8000000 in
set_option maxRecDepth 200000 in
theorem ts_X10_next_71 {post : Int32 → Int32 → Int32 → Int32 → (Nat → Int32) → (Nat → Int32) → Prop} {SB : Int} {K28 : Int32 → Int32 → Int32 → Int32 → Int32 → Int32 → (Nat → Int32) → (Nat → Int32) → Prop} {n28 : Int} (m_fruits : Int32) (m_standings : Int32) (m_now : Nat → Int32) (m_x : Nat → Int32) (m_height : Nat → Int32) (m_worth : Nat → Int32) (m_ripe : Nat → Int32) (m_foot : Nat → Int32) (m_fork : Nat → Int32) (m_told : Nat → Int32) (h_m_fruits : 0 ≤ Int32.toInt m_fruits ∧ Int32.toInt m_fruits ≤ 16) (h_m_standings : 0 ≤ Int32.toInt m_standings ∧ Int32.toInt m_standings ≤ 8) (e0_m_now : ∀ k : Nat, k = 17 → -1 ≤ Int32.toInt (m_now k) ∧ Int32.toInt (m_now k) ≤ SB) (e1_m_now : ∀ k : Nat, k = 19 → 0 ≤ Int32.toInt (m_now k) ∧ Int32.toInt (m_now k) ≤ 9) (h_m_x : ∀ k : Nat, 0 ≤ Int32.toInt (m_x k) ∧ Int32.toInt (m_x k) ≤ 99) (h_m_height : ∀ k : Nat, 0 ≤ Int32.toInt (m_height k) ∧ Int32.toInt (m_height k) ≤ 99) (h_m_worth : ∀ k : Nat, 0 ≤ Int32.toInt (m_worth k) ∧ Int32.toInt (m_worth k) ≤ 9) (h_m_ripe : ∀ k : Nat, 0 ≤ Int32.toInt (m_ripe k) ∧ Int32.toInt (m_ripe k) ≤ 9) (h_m_foot : ∀ k : Nat, 0 ≤ Int32.toInt (m_foot k) ∧ Int32.toInt (m_foot k) ≤ 99) (h_m_fork : ∀ k : Nat, 0 ≤ Int32.toInt (m_fork k) ∧ Int32.toInt (m_fork k) ≤ 99) (e0_m_told : ∀ k : Nat, k = 4 → 1 ≤ Int32.toInt (m_told k) ∧ Int32.toInt (m_told k) ≤ 30) (e1_m_told : ∀ k : Nat, k = 3 → 0 ≤ Int32.toInt (m_told k) ∧ Int32.toInt (m_told k) ≤ 9) (hc0 : -1 ≤ SB ∧ SB ≤ 7) (hc1 : (Int32.toInt m_standings ≤ 0 ∧ SB = 0) ∨ (1 ≤ Int32.toInt m_standings ∧ SB = Int32.toInt m_standings - 1)) (hpost : ∀ (r : Int32) (m_rowMany' : Int32) (m_thrown' : Int32) (m_wanted' : Int32) (m_row' : Nat → Int32) (m_hand' : Nat → Int32), (-2 ≤ Int32.toInt r ∧ Int32.toInt r ≤ 7) → (0 ≤ Int32.toInt m_rowMany' ∧ Int32.toInt m_rowMany' ≤ 16) → (0 ≤ Int32.toInt m_thrown' ∧ Int32.toInt m_thrown' ≤ 0) → (0 ≤ Int32.toInt m_wanted' ∧ Int32.toInt m_wanted' ≤ 65535) → (∀ k : Nat, 0 ≤ Int32.toInt (m_hand' k) ∧ Int32.toInt (m_hand' k) ≤ 65535) → post r m_rowMany' m_thrown' m_wanted' m_row' m_hand') (hK28 : ∀ (x1 : Int32) (x2 : Int32) (x3 : Int32) (m_rowMany : Int32) (m_thrown : Int32) (m_wanted : Int32) (m_row : Nat → Int32) (m_hand : Nat → Int32), (0 ≤ Int32.toInt x1 ∧ Int32.toInt x1 ≤ 255) → (-2 ≤ Int32.toInt x2 ∧ Int32.toInt x2 ≤ 7) → (0 ≤ Int32.toInt x3 ∧ Int32.toInt x3 ≤ 8) → (0 ≤ Int32.toInt m_rowMany ∧ Int32.toInt m_rowMany ≤ 16) → (0 ≤ Int32.toInt m_thrown ∧ Int32.toInt m_thrown ≤ 0) → (0 ≤ Int32.toInt m_wanted ∧ Int32.toInt m_wanted ≤ 65535) → (∀ k : Nat, 0 ≤ Int32.toInt (m_hand k) ∧ Int32.toInt (m_hand k) ≤ 65535) → (8 - Int32.toInt x3 < n28) → K28 x1 x2 x3 m_rowMany m_thrown m_wanted m_row m_hand) (x1 : Int32) (x2 : Int32) (x3 : Int32) (m_rowMany : Int32) (m_thrown : Int32) (m_wanted : Int32) (m_row : Nat → Int32) (m_hand : Nat → Int32) (h_x1 : 0 ≤ Int32.toInt x1 ∧ Int32.toInt x1 ≤ 255) (h_x2 : -2 ≤ Int32.toInt x2 ∧ Int32.toInt x2 ≤ 7) (h_x3 : 0 ≤ Int32.toInt x3 ∧ Int32.toInt x3 ≤ 7) (h_m_rowMany : 0 ≤ Int32.toInt m_rowMany ∧ Int32.toInt m_rowMany ≤ 16) (h_m_thrown : 0 ≤ Int32.toInt m_thrown ∧ Int32.toInt m_thrown ≤ 0) (h_m_wanted : 0 ≤ Int32.toInt m_wanted ∧ Int32.toInt m_wanted ≤ 65535) (h_m_hand : ∀ k : Nat, 0 ≤ Int32.toInt (m_hand k) ∧ Int32.toInt (m_hand k) ≤ 65535) (hn28 : 8 - Int32.toInt x3 ≤ n28) : ws_X10_next_71 post K28 m_fruits m_standings m_now m_x m_height m_worth m_ripe m_foot m_fork m_told x1 x2 x3 m_rowMany m_thrown m_wanted m_row m_hand := by
  have l0 : Int32.toInt (1 : Int32) = 1 := (by decide)
  intro v1 ev1
  have f2 : Int32.toInt (x3 + 1) = Int32.toInt x3 + Int32.toInt (1 : Int32) := ta_add _ _ (by omega)
  rw [← ev1] at f2
  exact hK28 x1 x2 v1 m_rowMany m_thrown m_wanted m_row m_hand (by omega) (by omega) (by omega) (by omega) (by omega) (by omega) (fun k => by have q9 := h_m_hand k; omega) (by omega)
set_option maxHeartbeats 8000000 in
set_option maxRecDepth 200000 in
theorem ts_X10_next_69 {post : Int32 → Int32 → Int32 → Int32 → (Nat → Int32) → (Nat → Int32) → Prop} {SB : Int} {K28 : Int32 → Int32 → Int32 → Int32 → Int32 → Int32 → (Nat → Int32) → (Nat → Int32) → Prop} {n28 : Int} (m_fruits : Int32) (m_standings : Int32) (m_now : Nat → Int32) (m_x : Nat → Int32) (m_height : Nat → Int32) (m_worth : Nat → Int32) (m_ripe : Nat → Int32) (m_foot : Nat → Int32) (m_fork : Nat → Int32) (m_told : Nat → Int32) (h_m_fruits : 0 ≤ Int32.toInt m_fruits ∧ Int32.toInt m_fruits ≤ 16) (h_m_standings : 0 ≤ Int32.toInt m_standings ∧ Int32.toInt m_standings ≤ 8) (e0_m_now : ∀ k : Nat, k = 17 → -1 ≤ Int32.toInt (m_now k) ∧ Int32.toInt (m_now k) ≤ SB) (e1_m_now : ∀ k : Nat, k = 19 → 0 ≤ Int32.toInt (m_now k) ∧ Int32.toInt (m_now k) ≤ 9) (h_m_x : ∀ k : Nat, 0 ≤ Int32.toInt (m_x k) ∧ Int32.toInt (m_x k) ≤ 99) (h_m_height : ∀ k : Nat, 0 ≤ Int32.toInt (m_height k) ∧ Int32.toInt (m_height k) ≤ 99) (h_m_worth : ∀ k : Nat, 0 ≤ Int32.toInt (m_worth k) ∧ Int32.toInt (m_worth k) ≤ 9) (h_m_ripe : ∀ k : Nat, 0 ≤ Int32.toInt (m_ripe k) ∧ Int32.toInt (m_ripe k) ≤ 9) (h_m_foot : ∀ k : Nat, 0 ≤ Int32.toInt (m_foot k) ∧ Int32.toInt (m_foot k) ≤ 99) (h_m_fork : ∀ k : Nat, 0 ≤ Int32.toInt (m_fork k) ∧ Int32.toInt (m_fork k) ≤ 99) (e0_m_told : ∀ k : Nat, k = 4 → 1 ≤ Int32.toInt (m_told k) ∧ Int32.toInt (m_told k) ≤ 30) (e1_m_told : ∀ k : Nat, k = 3 → 0 ≤ Int32.toInt (m_told k) ∧ Int32.toInt (m_told k) ≤ 9) (hc0 : -1 ≤ SB ∧ SB ≤ 7) (hc1 : (Int32.toInt m_standings ≤ 0 ∧ SB = 0) ∨ (1 ≤ Int32.toInt m_standings ∧ SB = Int32.toInt m_standings - 1)) (hpost : ∀ (r : Int32) (m_rowMany' : Int32) (m_thrown' : Int32) (m_wanted' : Int32) (m_row' : Nat → Int32) (m_hand' : Nat → Int32), (-2 ≤ Int32.toInt r ∧ Int32.toInt r ≤ 7) → (0 ≤ Int32.toInt m_rowMany' ∧ Int32.toInt m_rowMany' ≤ 16) → (0 ≤ Int32.toInt m_thrown' ∧ Int32.toInt m_thrown' ≤ 0) → (0 ≤ Int32.toInt m_wanted' ∧ Int32.toInt m_wanted' ≤ 65535) → (∀ k : Nat, 0 ≤ Int32.toInt (m_hand' k) ∧ Int32.toInt (m_hand' k) ≤ 65535) → post r m_rowMany' m_thrown' m_wanted' m_row' m_hand') (hK28 : ∀ (x1 : Int32) (x2 : Int32) (x3 : Int32) (m_rowMany : Int32) (m_thrown : Int32) (m_wanted : Int32) (m_row : Nat → Int32) (m_hand : Nat → Int32), (0 ≤ Int32.toInt x1 ∧ Int32.toInt x1 ≤ 255) → (-2 ≤ Int32.toInt x2 ∧ Int32.toInt x2 ≤ 7) → (0 ≤ Int32.toInt x3 ∧ Int32.toInt x3 ≤ 8) → (0 ≤ Int32.toInt m_rowMany ∧ Int32.toInt m_rowMany ≤ 16) → (0 ≤ Int32.toInt m_thrown ∧ Int32.toInt m_thrown ≤ 0) → (0 ≤ Int32.toInt m_wanted ∧ Int32.toInt m_wanted ≤ 65535) → (∀ k : Nat, 0 ≤ Int32.toInt (m_hand k) ∧ Int32.toInt (m_hand k) ≤ 65535) → (8 - Int32.toInt x3 < n28) → K28 x1 x2 x3 m_rowMany m_thrown m_wanted m_row m_hand) (x1 : Int32) (x3 : Int32) (m_rowMany : Int32) (m_thrown : Int32) (m_wanted : Int32) (m_row : Nat → Int32) (m_hand : Nat → Int32) (h_x1 : 0 ≤ Int32.toInt x1 ∧ Int32.toInt x1 ≤ 255) (h_x3 : 0 ≤ Int32.toInt x3 ∧ Int32.toInt x3 ≤ 7) (h_m_rowMany : 0 ≤ Int32.toInt m_rowMany ∧ Int32.toInt m_rowMany ≤ 16) (h_m_thrown : 0 ≤ Int32.toInt m_thrown ∧ Int32.toInt m_thrown ≤ 0) (h_m_wanted : 0 ≤ Int32.toInt m_wanted ∧ Int32.toInt m_wanted ≤ 65535) (h_m_hand : ∀ k : Nat, 0 ≤ Int32.toInt (m_hand k) ∧ Int32.toInt (m_hand k) ≤ 65535) (hn28 : 8 - Int32.toInt x3 ≤ n28) : ws_X10_next_69 post K28 m_fruits m_standings m_now m_x m_height m_worth m_ripe m_foot m_fork m_told x1 x3 m_rowMany m_thrown m_wanted m_row m_hand := by
  exact ts_X10_next_71 m_fruits m_standings m_now m_x m_height m_worth m_ripe m_foot m_fork m_told h_m_fruits h_m_standings e0_m_now e1_m_now h_m_x h_m_height h_m_worth h_m_ripe h_m_foot h_m_fork e0_m_told e1_m_told hc0 hc1 hpost hK28 x1 x3 x3 m_rowMany m_thrown m_wanted m_row m_hand (by omega) (by omega) (by omega) (by omega) (by omega) (by omega) (fun k => by have q9 := h_m_hand k; omega) (by omega)
set_option maxHeartbeats 8000000 in
set_option maxRecDepth 200000 in
theorem ts_X10_next_28 {post : Int32 → Int32 → Int32 → Int32 → (Nat → Int32) → (Nat → Int32) → Prop} {SB : Int} {next : Int32 → Int32 → Int32 → Int32 → Int32 → Int32 → (Nat → Int32) → (Nat → Int32) → Prop} {n28 : Int} (m_fruits : Int32) (m_standings : Int32) (m_now : Nat → Int32) (m_x : Nat → Int32) (m_height : Nat → Int32) (m_worth : Nat → Int32) (m_ripe : Nat → Int32) (m_foot : Nat → Int32) (m_fork : Nat → Int32) (m_told : Nat → Int32) (h_m_fruits : 0 ≤ Int32.toInt m_fruits ∧ Int32.toInt m_fruits ≤ 16) (h_m_standings : 0 ≤ Int32.toInt m_standings ∧ Int32.toInt m_standings ≤ 8) (e0_m_now : ∀ k : Nat, k = 17 → -1 ≤ Int32.toInt (m_now k) ∧ Int32.toInt (m_now k) ≤ SB) (e1_m_now : ∀ k : Nat, k = 19 → 0 ≤ Int32.toInt (m_now k) ∧ Int32.toInt (m_now k) ≤ 9) (h_m_x : ∀ k : Nat, 0 ≤ Int32.toInt (m_x k) ∧ Int32.toInt (m_x k) ≤ 99) (h_m_height : ∀ k : Nat, 0 ≤ Int32.toInt (m_height k) ∧ Int32.toInt (m_height k) ≤ 99) (h_m_worth : ∀ k : Nat, 0 ≤ Int32.toInt (m_worth k) ∧ Int32.toInt (m_worth k) ≤ 9) (h_m_ripe : ∀ k : Nat, 0 ≤ Int32.toInt (m_ripe k) ∧ Int32.toInt (m_ripe k) ≤ 9) (h_m_foot : ∀ k : Nat, 0 ≤ Int32.toInt (m_foot k) ∧ Int32.toInt (m_foot k) ≤ 99) (h_m_fork : ∀ k : Nat, 0 ≤ Int32.toInt (m_fork k) ∧ Int32.toInt (m_fork k) ≤ 99) (e0_m_told : ∀ k : Nat, k = 4 → 1 ≤ Int32.toInt (m_told k) ∧ Int32.toInt (m_told k) ≤ 30) (e1_m_told : ∀ k : Nat, k = 3 → 0 ≤ Int32.toInt (m_told k) ∧ Int32.toInt (m_told k) ≤ 9) (hc0 : -1 ≤ SB ∧ SB ≤ 7) (hc1 : (Int32.toInt m_standings ≤ 0 ∧ SB = 0) ∨ (1 ≤ Int32.toInt m_standings ∧ SB = Int32.toInt m_standings - 1)) (hpost : ∀ (r : Int32) (m_rowMany' : Int32) (m_thrown' : Int32) (m_wanted' : Int32) (m_row' : Nat → Int32) (m_hand' : Nat → Int32), (-2 ≤ Int32.toInt r ∧ Int32.toInt r ≤ 7) → (0 ≤ Int32.toInt m_rowMany' ∧ Int32.toInt m_rowMany' ≤ 16) → (0 ≤ Int32.toInt m_thrown' ∧ Int32.toInt m_thrown' ≤ 0) → (0 ≤ Int32.toInt m_wanted' ∧ Int32.toInt m_wanted' ≤ 65535) → (∀ k : Nat, 0 ≤ Int32.toInt (m_hand' k) ∧ Int32.toInt (m_hand' k) ≤ 65535) → post r m_rowMany' m_thrown' m_wanted' m_row' m_hand') (hKn : ∀ (x1 : Int32) (x2 : Int32) (x3 : Int32) (m_rowMany : Int32) (m_thrown : Int32) (m_wanted : Int32) (m_row : Nat → Int32) (m_hand : Nat → Int32), (0 ≤ Int32.toInt x1 ∧ Int32.toInt x1 ≤ 255) → (-2 ≤ Int32.toInt x2 ∧ Int32.toInt x2 ≤ 7) → (0 ≤ Int32.toInt x3 ∧ Int32.toInt x3 ≤ 8) → (0 ≤ Int32.toInt m_rowMany ∧ Int32.toInt m_rowMany ≤ 16) → (0 ≤ Int32.toInt m_thrown ∧ Int32.toInt m_thrown ≤ 0) → (0 ≤ Int32.toInt m_wanted ∧ Int32.toInt m_wanted ≤ 65535) → (∀ k : Nat, 0 ≤ Int32.toInt (m_hand k) ∧ Int32.toInt (m_hand k) ≤ 65535) → (8 - Int32.toInt x3 < n28) → next x1 x2 x3 m_rowMany m_thrown m_wanted m_row m_hand) (x1 : Int32) (x2 : Int32) (x3 : Int32) (m_rowMany : Int32) (m_thrown : Int32) (m_wanted : Int32) (m_row : Nat → Int32) (m_hand : Nat → Int32) (h_x1 : 0 ≤ Int32.toInt x1 ∧ Int32.toInt x1 ≤ 255) (h_x2 : -2 ≤ Int32.toInt x2 ∧ Int32.toInt x2 ≤ 7) (h_x3 : 0 ≤ Int32.toInt x3 ∧ Int32.toInt x3 ≤ 8) (h_m_rowMany : 0 ≤ Int32.toInt m_rowMany ∧ Int32.toInt m_rowMany ≤ 16) (h_m_thrown : 0 ≤ Int32.toInt m_thrown ∧ Int32.toInt m_thrown ≤ 0) (h_m_wanted : 0 ≤ Int32.toInt m_wanted ∧ Int32.toInt m_wanted ≤ 65535) (h_m_hand : ∀ k : Nat, 0 ≤ Int32.toInt (m_hand k) ∧ Int32.toInt (m_hand k) ≤ 65535) (hn28 : 8 - Int32.toInt x3 ≤ n28) : ws_X10_next_28 post next m_fruits m_standings m_now m_x m_height m_worth m_ripe m_foot m_fork m_told x1 x2 x3 m_rowMany m_thrown m_wanted m_row m_hand := by
  have l0 : Int32.toInt ((-2) : Int32) = -2 := (by decide)
  have l1 : Int32.toInt (0 : Int32) = 0 := (by decide)
  have l2 : Int32.toInt (1 : Int32) = 1 := (by decide)
  have l3 : Int32.toInt (16 : Int32) = 16 := (by decide)
  refine And.intro (fun c3 => ?_) (fun c3 => ?_)
  · skip
    have c3 := (fa_le _ _).mp c3
    refine And.intro (fun c4 => ?_) (fun c4 => ?_)
    · skip
      have c4 := (fa_le _ _).mp c4
      intro v5 ev5
      have f7 := ti_shl1 7 128 x2 (by decide) (by omega)
      have f6 := ti_or 8 256 x1 (1 <<< (x2 &&& 31)) (by decide) (by omega) (by omega)
      have hv5 := congrArg Int32.toInt ev5
      refine t_X10_handOf (by omega) (by omega) (fun k => by have q9 := h_m_hand k; omega) (fun r8 h_r8 => ?_)
      intro v9 ev9
      have f11 := ti_andl m_wanted (r8 ^^^ (-1)) (by omega)
      have hv9 := congrArg Int32.toInt ev9
      intro v12 ev12
      have hv12 := congrArg Int32.toInt ev12
      refine t_X10_worthOfAll (by omega) (by omega) (fun k => by have q9 := h_m_worth k; omega) (fun r14 => ?_)
      refine And.intro (t_in (by omega)) ?_
      intro v15 ev15
      have f16 : Int32.toInt (0 + 1) = Int32.toInt (0 : Int32) + Int32.toInt (1 : Int32) := ta_add _ _ (by omega)
      rw [← ev15] at f16
      refine t_X10_handOf (by omega) (by omega) (fun k => by have q9 := h_m_hand k; omega) (fun r17 h_r17 => ?_)
      intro v18 ev18
      have f20 := ti_andl m_wanted (r17 ^^^ (-1)) (by omega)
      have hv18 := congrArg Int32.toInt ev18
      intro v21 ev21
      have hv21 := congrArg Int32.toInt ev21
      refine t_X10_worthOfAll (by omega) (by omega) (fun k => by have q9 := h_m_worth k; omega) (fun r22 => ?_)
      refine And.intro (t_in (by omega)) ?_
      intro v23 ev23
      have f24 : Int32.toInt (v15 + 1) = Int32.toInt v15 + Int32.toInt (1 : Int32) := ta_add _ _ (by omega)
      rw [← ev23] at f24
      exact hpost _ _ _ _ _ _ (by omega) (by omega) (by omega) (by omega) (fun k => by have q9 := h_m_hand k; omega)
    · skip
      have c4 := mt (fa_le _ _).mpr c4
      exact hpost _ _ _ _ _ _ (by omega) (by omega) (by omega) (by omega) (fun k => by have q9 := h_m_hand k; omega)
  · skip
    have c3 := mt (fa_le _ _).mpr c3
    intro v25 ev25
    have f26 := ti_shr x1 x3 (by omega)
    have hv25 := congrArg Int32.toInt ev25
    intro v27 ev27
    have f28 := ti_andr v25 1 (by omega)
    have f29 := ti_andl v25 1 (by omega)
    have hv27 := congrArg Int32.toInt ev27
    refine And.intro (fun c30 => ?_) (fun c30 => ?_)
    · skip
      have c30 := mt (fa_eq _ _).mpr c30
      refine And.intro (fun h9 => absurd h9 (by decide)) (fun _ => ?_)
      refine And.intro (fun c31 => ?_) (fun c31 => ?_)
      · skip
        have c31 := (fa_lt _ _).mp c31
        exact ts_X10_next_69 m_fruits m_standings m_now m_x m_height m_worth m_ripe m_foot m_fork m_told h_m_fruits h_m_standings e0_m_now e1_m_now h_m_x h_m_height h_m_worth h_m_ripe h_m_foot h_m_fork e0_m_told e1_m_told hc0 hc1 hpost hKn x1 x3 m_rowMany m_thrown m_wanted m_row m_hand (by omega) (by omega) (by omega) (by omega) (by omega) (fun k => by have q9 := h_m_hand k; omega) (by omega)
      · skip
        have c31 := mt (fa_lt _ _).mpr c31
        intro v32 ev32
        have f34 := ti_shl1 7 128 x3 (by decide) (by omega)
        have f33 := ti_or 8 256 x1 (1 <<< (x3 &&& 31)) (by decide) (by omega) (by omega)
        have hv32 := congrArg Int32.toInt ev32
        refine t_X10_handOf (by omega) (by omega) (fun k => by have q9 := h_m_hand k; omega) (fun r35 h_r35 => ?_)
        intro v36 ev36
        have f38 := ti_andl m_wanted (r35 ^^^ (-1)) (by omega)
        have hv36 := congrArg Int32.toInt ev36
        intro v39 ev39
        have hv39 := congrArg Int32.toInt ev39
        refine t_X10_worthOfAll (by omega) (by omega) (fun k => by have q9 := h_m_worth k; omega) (fun r41 => ?_)
        intro v42 ev42
        have f44 := ti_shl1 7 128 x2 (by decide) (by omega)
        have f43 := ti_or 8 256 x1 (1 <<< (x2 &&& 31)) (by decide) (by omega) (by omega)
        have hv42 := congrArg Int32.toInt ev42
        refine t_X10_handOf (by omega) (by omega) (fun k => by have q9 := h_m_hand k; omega) (fun r45 h_r45 => ?_)
        intro v46 ev46
        have f48 := ti_andl m_wanted (r45 ^^^ (-1)) (by omega)
        have hv46 := congrArg Int32.toInt ev46
        intro v49 ev49
        have hv49 := congrArg Int32.toInt ev49
        refine t_X10_worthOfAll (by omega) (by omega) (fun k => by have q9 := h_m_worth k; omega) (fun r50 => ?_)
        have f52 := tp_r r41
        have f53 := tp_r r50
        refine And.intro (fun c51 => ?_) (fun c51 => ?_)
        · skip
          have c51 := (fa_le _ _).mp c51
          exact ts_X10_next_71 m_fruits m_standings m_now m_x m_height m_worth m_ripe m_foot m_fork m_told h_m_fruits h_m_standings e0_m_now e1_m_now h_m_x h_m_height h_m_worth h_m_ripe h_m_foot h_m_fork e0_m_told e1_m_told hc0 hc1 hpost hKn x1 x2 x3 m_rowMany m_thrown m_wanted m_row m_hand (by omega) (by omega) (by omega) (by omega) (by omega) (by omega) (fun k => by have q9 := h_m_hand k; omega) (by omega)
        · skip
          have c51 := mt (fa_le _ _).mpr c51
          exact ts_X10_next_69 m_fruits m_standings m_now m_x m_height m_worth m_ripe m_foot m_fork m_told h_m_fruits h_m_standings e0_m_now e1_m_now h_m_x h_m_height h_m_worth h_m_ripe h_m_foot h_m_fork e0_m_told e1_m_told hc0 hc1 hpost hKn x1 x3 m_rowMany m_thrown m_wanted m_row m_hand (by omega) (by omega) (by omega) (by omega) (by omega) (fun k => by have q9 := h_m_hand k; omega) (by omega)
    · skip
      have c30 := (fa_eq _ _).mp c30
      refine And.intro (fun _ => ?_) (fun h9 => absurd h9 (by decide))
      exact ts_X10_next_71 m_fruits m_standings m_now m_x m_height m_worth m_ripe m_foot m_fork m_told h_m_fruits h_m_standings e0_m_now e1_m_now h_m_x h_m_height h_m_worth h_m_ripe h_m_foot h_m_fork e0_m_told e1_m_told hc0 hc1 hpost hKn x1 x2 x3 m_rowMany m_thrown m_wanted m_row m_hand (by omega) (by omega) (by omega) (by omega) (by omega) (by omega) (fun k => by have q9 := h_m_hand k; omega) (by omega)
set_option maxHeartbeats 8000000 in
set_option maxRecDepth 200000 in
theorem tb_X10_next_28 {post : Int32 → Int32 → Int32 → Int32 → (Nat → Int32) → (Nat → Int32) → Prop} {SB : Int} (m_fruits : Int32) (m_standings : Int32) (m_now : Nat → Int32) (m_x : Nat → Int32) (m_height : Nat → Int32) (m_worth : Nat → Int32) (m_ripe : Nat → Int32) (m_foot : Nat → Int32) (m_fork : Nat → Int32) (m_told : Nat → Int32) (h_m_fruits : 0 ≤ Int32.toInt m_fruits ∧ Int32.toInt m_fruits ≤ 16) (h_m_standings : 0 ≤ Int32.toInt m_standings ∧ Int32.toInt m_standings ≤ 8) (e0_m_now : ∀ k : Nat, k = 17 → -1 ≤ Int32.toInt (m_now k) ∧ Int32.toInt (m_now k) ≤ SB) (e1_m_now : ∀ k : Nat, k = 19 → 0 ≤ Int32.toInt (m_now k) ∧ Int32.toInt (m_now k) ≤ 9) (h_m_x : ∀ k : Nat, 0 ≤ Int32.toInt (m_x k) ∧ Int32.toInt (m_x k) ≤ 99) (h_m_height : ∀ k : Nat, 0 ≤ Int32.toInt (m_height k) ∧ Int32.toInt (m_height k) ≤ 99) (h_m_worth : ∀ k : Nat, 0 ≤ Int32.toInt (m_worth k) ∧ Int32.toInt (m_worth k) ≤ 9) (h_m_ripe : ∀ k : Nat, 0 ≤ Int32.toInt (m_ripe k) ∧ Int32.toInt (m_ripe k) ≤ 9) (h_m_foot : ∀ k : Nat, 0 ≤ Int32.toInt (m_foot k) ∧ Int32.toInt (m_foot k) ≤ 99) (h_m_fork : ∀ k : Nat, 0 ≤ Int32.toInt (m_fork k) ∧ Int32.toInt (m_fork k) ≤ 99) (e0_m_told : ∀ k : Nat, k = 4 → 1 ≤ Int32.toInt (m_told k) ∧ Int32.toInt (m_told k) ≤ 30) (e1_m_told : ∀ k : Nat, k = 3 → 0 ≤ Int32.toInt (m_told k) ∧ Int32.toInt (m_told k) ≤ 9) (hc0 : -1 ≤ SB ∧ SB ≤ 7) (hc1 : (Int32.toInt m_standings ≤ 0 ∧ SB = 0) ∨ (1 ≤ Int32.toInt m_standings ∧ SB = Int32.toInt m_standings - 1)) (hpost : ∀ (r : Int32) (m_rowMany' : Int32) (m_thrown' : Int32) (m_wanted' : Int32) (m_row' : Nat → Int32) (m_hand' : Nat → Int32), (-2 ≤ Int32.toInt r ∧ Int32.toInt r ≤ 7) → (0 ≤ Int32.toInt m_rowMany' ∧ Int32.toInt m_rowMany' ≤ 16) → (0 ≤ Int32.toInt m_thrown' ∧ Int32.toInt m_thrown' ≤ 0) → (0 ≤ Int32.toInt m_wanted' ∧ Int32.toInt m_wanted' ≤ 65535) → (∀ k : Nat, 0 ≤ Int32.toInt (m_hand' k) ∧ Int32.toInt (m_hand' k) ≤ 65535) → post r m_rowMany' m_thrown' m_wanted' m_row' m_hand') : ∀ (n : Nat) (x1 : Int32) (x2 : Int32) (x3 : Int32) (m_rowMany : Int32) (m_thrown : Int32) (m_wanted : Int32) (m_row : Nat → Int32) (m_hand : Nat → Int32), (0 ≤ Int32.toInt x1 ∧ Int32.toInt x1 ≤ 255) → (-2 ≤ Int32.toInt x2 ∧ Int32.toInt x2 ≤ 7) → (0 ≤ Int32.toInt x3 ∧ Int32.toInt x3 ≤ 8) → (0 ≤ Int32.toInt m_rowMany ∧ Int32.toInt m_rowMany ≤ 16) → (0 ≤ Int32.toInt m_thrown ∧ Int32.toInt m_thrown ≤ 0) → (0 ≤ Int32.toInt m_wanted ∧ Int32.toInt m_wanted ≤ 65535) → (∀ k : Nat, 0 ≤ Int32.toInt (m_hand k) ∧ Int32.toInt (m_hand k) ≤ 65535) → (8 - Int32.toInt x3 < (n : Int)) → wb_X10_next_28 post m_fruits m_standings m_now m_x m_height m_worth m_ripe m_foot m_fork m_told n x1 x2 x3 m_rowMany m_thrown m_wanted m_row m_hand := by
  intro n
  induction n with
  | zero =>
    intro x1 x2 x3 m_rowMany m_thrown m_wanted m_row m_hand h_x1 h_x2 h_x3 h_m_rowMany h_m_thrown h_m_wanted h_m_hand hm
    exfalso; omega
  | succ n ih =>
    intro x1 x2 x3 m_rowMany m_thrown m_wanted m_row m_hand h_x1 h_x2 h_x3 h_m_rowMany h_m_thrown h_m_wanted h_m_hand hm
    exact ts_X10_next_28 m_fruits m_standings m_now m_x m_height m_worth m_ripe m_foot m_fork m_told h_m_fruits h_m_standings e0_m_now e1_m_now h_m_x h_m_height h_m_worth h_m_ripe h_m_foot h_m_fork e0_m_told e1_m_told hc0 hc1 hpost ih x1 x2 x3 m_rowMany m_thrown m_wanted m_row m_hand h_x1 h_x2 h_x3 h_m_rowMany h_m_thrown h_m_wanted h_m_hand (by omega)
set_option maxHeartbeats 8000000 in
set_option maxRecDepth 200000 in
theorem t_X10_next {post : Int32 → Int32 → Int32 → Int32 → (Nat → Int32) → (Nat → Int32) → Prop} {SB : Int} {p0 : Int32} {m_fruits : Int32} {m_standings : Int32} {m_rowMany : Int32} {m_thrown : Int32} {m_wanted : Int32} {m_now : Nat → Int32} {m_x : Nat → Int32} {m_height : Nat → Int32} {m_worth : Nat → Int32} {m_ripe : Nat → Int32} {m_foot : Nat → Int32} {m_fork : Nat → Int32} {m_told : Nat → Int32} {m_row : Nat → Int32} {m_hand : Nat → Int32} (h_m_fruits : 0 ≤ Int32.toInt m_fruits ∧ Int32.toInt m_fruits ≤ 16) (h_m_standings : 0 ≤ Int32.toInt m_standings ∧ Int32.toInt m_standings ≤ 8) (h_m_rowMany : 0 ≤ Int32.toInt m_rowMany ∧ Int32.toInt m_rowMany ≤ 16) (h_m_thrown : 0 ≤ Int32.toInt m_thrown ∧ Int32.toInt m_thrown ≤ 1) (h_m_wanted : 0 ≤ Int32.toInt m_wanted ∧ Int32.toInt m_wanted ≤ 65535) (e0_m_now : ∀ k : Nat, k = 17 → -1 ≤ Int32.toInt (m_now k) ∧ Int32.toInt (m_now k) ≤ SB) (e1_m_now : ∀ k : Nat, k = 19 → 0 ≤ Int32.toInt (m_now k) ∧ Int32.toInt (m_now k) ≤ 9) (h_m_x : ∀ k : Nat, 0 ≤ Int32.toInt (m_x k) ∧ Int32.toInt (m_x k) ≤ 99) (h_m_height : ∀ k : Nat, 0 ≤ Int32.toInt (m_height k) ∧ Int32.toInt (m_height k) ≤ 99) (h_m_worth : ∀ k : Nat, 0 ≤ Int32.toInt (m_worth k) ∧ Int32.toInt (m_worth k) ≤ 9) (h_m_ripe : ∀ k : Nat, 0 ≤ Int32.toInt (m_ripe k) ∧ Int32.toInt (m_ripe k) ≤ 9) (h_m_foot : ∀ k : Nat, 0 ≤ Int32.toInt (m_foot k) ∧ Int32.toInt (m_foot k) ≤ 99) (h_m_fork : ∀ k : Nat, 0 ≤ Int32.toInt (m_fork k) ∧ Int32.toInt (m_fork k) ≤ 99) (e0_m_told : ∀ k : Nat, k = 4 → 1 ≤ Int32.toInt (m_told k) ∧ Int32.toInt (m_told k) ≤ 30) (e1_m_told : ∀ k : Nat, k = 3 → 0 ≤ Int32.toInt (m_told k) ∧ Int32.toInt (m_told k) ≤ 9) (h_m_hand : ∀ k : Nat, 0 ≤ Int32.toInt (m_hand k) ∧ Int32.toInt (m_hand k) ≤ 65535) (hc0 : -1 ≤ SB ∧ SB ≤ 7) (hc1 : (Int32.toInt m_standings ≤ 0 ∧ SB = 0) ∨ (1 ≤ Int32.toInt m_standings ∧ SB = Int32.toInt m_standings - 1)) (hpost : ∀ (r : Int32) (m_rowMany' : Int32) (m_thrown' : Int32) (m_wanted' : Int32) (m_row' : Nat → Int32) (m_hand' : Nat → Int32), (-2 ≤ Int32.toInt r ∧ Int32.toInt r ≤ 7) → (0 ≤ Int32.toInt m_rowMany' ∧ Int32.toInt m_rowMany' ≤ 16) → (0 ≤ Int32.toInt m_thrown' ∧ Int32.toInt m_thrown' ≤ 0) → (0 ≤ Int32.toInt m_wanted' ∧ Int32.toInt m_wanted' ≤ 65535) → (∀ k : Nat, 0 ≤ Int32.toInt (m_hand' k) ∧ Int32.toInt (m_hand' k) ≤ 65535) → post r m_rowMany' m_thrown' m_wanted' m_row' m_hand') : wp_X10_next post p0 m_fruits m_standings m_rowMany m_thrown m_wanted m_now m_x m_height m_worth m_ripe m_foot m_fork m_told m_row m_hand := by
  have l0 : Int32.toInt ((-1) : Int32) = -1 := (by decide)
  have l1 : Int32.toInt ((-2) : Int32) = -2 := (by decide)
  have l2 : Int32.toInt (0 : Int32) = 0 := (by decide)
  have l3 : Int32.toInt (1 : Int32) = 1 := (by decide)
  have l4 : Int32.toInt (18 : Int32) = 18 := (by decide)
  intro v54 ev54
  have f55 := ti_shl1 8 256 m_standings (by decide) (by omega)
  have hv54 := congrArg Int32.toInt ev54
  have f57 := tp_r p0
  refine And.intro (fun c56 => ?_) (fun c56 => ?_)
  · skip
    have c56 := (fa_lt _ _).mp c56
    refine And.intro (fun h9 => absurd h9 (by decide)) (fun _ => ?_)
    exact hpost _ _ _ _ _ _ (by omega) (by omega) (by omega) (by omega) (fun k => by have q9 := h_m_hand k; omega)
  · skip
    have c56 := mt (fa_lt _ _).mpr c56
    have f59 : Int32.toInt (v54 - 1) = Int32.toInt v54 - Int32.toInt (1 : Int32) := ta_sub _ _ (by omega)
    refine And.intro (fun c58 => ?_) (fun c58 => ?_)
    · skip
      have c58 := (fa_lt _ _).mp c58
      refine And.intro (fun h9 => absurd h9 (by decide)) (fun _ => ?_)
      exact hpost _ _ _ _ _ _ (by omega) (by omega) (by omega) (by omega) (fun k => by have q9 := h_m_hand k; omega)
    · skip
      have c58 := mt (fa_lt _ _).mpr c58
      refine And.intro (fun _ => ?_) (fun h9 => absurd h9 (by decide))
      intro v60 ev60
      have hv60 := congrArg Int32.toInt ev60
      refine t_X10_layHands_ (by omega) (by omega) (by omega) e0_m_now e1_m_now (fun k => by have q9 := h_m_x k; omega) (fun k => by have q9 := h_m_height k; omega) (fun k => by have q9 := h_m_ripe k; omega) (fun k => by have q9 := h_m_foot k; omega) (fun k => by have q9 := h_m_fork k; omega) e0_m_told e1_m_told (fun k => by have q9 := h_m_hand k; omega) (by omega) (by omega) (fun m_wanted_62 m_hand_63 h_m_wanted_62 h_m_hand_63 => ?_)
      exact ⟨10, tb_X10_next_28 m_fruits m_standings m_now m_x m_height m_worth m_ripe m_foot m_fork m_told h_m_fruits h_m_standings e0_m_now e1_m_now h_m_x h_m_height h_m_worth h_m_ripe h_m_foot h_m_fork e0_m_told e1_m_told hc0 hc1 hpost _ p0 (-2) 0 m_rowMany 0 m_wanted_62 m_row m_hand_63 (by omega) (by omega) (by omega) (by omega) (by omega) (by omega) (fun k => by have q9 := h_m_hand_63 k; omega) (by omega)⟩
set_option maxHeartbeats 8000000 in
set_option maxRecDepth 200000 in
theorem ts_X10_layMoves_113 {post : (Nat → Int32) → Prop} {K2 : Int32 → (Nat → Int32) → Prop} {K12 : Int32 → Int32 → (Nat → Int32) → Prop} {K58 : Int32 → Int32 → Int32 → Int32 → (Nat → Int32) → Prop} {n2 : Int} {n12 : Int} {n58 : Int} (m_standings : Int32) (m_foot : Nat → Int32) (m_told : Nat → Int32) (h_m_standings : 0 ≤ Int32.toInt m_standings ∧ Int32.toInt m_standings ≤ 8) (h_m_foot : ∀ k : Nat, 0 ≤ Int32.toInt (m_foot k) ∧ Int32.toInt (m_foot k) ≤ 99) (e0_m_told : ∀ k : Nat, k = 4 → 1 ≤ Int32.toInt (m_told k) ∧ Int32.toInt (m_told k) ≤ 30) (e1_m_told : ∀ k : Nat, k = 3 → 0 ≤ Int32.toInt (m_told k) ∧ Int32.toInt (m_told k) ≤ 9) (hpost : ∀ (m_moves' : Nat → Int32), (∀ k : Nat, 0 ≤ Int32.toInt (m_moves' k) ∧ Int32.toInt (m_moves' k) ≤ 1000000) → (MVT m_moves' m_foot m_told m_standings) → post m_moves') (hK2 : ∀ (x1 : Int32) (m_moves : Nat → Int32), (0 ≤ Int32.toInt x1 ∧ Int32.toInt x1 ≤ 256) → (∀ k : Nat, 0 ≤ Int32.toInt (m_moves k) ∧ Int32.toInt (m_moves k) ≤ 1000000) → (MVa m_moves m_foot m_told m_standings x1) → (256 - Int32.toInt x1 < n2) → K2 x1 m_moves) (hK12 : ∀ (x1 : Int32) (x2 : Int32) (m_moves : Nat → Int32), (0 ≤ Int32.toInt x1 ∧ Int32.toInt x1 ≤ 255) → (0 ≤ Int32.toInt x2 ∧ Int32.toInt x2 ≤ 9) → (∀ k : Nat, 0 ≤ Int32.toInt (m_moves k) ∧ Int32.toInt (m_moves k) ≤ 1000000) → (MVb m_moves m_foot m_told m_standings x1 x2) → (LB x1 m_standings) → (256 - Int32.toInt x1 ≤ n2) → (9 - Int32.toInt x2 < n12) → K12 x1 x2 m_moves) (hK58 : ∀ (x1 : Int32) (x2 : Int32) (x3 : Int32) (x4 : Int32) (m_moves : Nat → Int32), (0 ≤ Int32.toInt x1 ∧ Int32.toInt x1 ≤ 255) → (0 ≤ Int32.toInt x2 ∧ Int32.toInt x2 ≤ 8) → (0 ≤ Int32.toInt x3 ∧ Int32.toInt x3 ≤ 1000000) → (0 ≤ Int32.toInt x4 ∧ Int32.toInt x4 ≤ 8) → (∀ k : Nat, 0 ≤ Int32.toInt (m_moves k) ∧ Int32.toInt (m_moves k) ≤ 1000000) → (MVb m_moves m_foot m_told m_standings x1 x2) → (LB x1 m_standings) → (VAL m_standings x2 x1) → (PB m_moves m_foot m_told x1 x2 x4 x3) → (Int32.toInt x4 ≤ Int32.toInt m_standings) → (256 - Int32.toInt x1 ≤ n2) → (9 - Int32.toInt x2 ≤ n12) → (8 - Int32.toInt x4 < n58) → K58 x1 x2 x3 x4 m_moves) (x1 : Int32) (x2 : Int32) (x3 : Int32) (x4 : Int32) (m_moves : Nat → Int32) (h_x1 : 0 ≤ Int32.toInt x1 ∧ Int32.toInt x1 ≤ 255) (h_x2 : 0 ≤ Int32.toInt x2 ∧ Int32.toInt x2 ≤ 8) (h_x3 : 0 ≤ Int32.toInt x3 ∧ Int32.toInt x3 ≤ 1000000) (h_x4 : 0 ≤ Int32.toInt x4 ∧ Int32.toInt x4 ≤ 7) (h_m_moves : ∀ k : Nat, 0 ≤ Int32.toInt (m_moves k) ∧ Int32.toInt (m_moves k) ≤ 1000000) (hx0 : MVb m_moves m_foot m_told m_standings x1 x2) (hx1 : LB x1 m_standings) (hx2 : VAL m_standings x2 x1) (hx3 : PB1 m_moves m_foot m_told x1 x2 x4 x3) (hx4 : Int32.toInt x4 < Int32.toInt m_standings) (hn2 : 256 - Int32.toInt x1 ≤ n2) (hn12 : 9 - Int32.toInt x2 ≤ n12) (hn58 : 8 - Int32.toInt x4 ≤ n58) : ws_X10_layMoves_113 post K2 K12 K58 m_standings m_foot m_told x1 x2 x3 x4 m_moves := by
  have l0 : Int32.toInt (1 : Int32) = 1 := (by decide)
  intro v1 ev1
  have f2 : Int32.toInt (x4 + 1) = Int32.toInt x4 + Int32.toInt (1 : Int32) := ta_add _ _ (by omega)
  rw [← ev1] at f2
  exact hK58 x1 x2 x3 v1 m_moves (by omega) (by omega) (by omega) (by omega) (fun k => by have q9 := h_m_moves k; omega) (by first | assumption | exact MVb_0 (by assumption) | exact MVb_s (by assumption) (by omega)) (by first | assumption | exact LB_of (by assumption) (by omega) (by omega) (by omega)) (by first | assumption | exact VAL_8 (by omega) | exact VAL_b (by omega) (by omega) (by assumption) (by assumption) (by assumption)) (by first | assumption | exact PB_init (by omega) | exact PB_s (by assumption) (by omega)) (by omega) (by omega) (by omega) (by omega)
set_option maxHeartbeats 8000000 in
set_option maxRecDepth 200000 in
theorem ts_X10_layMoves_89 {post : (Nat → Int32) → Prop} {K2 : Int32 → (Nat → Int32) → Prop} {K12 : Int32 → Int32 → (Nat → Int32) → Prop} {K58 : Int32 → Int32 → Int32 → Int32 → (Nat → Int32) → Prop} {n2 : Int} {n12 : Int} {n58 : Int} (m_standings : Int32) (m_foot : Nat → Int32) (m_told : Nat → Int32) (h_m_standings : 0 ≤ Int32.toInt m_standings ∧ Int32.toInt m_standings ≤ 8) (h_m_foot : ∀ k : Nat, 0 ≤ Int32.toInt (m_foot k) ∧ Int32.toInt (m_foot k) ≤ 99) (e0_m_told : ∀ k : Nat, k = 4 → 1 ≤ Int32.toInt (m_told k) ∧ Int32.toInt (m_told k) ≤ 30) (e1_m_told : ∀ k : Nat, k = 3 → 0 ≤ Int32.toInt (m_told k) ∧ Int32.toInt (m_told k) ≤ 9) (hpost : ∀ (m_moves' : Nat → Int32), (∀ k : Nat, 0 ≤ Int32.toInt (m_moves' k) ∧ Int32.toInt (m_moves' k) ≤ 1000000) → (MVT m_moves' m_foot m_told m_standings) → post m_moves') (hK2 : ∀ (x1 : Int32) (m_moves : Nat → Int32), (0 ≤ Int32.toInt x1 ∧ Int32.toInt x1 ≤ 256) → (∀ k : Nat, 0 ≤ Int32.toInt (m_moves k) ∧ Int32.toInt (m_moves k) ≤ 1000000) → (MVa m_moves m_foot m_told m_standings x1) → (256 - Int32.toInt x1 < n2) → K2 x1 m_moves) (hK12 : ∀ (x1 : Int32) (x2 : Int32) (m_moves : Nat → Int32), (0 ≤ Int32.toInt x1 ∧ Int32.toInt x1 ≤ 255) → (0 ≤ Int32.toInt x2 ∧ Int32.toInt x2 ≤ 9) → (∀ k : Nat, 0 ≤ Int32.toInt (m_moves k) ∧ Int32.toInt (m_moves k) ≤ 1000000) → (MVb m_moves m_foot m_told m_standings x1 x2) → (LB x1 m_standings) → (256 - Int32.toInt x1 ≤ n2) → (9 - Int32.toInt x2 < n12) → K12 x1 x2 m_moves) (hK58 : ∀ (x1 : Int32) (x2 : Int32) (x3 : Int32) (x4 : Int32) (m_moves : Nat → Int32), (0 ≤ Int32.toInt x1 ∧ Int32.toInt x1 ≤ 255) → (0 ≤ Int32.toInt x2 ∧ Int32.toInt x2 ≤ 8) → (0 ≤ Int32.toInt x3 ∧ Int32.toInt x3 ≤ 1000000) → (0 ≤ Int32.toInt x4 ∧ Int32.toInt x4 ≤ 8) → (∀ k : Nat, 0 ≤ Int32.toInt (m_moves k) ∧ Int32.toInt (m_moves k) ≤ 1000000) → (MVb m_moves m_foot m_told m_standings x1 x2) → (LB x1 m_standings) → (VAL m_standings x2 x1) → (PB m_moves m_foot m_told x1 x2 x4 x3) → (Int32.toInt x4 ≤ Int32.toInt m_standings) → (256 - Int32.toInt x1 ≤ n2) → (9 - Int32.toInt x2 ≤ n12) → (8 - Int32.toInt x4 < n58) → K58 x1 x2 x3 x4 m_moves) (x1 : Int32) (x2 : Int32) (x4 : Int32) (k0 : Int32) (k2 : Int32) (m_moves : Nat → Int32) (h_x1 : 0 ≤ Int32.toInt x1 ∧ Int32.toInt x1 ≤ 255) (h_x2 : 0 ≤ Int32.toInt x2 ∧ Int32.toInt x2 ≤ 8) (h_x4 : 0 ≤ Int32.toInt x4 ∧ Int32.toInt x4 ≤ 7) (h_k0 : 0 ≤ Int32.toInt k0 ∧ Int32.toInt k0 ≤ 1000000) (h_k2 : -1 ≤ Int32.toInt k2 ∧ Int32.toInt k2 ≤ 7) (h_m_moves : ∀ k : Nat, 0 ≤ Int32.toInt (m_moves k) ∧ Int32.toInt (m_moves k) ≤ 1000000) (hx0 : MVb m_moves m_foot m_told m_standings x1 x2) (hx1 : LB x1 m_standings) (hx2 : VAL m_standings x2 x1) (hx3 : PB m_moves m_foot m_told x1 x2 x4 k0) (hx4 : bt x1 (Int32.toInt x4).toNat = true) (hx5 : (Int32.toInt x2 = 8 ∧ Int32.toInt k2 = -1) ∨ (Int32.toInt x2 ≠ 8 ∧ Int32.toInt k2 = Int32.toInt x2)) (hx6 : Int32.toInt x4 < Int32.toInt m_standings) (hn2 : 256 - Int32.toInt x1 ≤ n2) (hn12 : 9 - Int32.toInt x2 ≤ n12) (hn58 : 8 - Int32.toInt x4 ≤ n58) : ws_X10_layMoves_89 post K2 K12 K58 m_standings m_foot m_told x1 x2 x4 k0 k2 m_moves := by
  refine t_X10_moveOf (by omega) (by omega) (fun k => by have q9 := h_m_foot k; omega) e0_m_told e1_m_told (by omega) (by omega) (fun r3 h_r3 ox4 => ?_)
  intro v5 ev5
  have f6 := ti_shl1 7 128 x4 (by decide) (by omega)
  have hv5 := congrArg Int32.toInt ev5
  intro v7 ev7
  have f9 := ti_andl x1 (v5 ^^^ (-1)) (by omega)
  have hv7 := congrArg Int32.toInt ev7
  intro v10 ev10
  have f11 := ti_shl8 x4 (by omega)
  have hv10 := congrArg Int32.toInt ev10
  intro v12 ev12
  have f13 : Int32.toInt (v10 + v7) = Int32.toInt v10 + Int32.toInt v7 := ta_add _ _ (by omega)
  rw [← ev12] at f13
  refine And.intro (t_in (by omega)) ?_
  intro v14 ev14
  have f16 := h_m_moves v12.toNatClampNeg
  have f15 : Int32.toInt (r3 + (m_moves v12.toNatClampNeg)) = Int32.toInt r3 + Int32.toInt (m_moves v12.toNatClampNeg) := ta_add _ _ (by omega)
  rw [← ev14] at f15
  intro v17 ev17
  have f18 := ti_min k0 v14
  have hv17 := congrArg Int32.toInt ev17
  exact ts_X10_layMoves_113 m_standings m_foot m_told h_m_standings h_m_foot e0_m_told e1_m_told hpost hK2 hK12 hK58 x1 x2 v17 x4 m_moves (by omega) (by omega) (by omega) (by omega) (fun k => by have q9 := h_m_moves k; omega) (by first | assumption | exact MVb_0 (by assumption) | exact MVb_s (by assumption) (by omega)) (by first | assumption | exact LB_of (by assumption) (by omega) (by omega) (by omega)) (by first | assumption | exact VAL_8 (by omega) | exact VAL_b (by omega) (by omega) (by assumption) (by assumption) (by assumption)) (by first | assumption | exact PB_skip (by assumption) (by omega) (by assumption) (by assumption) (by assumption) | exact PB_add (by assumption) (by assumption) (by assumption) (by assumption) (by omega) (by assumption) (by assumption) (by assumption) (by omega) (by assumption) (by omega) (by omega) (by omega) h_m_foot e1_m_told) (by omega) (by omega) (by omega) (by omega)
set_option maxHeartbeats 8000000 in
set_option maxRecDepth 200000 in
theorem ts_X10_layMoves_131 {post : (Nat → Int32) → Prop} {K2 : Int32 → (Nat → Int32) → Prop} {K12 : Int32 → Int32 → (Nat → Int32) → Prop} {n2 : Int} {n12 : Int} (m_standings : Int32) (m_foot : Nat → Int32) (m_told : Nat → Int32) (h_m_standings : 0 ≤ Int32.toInt m_standings ∧ Int32.toInt m_standings ≤ 8) (h_m_foot : ∀ k : Nat, 0 ≤ Int32.toInt (m_foot k) ∧ Int32.toInt (m_foot k) ≤ 99) (e0_m_told : ∀ k : Nat, k = 4 → 1 ≤ Int32.toInt (m_told k) ∧ Int32.toInt (m_told k) ≤ 30) (e1_m_told : ∀ k : Nat, k = 3 → 0 ≤ Int32.toInt (m_told k) ∧ Int32.toInt (m_told k) ≤ 9) (hpost : ∀ (m_moves' : Nat → Int32), (∀ k : Nat, 0 ≤ Int32.toInt (m_moves' k) ∧ Int32.toInt (m_moves' k) ≤ 1000000) → (MVT m_moves' m_foot m_told m_standings) → post m_moves') (hK2 : ∀ (x1 : Int32) (m_moves : Nat → Int32), (0 ≤ Int32.toInt x1 ∧ Int32.toInt x1 ≤ 256) → (∀ k : Nat, 0 ≤ Int32.toInt (m_moves k) ∧ Int32.toInt (m_moves k) ≤ 1000000) → (MVa m_moves m_foot m_told m_standings x1) → (256 - Int32.toInt x1 < n2) → K2 x1 m_moves) (hK12 : ∀ (x1 : Int32) (x2 : Int32) (m_moves : Nat → Int32), (0 ≤ Int32.toInt x1 ∧ Int32.toInt x1 ≤ 255) → (0 ≤ Int32.toInt x2 ∧ Int32.toInt x2 ≤ 9) → (∀ k : Nat, 0 ≤ Int32.toInt (m_moves k) ∧ Int32.toInt (m_moves k) ≤ 1000000) → (MVb m_moves m_foot m_told m_standings x1 x2) → (LB x1 m_standings) → (256 - Int32.toInt x1 ≤ n2) → (9 - Int32.toInt x2 < n12) → K12 x1 x2 m_moves) (x1 : Int32) (x2 : Int32) (m_moves : Nat → Int32) (h_x1 : 0 ≤ Int32.toInt x1 ∧ Int32.toInt x1 ≤ 255) (h_x2 : 0 ≤ Int32.toInt x2 ∧ Int32.toInt x2 ≤ 8) (h_m_moves : ∀ k : Nat, 0 ≤ Int32.toInt (m_moves k) ∧ Int32.toInt (m_moves k) ≤ 1000000) (hx0 : MVb1 m_moves m_foot m_told m_standings x1 x2) (hx1 : LB x1 m_standings) (hn2 : 256 - Int32.toInt x1 ≤ n2) (hn12 : 9 - Int32.toInt x2 ≤ n12) : ws_X10_layMoves_131 post K2 K12 m_standings m_foot m_told x1 x2 m_moves := by
  have l0 : Int32.toInt (1 : Int32) = 1 := (by decide)
  intro v19 ev19
  have f20 : Int32.toInt (x2 + 1) = Int32.toInt x2 + Int32.toInt (1 : Int32) := ta_add _ _ (by omega)
  rw [← ev19] at f20
  exact hK12 x1 v19 m_moves (by omega) (by omega) (fun k => by have q9 := h_m_moves k; omega) (by first | assumption | exact MVb_0 (by assumption) | exact MVb_s (by assumption) (by omega)) (by first | assumption | exact LB_of (by assumption) (by omega) (by omega) (by omega)) (by omega) (by omega)
set_option maxHeartbeats 8000000 in
set_option maxRecDepth 200000 in
theorem ts_X10_layMoves_58 {post : (Nat → Int32) → Prop} {K2 : Int32 → (Nat → Int32) → Prop} {K12 : Int32 → Int32 → (Nat → Int32) → Prop} {next : Int32 → Int32 → Int32 → Int32 → (Nat → Int32) → Prop} {n58 : Int} {n2 : Int} {n12 : Int} (m_standings : Int32) (m_foot : Nat → Int32) (m_told : Nat → Int32) (h_m_standings : 0 ≤ Int32.toInt m_standings ∧ Int32.toInt m_standings ≤ 8) (h_m_foot : ∀ k : Nat, 0 ≤ Int32.toInt (m_foot k) ∧ Int32.toInt (m_foot k) ≤ 99) (e0_m_told : ∀ k : Nat, k = 4 → 1 ≤ Int32.toInt (m_told k) ∧ Int32.toInt (m_told k) ≤ 30) (e1_m_told : ∀ k : Nat, k = 3 → 0 ≤ Int32.toInt (m_told k) ∧ Int32.toInt (m_told k) ≤ 9) (hpost : ∀ (m_moves' : Nat → Int32), (∀ k : Nat, 0 ≤ Int32.toInt (m_moves' k) ∧ Int32.toInt (m_moves' k) ≤ 1000000) → (MVT m_moves' m_foot m_told m_standings) → post m_moves') (hK2 : ∀ (x1 : Int32) (m_moves : Nat → Int32), (0 ≤ Int32.toInt x1 ∧ Int32.toInt x1 ≤ 256) → (∀ k : Nat, 0 ≤ Int32.toInt (m_moves k) ∧ Int32.toInt (m_moves k) ≤ 1000000) → (MVa m_moves m_foot m_told m_standings x1) → (256 - Int32.toInt x1 < n2) → K2 x1 m_moves) (hK12 : ∀ (x1 : Int32) (x2 : Int32) (m_moves : Nat → Int32), (0 ≤ Int32.toInt x1 ∧ Int32.toInt x1 ≤ 255) → (0 ≤ Int32.toInt x2 ∧ Int32.toInt x2 ≤ 9) → (∀ k : Nat, 0 ≤ Int32.toInt (m_moves k) ∧ Int32.toInt (m_moves k) ≤ 1000000) → (MVb m_moves m_foot m_told m_standings x1 x2) → (LB x1 m_standings) → (256 - Int32.toInt x1 ≤ n2) → (9 - Int32.toInt x2 < n12) → K12 x1 x2 m_moves) (hKn : ∀ (x1 : Int32) (x2 : Int32) (x3 : Int32) (x4 : Int32) (m_moves : Nat → Int32), (0 ≤ Int32.toInt x1 ∧ Int32.toInt x1 ≤ 255) → (0 ≤ Int32.toInt x2 ∧ Int32.toInt x2 ≤ 8) → (0 ≤ Int32.toInt x3 ∧ Int32.toInt x3 ≤ 1000000) → (0 ≤ Int32.toInt x4 ∧ Int32.toInt x4 ≤ 8) → (∀ k : Nat, 0 ≤ Int32.toInt (m_moves k) ∧ Int32.toInt (m_moves k) ≤ 1000000) → (MVb m_moves m_foot m_told m_standings x1 x2) → (LB x1 m_standings) → (VAL m_standings x2 x1) → (PB m_moves m_foot m_told x1 x2 x4 x3) → (Int32.toInt x4 ≤ Int32.toInt m_standings) → (256 - Int32.toInt x1 ≤ n2) → (9 - Int32.toInt x2 ≤ n12) → (8 - Int32.toInt x4 < n58) → next x1 x2 x3 x4 m_moves) (x1 : Int32) (x2 : Int32) (x3 : Int32) (x4 : Int32) (m_moves : Nat → Int32) (h_x1 : 0 ≤ Int32.toInt x1 ∧ Int32.toInt x1 ≤ 255) (h_x2 : 0 ≤ Int32.toInt x2 ∧ Int32.toInt x2 ≤ 8) (h_x3 : 0 ≤ Int32.toInt x3 ∧ Int32.toInt x3 ≤ 1000000) (h_x4 : 0 ≤ Int32.toInt x4 ∧ Int32.toInt x4 ≤ 8) (h_m_moves : ∀ k : Nat, 0 ≤ Int32.toInt (m_moves k) ∧ Int32.toInt (m_moves k) ≤ 1000000) (hx0 : MVb m_moves m_foot m_told m_standings x1 x2) (hx1 : LB x1 m_standings) (hx2 : VAL m_standings x2 x1) (hx3 : PB m_moves m_foot m_told x1 x2 x4 x3) (hx4 : Int32.toInt x4 ≤ Int32.toInt m_standings) (hn2 : 256 - Int32.toInt x1 ≤ n2) (hn12 : 9 - Int32.toInt x2 ≤ n12) (hn58 : 8 - Int32.toInt x4 ≤ n58) : ws_X10_layMoves_58 post K2 K12 next m_standings m_foot m_told x1 x2 x3 x4 m_moves := by
  have l0 : Int32.toInt ((-1) : Int32) = -1 := (by decide)
  have l1 : Int32.toInt (1 : Int32) = 1 := (by decide)
  have l2 : Int32.toInt (8 : Int32) = 8 := (by decide)
  refine And.intro (fun c21 => ?_) (fun c21 => ?_)
  · skip
    have c21 := (fa_le _ _).mp c21
    intro v22 ev22
    have f23 := ti_shl8 x2 (by omega)
    have hv22 := congrArg Int32.toInt ev22
    intro v24 ev24
    have f25 : Int32.toInt (v22 + x1) = Int32.toInt v22 + Int32.toInt x1 := ta_add _ _ (by omega)
    rw [← ev24] at f25
    refine And.intro (t_in (by omega)) ?_
    have a26 : ∀ k : Nat, 0 ≤ Int32.toInt ((upd m_moves v24.toNatClampNeg x3) k) ∧ Int32.toInt ((upd m_moves v24.toNatClampNeg x3) k) ≤ 1000000 := t_upd (fun k => by have q9 := h_m_moves k; omega) (by omega)
    exact ts_X10_layMoves_131 m_standings m_foot m_told h_m_standings h_m_foot e0_m_told e1_m_told hpost hK2 hK12 x1 x2 (upd m_moves v24.toNatClampNeg x3) (by omega) (by omega) (fun k => by have q9 := a26 k; omega) (by first | assumption | exact MVb1_sk1 (by assumption) (by omega) (by omega) | exact MVb1_sk2 (by assumption) (by omega) (by assumption) (by assumption) (by assumption) | exact MVb1_up (by assumption) (by assumption) (by assumption) (by assumption) (by omega) (by omega) (by omega) (by omega) (by omega) (by omega) h_m_foot e1_m_told) (by first | assumption | exact LB_of (by assumption) (by omega) (by omega) (by omega)) (by omega) (by omega)
  · skip
    have c21 := mt (fa_le _ _).mpr c21
    intro v27 ev27
    have f28 := ti_shr x1 x4 (by omega)
    have hv27 := congrArg Int32.toInt ev27
    intro v29 ev29
    have f30 := ti_andr v27 1 (by omega)
    have f31 := ti_andl v27 1 (by omega)
    have hv29 := congrArg Int32.toInt ev29
    refine And.intro (fun c32 => ?_) (fun c32 => ?_)
    · skip
      have c32 := mt (fa_eq _ _).mpr c32
      refine And.intro (fun _ => ?_) (fun h9 => absurd h9 (by decide))
      exact ts_X10_layMoves_113 m_standings m_foot m_told h_m_standings h_m_foot e0_m_told e1_m_told hpost hK2 hK12 hKn x1 x2 x3 x4 m_moves (by omega) (by omega) (by omega) (by omega) (fun k => by have q9 := h_m_moves k; omega) (by first | assumption | exact MVb_0 (by assumption) | exact MVb_s (by assumption) (by omega)) (by first | assumption | exact LB_of (by assumption) (by omega) (by omega) (by omega)) (by first | assumption | exact VAL_8 (by omega) | exact VAL_b (by omega) (by omega) (by assumption) (by assumption) (by assumption)) (by first | assumption | exact PB_skip (by assumption) (by omega) (by assumption) (by assumption) (by assumption) | exact PB_add (by assumption) (by assumption) (by assumption) (by assumption) (by omega) (by assumption) (by assumption) (by assumption) (by omega) (by assumption) (by omega) (by omega) (by omega) h_m_foot e1_m_told) (by omega) (by omega) (by omega) (by omega)
    · skip
      have c32 := (fa_eq _ _).mp c32
      refine And.intro (fun h9 => absurd h9 (by decide)) (fun _ => ?_)
      refine And.intro (fun c33 => ?_) (fun c33 => ?_)
      · skip
        have c33 := mt (fa_eq _ _).mpr c33
        exact ts_X10_layMoves_89 m_standings m_foot m_told h_m_standings h_m_foot e0_m_told e1_m_told hpost hK2 hK12 hKn x1 x2 x4 x3 x2 m_moves (by omega) (by omega) (by omega) (by omega) (by omega) (fun k => by have q9 := h_m_moves k; omega) (by first | assumption | exact MVb_0 (by assumption) | exact MVb_s (by assumption) (by omega)) (by first | assumption | exact LB_of (by assumption) (by omega) (by omega) (by omega)) (by first | assumption | exact VAL_8 (by omega) | exact VAL_b (by omega) (by omega) (by assumption) (by assumption) (by assumption)) (by first | assumption ) (has_1 (by assumption) (by assumption) (by assumption) (by omega)) (by omega) (by omega) (by omega) (by omega) (by omega)
      · skip
        have c33 := (fa_eq _ _).mp c33
        exact ts_X10_layMoves_89 m_standings m_foot m_told h_m_standings h_m_foot e0_m_told e1_m_told hpost hK2 hK12 hKn x1 x2 x4 x3 (-1) m_moves (by omega) (by omega) (by omega) (by omega) (by omega) (fun k => by have q9 := h_m_moves k; omega) (by first | assumption | exact MVb_0 (by assumption) | exact MVb_s (by assumption) (by omega)) (by first | assumption | exact LB_of (by assumption) (by omega) (by omega) (by omega)) (by first | assumption | exact VAL_8 (by omega) | exact VAL_b (by omega) (by omega) (by assumption) (by assumption) (by assumption)) (by first | assumption ) (has_1 (by assumption) (by assumption) (by assumption) (by omega)) (by omega) (by omega) (by omega) (by omega) (by omega)
set_option maxHeartbeats 8000000 in
set_option maxRecDepth 200000 in
theorem tb_X10_layMoves_58 {post : (Nat → Int32) → Prop} {K2 : Int32 → (Nat → Int32) → Prop} {K12 : Int32 → Int32 → (Nat → Int32) → Prop} {n2 : Int} {n12 : Int} (m_standings : Int32) (m_foot : Nat → Int32) (m_told : Nat → Int32) (h_m_standings : 0 ≤ Int32.toInt m_standings ∧ Int32.toInt m_standings ≤ 8) (h_m_foot : ∀ k : Nat, 0 ≤ Int32.toInt (m_foot k) ∧ Int32.toInt (m_foot k) ≤ 99) (e0_m_told : ∀ k : Nat, k = 4 → 1 ≤ Int32.toInt (m_told k) ∧ Int32.toInt (m_told k) ≤ 30) (e1_m_told : ∀ k : Nat, k = 3 → 0 ≤ Int32.toInt (m_told k) ∧ Int32.toInt (m_told k) ≤ 9) (hpost : ∀ (m_moves' : Nat → Int32), (∀ k : Nat, 0 ≤ Int32.toInt (m_moves' k) ∧ Int32.toInt (m_moves' k) ≤ 1000000) → (MVT m_moves' m_foot m_told m_standings) → post m_moves') (hK2 : ∀ (x1 : Int32) (m_moves : Nat → Int32), (0 ≤ Int32.toInt x1 ∧ Int32.toInt x1 ≤ 256) → (∀ k : Nat, 0 ≤ Int32.toInt (m_moves k) ∧ Int32.toInt (m_moves k) ≤ 1000000) → (MVa m_moves m_foot m_told m_standings x1) → (256 - Int32.toInt x1 < n2) → K2 x1 m_moves) (hK12 : ∀ (x1 : Int32) (x2 : Int32) (m_moves : Nat → Int32), (0 ≤ Int32.toInt x1 ∧ Int32.toInt x1 ≤ 255) → (0 ≤ Int32.toInt x2 ∧ Int32.toInt x2 ≤ 9) → (∀ k : Nat, 0 ≤ Int32.toInt (m_moves k) ∧ Int32.toInt (m_moves k) ≤ 1000000) → (MVb m_moves m_foot m_told m_standings x1 x2) → (LB x1 m_standings) → (256 - Int32.toInt x1 ≤ n2) → (9 - Int32.toInt x2 < n12) → K12 x1 x2 m_moves) : ∀ (n : Nat) (x1 : Int32) (x2 : Int32) (x3 : Int32) (x4 : Int32) (m_moves : Nat → Int32), (0 ≤ Int32.toInt x1 ∧ Int32.toInt x1 ≤ 255) → (0 ≤ Int32.toInt x2 ∧ Int32.toInt x2 ≤ 8) → (0 ≤ Int32.toInt x3 ∧ Int32.toInt x3 ≤ 1000000) → (0 ≤ Int32.toInt x4 ∧ Int32.toInt x4 ≤ 8) → (∀ k : Nat, 0 ≤ Int32.toInt (m_moves k) ∧ Int32.toInt (m_moves k) ≤ 1000000) → (MVb m_moves m_foot m_told m_standings x1 x2) → (LB x1 m_standings) → (VAL m_standings x2 x1) → (PB m_moves m_foot m_told x1 x2 x4 x3) → (Int32.toInt x4 ≤ Int32.toInt m_standings) → (256 - Int32.toInt x1 ≤ n2) → (9 - Int32.toInt x2 ≤ n12) → (8 - Int32.toInt x4 < (n : Int)) → wb_X10_layMoves_58 post K2 K12 m_standings m_foot m_told n x1 x2 x3 x4 m_moves := by
  intro n
  induction n with
  | zero =>
    intro x1 x2 x3 x4 m_moves h_x1 h_x2 h_x3 h_x4 h_m_moves hx0 hx1 hx2 hx3 hx4 hn2 hn12 hm
    exfalso; omega
  | succ n ih =>
    intro x1 x2 x3 x4 m_moves h_x1 h_x2 h_x3 h_x4 h_m_moves hx0 hx1 hx2 hx3 hx4 hn2 hn12 hm
    exact ts_X10_layMoves_58 m_standings m_foot m_told h_m_standings h_m_foot e0_m_told e1_m_told hpost hK2 hK12 ih x1 x2 x3 x4 m_moves h_x1 h_x2 h_x3 h_x4 h_m_moves hx0 hx1 hx2 hx3 hx4 hn2 hn12 (by omega)
set_option maxHeartbeats 8000000 in
set_option maxRecDepth 200000 in
theorem ts_X10_layMoves_54 {post : (Nat → Int32) → Prop} {K2 : Int32 → (Nat → Int32) → Prop} {K12 : Int32 → Int32 → (Nat → Int32) → Prop} {n2 : Int} {n12 : Int} (m_standings : Int32) (m_foot : Nat → Int32) (m_told : Nat → Int32) (h_m_standings : 0 ≤ Int32.toInt m_standings ∧ Int32.toInt m_standings ≤ 8) (h_m_foot : ∀ k : Nat, 0 ≤ Int32.toInt (m_foot k) ∧ Int32.toInt (m_foot k) ≤ 99) (e0_m_told : ∀ k : Nat, k = 4 → 1 ≤ Int32.toInt (m_told k) ∧ Int32.toInt (m_told k) ≤ 30) (e1_m_told : ∀ k : Nat, k = 3 → 0 ≤ Int32.toInt (m_told k) ∧ Int32.toInt (m_told k) ≤ 9) (hpost : ∀ (m_moves' : Nat → Int32), (∀ k : Nat, 0 ≤ Int32.toInt (m_moves' k) ∧ Int32.toInt (m_moves' k) ≤ 1000000) → (MVT m_moves' m_foot m_told m_standings) → post m_moves') (hK2 : ∀ (x1 : Int32) (m_moves : Nat → Int32), (0 ≤ Int32.toInt x1 ∧ Int32.toInt x1 ≤ 256) → (∀ k : Nat, 0 ≤ Int32.toInt (m_moves k) ∧ Int32.toInt (m_moves k) ≤ 1000000) → (MVa m_moves m_foot m_told m_standings x1) → (256 - Int32.toInt x1 < n2) → K2 x1 m_moves) (hK12 : ∀ (x1 : Int32) (x2 : Int32) (m_moves : Nat → Int32), (0 ≤ Int32.toInt x1 ∧ Int32.toInt x1 ≤ 255) → (0 ≤ Int32.toInt x2 ∧ Int32.toInt x2 ≤ 9) → (∀ k : Nat, 0 ≤ Int32.toInt (m_moves k) ∧ Int32.toInt (m_moves k) ≤ 1000000) → (MVb m_moves m_foot m_told m_standings x1 x2) → (LB x1 m_standings) → (256 - Int32.toInt x1 ≤ n2) → (9 - Int32.toInt x2 < n12) → K12 x1 x2 m_moves) (x1 : Int32) (x2 : Int32) (k0 : Int32) (m_moves : Nat → Int32) (h_x1 : 0 ≤ Int32.toInt x1 ∧ Int32.toInt x1 ≤ 255) (h_x2 : 0 ≤ Int32.toInt x2 ∧ Int32.toInt x2 ≤ 8) (h_k0 : 0 ≤ Int32.toInt k0 ∧ Int32.toInt k0 ≤ 1000000) (h_m_moves : ∀ k : Nat, 0 ≤ Int32.toInt (m_moves k) ∧ Int32.toInt (m_moves k) ≤ 1000000) (hx0 : MVb m_moves m_foot m_told m_standings x1 x2) (hx1 : LB x1 m_standings) (hx2 : VAL m_standings x2 x1) (hx3 : (Int32.toInt x1 = 0 ∧ Int32.toInt k0 = 0) ∨ (Int32.toInt x1 ≠ 0 ∧ Int32.toInt k0 = 1000000)) (hn2 : 256 - Int32.toInt x1 ≤ n2) (hn12 : 9 - Int32.toInt x2 ≤ n12) : ws_X10_layMoves_54 post K2 K12 m_standings m_foot m_told x1 x2 k0 m_moves := by
  have l0 : Int32.toInt (0 : Int32) = 0 := (by decide)
  exact ⟨10, tb_X10_layMoves_58 m_standings m_foot m_told h_m_standings h_m_foot e0_m_told e1_m_told hpost hK2 hK12 _ x1 x2 k0 0 m_moves (by omega) (by omega) (by omega) (by omega) (fun k => by have q9 := h_m_moves k; omega) (by first | assumption | exact MVb_0 (by assumption) | exact MVb_s (by assumption) (by omega)) (by first | assumption | exact LB_of (by assumption) (by omega) (by omega) (by omega)) (by first | assumption | exact VAL_8 (by omega) | exact VAL_b (by omega) (by omega) (by assumption) (by assumption) (by assumption)) (by first | assumption | exact PB_init (by omega) | exact PB_s (by assumption) (by omega)) (by omega) (by omega) (by omega) (by omega)⟩
set_option maxHeartbeats 8000000 in
set_option maxRecDepth 200000 in
theorem ts_X10_layMoves_43 {post : (Nat → Int32) → Prop} {K2 : Int32 → (Nat → Int32) → Prop} {K12 : Int32 → Int32 → (Nat → Int32) → Prop} {n2 : Int} {n12 : Int} (m_standings : Int32) (m_foot : Nat → Int32) (m_told : Nat → Int32) (h_m_standings : 0 ≤ Int32.toInt m_standings ∧ Int32.toInt m_standings ≤ 8) (h_m_foot : ∀ k : Nat, 0 ≤ Int32.toInt (m_foot k) ∧ Int32.toInt (m_foot k) ≤ 99) (e0_m_told : ∀ k : Nat, k = 4 → 1 ≤ Int32.toInt (m_told k) ∧ Int32.toInt (m_told k) ≤ 30) (e1_m_told : ∀ k : Nat, k = 3 → 0 ≤ Int32.toInt (m_told k) ∧ Int32.toInt (m_told k) ≤ 9) (hpost : ∀ (m_moves' : Nat → Int32), (∀ k : Nat, 0 ≤ Int32.toInt (m_moves' k) ∧ Int32.toInt (m_moves' k) ≤ 1000000) → (MVT m_moves' m_foot m_told m_standings) → post m_moves') (hK2 : ∀ (x1 : Int32) (m_moves : Nat → Int32), (0 ≤ Int32.toInt x1 ∧ Int32.toInt x1 ≤ 256) → (∀ k : Nat, 0 ≤ Int32.toInt (m_moves k) ∧ Int32.toInt (m_moves k) ≤ 1000000) → (MVa m_moves m_foot m_told m_standings x1) → (256 - Int32.toInt x1 < n2) → K2 x1 m_moves) (hK12 : ∀ (x1 : Int32) (x2 : Int32) (m_moves : Nat → Int32), (0 ≤ Int32.toInt x1 ∧ Int32.toInt x1 ≤ 255) → (0 ≤ Int32.toInt x2 ∧ Int32.toInt x2 ≤ 9) → (∀ k : Nat, 0 ≤ Int32.toInt (m_moves k) ∧ Int32.toInt (m_moves k) ≤ 1000000) → (MVb m_moves m_foot m_told m_standings x1 x2) → (LB x1 m_standings) → (256 - Int32.toInt x1 ≤ n2) → (9 - Int32.toInt x2 < n12) → K12 x1 x2 m_moves) (x1 : Int32) (x2 : Int32) (m_moves : Nat → Int32) (h_x1 : 0 ≤ Int32.toInt x1 ∧ Int32.toInt x1 ≤ 255) (h_x2 : 0 ≤ Int32.toInt x2 ∧ Int32.toInt x2 ≤ 8) (h_m_moves : ∀ k : Nat, 0 ≤ Int32.toInt (m_moves k) ∧ Int32.toInt (m_moves k) ≤ 1000000) (hx0 : MVb m_moves m_foot m_told m_standings x1 x2) (hx1 : LB x1 m_standings) (hx2 : VAL m_standings x2 x1) (hn2 : 256 - Int32.toInt x1 ≤ n2) (hn12 : 9 - Int32.toInt x2 ≤ n12) : ws_X10_layMoves_43 post K2 K12 m_standings m_foot m_told x1 x2 m_moves := by
  have l0 : Int32.toInt (0 : Int32) = 0 := (by decide)
  have l1 : Int32.toInt (1000000 : Int32) = 1000000 := (by decide)
  refine And.intro (fun c34 => ?_) (fun c34 => ?_)
  · skip
    have c34 := mt (fa_eq _ _).mpr c34
    exact ts_X10_layMoves_54 m_standings m_foot m_told h_m_standings h_m_foot e0_m_told e1_m_told hpost hK2 hK12 x1 x2 1000000 m_moves (by omega) (by omega) (by omega) (fun k => by have q9 := h_m_moves k; omega) (by first | assumption | exact MVb_0 (by assumption) | exact MVb_s (by assumption) (by omega)) (by first | assumption | exact LB_of (by assumption) (by omega) (by omega) (by omega)) (by first | assumption | exact VAL_8 (by omega) | exact VAL_b (by omega) (by omega) (by assumption) (by assumption) (by assumption)) (by omega) (by omega) (by omega)
  · skip
    have c34 := (fa_eq _ _).mp c34
    exact ts_X10_layMoves_54 m_standings m_foot m_told h_m_standings h_m_foot e0_m_told e1_m_told hpost hK2 hK12 x1 x2 0 m_moves (by omega) (by omega) (by omega) (fun k => by have q9 := h_m_moves k; omega) (by first | assumption | exact MVb_0 (by assumption) | exact MVb_s (by assumption) (by omega)) (by first | assumption | exact LB_of (by assumption) (by omega) (by omega) (by omega)) (by first | assumption | exact VAL_8 (by omega) | exact VAL_b (by omega) (by omega) (by assumption) (by assumption) (by assumption)) (by omega) (by omega) (by omega)
set_option maxHeartbeats 8000000 in
set_option maxRecDepth 200000 in
theorem ts_X10_layMoves_12 {post : (Nat → Int32) → Prop} {K2 : Int32 → (Nat → Int32) → Prop} {next : Int32 → Int32 → (Nat → Int32) → Prop} {n12 : Int} {n2 : Int} (m_standings : Int32) (m_foot : Nat → Int32) (m_told : Nat → Int32) (h_m_standings : 0 ≤ Int32.toInt m_standings ∧ Int32.toInt m_standings ≤ 8) (h_m_foot : ∀ k : Nat, 0 ≤ Int32.toInt (m_foot k) ∧ Int32.toInt (m_foot k) ≤ 99) (e0_m_told : ∀ k : Nat, k = 4 → 1 ≤ Int32.toInt (m_told k) ∧ Int32.toInt (m_told k) ≤ 30) (e1_m_told : ∀ k : Nat, k = 3 → 0 ≤ Int32.toInt (m_told k) ∧ Int32.toInt (m_told k) ≤ 9) (hpost : ∀ (m_moves' : Nat → Int32), (∀ k : Nat, 0 ≤ Int32.toInt (m_moves' k) ∧ Int32.toInt (m_moves' k) ≤ 1000000) → (MVT m_moves' m_foot m_told m_standings) → post m_moves') (hK2 : ∀ (x1 : Int32) (m_moves : Nat → Int32), (0 ≤ Int32.toInt x1 ∧ Int32.toInt x1 ≤ 256) → (∀ k : Nat, 0 ≤ Int32.toInt (m_moves k) ∧ Int32.toInt (m_moves k) ≤ 1000000) → (MVa m_moves m_foot m_told m_standings x1) → (256 - Int32.toInt x1 < n2) → K2 x1 m_moves) (hKn : ∀ (x1 : Int32) (x2 : Int32) (m_moves : Nat → Int32), (0 ≤ Int32.toInt x1 ∧ Int32.toInt x1 ≤ 255) → (0 ≤ Int32.toInt x2 ∧ Int32.toInt x2 ≤ 9) → (∀ k : Nat, 0 ≤ Int32.toInt (m_moves k) ∧ Int32.toInt (m_moves k) ≤ 1000000) → (MVb m_moves m_foot m_told m_standings x1 x2) → (LB x1 m_standings) → (256 - Int32.toInt x1 ≤ n2) → (9 - Int32.toInt x2 < n12) → next x1 x2 m_moves) (x1 : Int32) (x2 : Int32) (m_moves : Nat → Int32) (h_x1 : 0 ≤ Int32.toInt x1 ∧ Int32.toInt x1 ≤ 255) (h_x2 : 0 ≤ Int32.toInt x2 ∧ Int32.toInt x2 ≤ 9) (h_m_moves : ∀ k : Nat, 0 ≤ Int32.toInt (m_moves k) ∧ Int32.toInt (m_moves k) ≤ 1000000) (hx0 : MVb m_moves m_foot m_told m_standings x1 x2) (hx1 : LB x1 m_standings) (hn2 : 256 - Int32.toInt x1 ≤ n2) (hn12 : 9 - Int32.toInt x2 ≤ n12) : ws_X10_layMoves_12 post K2 next m_standings m_foot m_told x1 x2 m_moves := by
  have l0 : Int32.toInt (1 : Int32) = 1 := (by decide)
  have l1 : Int32.toInt (8 : Int32) = 8 := (by decide)
  refine And.intro (fun c35 => ?_) (fun c35 => ?_)
  · skip
    have c35 := (fa_lt _ _).mp c35
    intro v36 ev36
    have f37 : Int32.toInt (x1 + 1) = Int32.toInt x1 + Int32.toInt (1 : Int32) := ta_add _ _ (by omega)
    rw [← ev36] at f37
    exact hK2 v36 m_moves (by omega) (fun k => by have q9 := h_m_moves k; omega) (by first | assumption | exact MVa_0 (by omega) | exact MVa_s (by assumption) (by omega) (by omega) (by omega)) (by omega)
  · skip
    have c35 := mt (fa_lt _ _).mpr c35
    refine And.intro (fun c38 => ?_) (fun c38 => ?_)
    · skip
      have c38 := (fa_le _ _).mp c38
      exact ts_X10_layMoves_43 m_standings m_foot m_told h_m_standings h_m_foot e0_m_told e1_m_told hpost hK2 hKn x1 x2 m_moves (by omega) (by omega) (fun k => by have q9 := h_m_moves k; omega) (by first | assumption | exact MVb_0 (by assumption) | exact MVb_s (by assumption) (by omega)) (by first | assumption | exact LB_of (by assumption) (by omega) (by omega) (by omega)) (by first | assumption | exact VAL_8 (by omega) | exact VAL_b (by omega) (by omega) (by assumption) (by assumption) (by assumption)) (by omega) (by omega)
    · skip
      have c38 := mt (fa_le _ _).mpr c38
      refine And.intro (fun c39 => ?_) (fun c39 => ?_)
      · skip
        have c39 := (fa_le _ _).mp c39
        exact ts_X10_layMoves_131 m_standings m_foot m_told h_m_standings h_m_foot e0_m_told e1_m_told hpost hK2 hKn x1 x2 m_moves (by omega) (by omega) (fun k => by have q9 := h_m_moves k; omega) (by first | assumption | exact MVb1_sk1 (by assumption) (by omega) (by omega) | exact MVb1_sk2 (by assumption) (by omega) (by assumption) (by assumption) (by assumption) | exact MVb1_up (by assumption) (by assumption) (by assumption) (by assumption) (by omega) (by omega) (by omega) (by omega) (by omega) (by omega) h_m_foot e1_m_told) (by first | assumption | exact LB_of (by assumption) (by omega) (by omega) (by omega)) (by omega) (by omega)
      · skip
        have c39 := mt (fa_le _ _).mpr c39
        intro v40 ev40
        have f41 := ti_shr x1 x2 (by omega)
        have hv40 := congrArg Int32.toInt ev40
        intro v42 ev42
        have f43 := ti_andr v40 1 (by omega)
        have f44 := ti_andl v40 1 (by omega)
        have hv42 := congrArg Int32.toInt ev42
        refine And.intro (fun c45 => ?_) (fun c45 => ?_)
        · skip
          have c45 := mt (fa_eq _ _).mpr c45
          refine And.intro (fun _ => ?_) (fun h9 => absurd h9 (by decide))
          exact ts_X10_layMoves_43 m_standings m_foot m_told h_m_standings h_m_foot e0_m_told e1_m_told hpost hK2 hKn x1 x2 m_moves (by omega) (by omega) (fun k => by have q9 := h_m_moves k; omega) (by first | assumption | exact MVb_0 (by assumption) | exact MVb_s (by assumption) (by omega)) (by first | assumption | exact LB_of (by assumption) (by omega) (by omega) (by omega)) (by first | assumption | exact VAL_8 (by omega) | exact VAL_b (by omega) (by omega) (by assumption) (by assumption) (by assumption)) (by omega) (by omega)
        · skip
          have c45 := (fa_eq _ _).mp c45
          refine And.intro (fun h9 => absurd h9 (by decide)) (fun _ => ?_)
          exact ts_X10_layMoves_131 m_standings m_foot m_told h_m_standings h_m_foot e0_m_told e1_m_told hpost hK2 hKn x1 x2 m_moves (by omega) (by omega) (fun k => by have q9 := h_m_moves k; omega) (by first | assumption | exact MVb1_sk1 (by assumption) (by omega) (by omega) | exact MVb1_sk2 (by assumption) (by omega) (by assumption) (by assumption) (by assumption) | exact MVb1_up (by assumption) (by assumption) (by assumption) (by assumption) (by omega) (by omega) (by omega) (by omega) (by omega) (by omega) h_m_foot e1_m_told) (by first | assumption | exact LB_of (by assumption) (by omega) (by omega) (by omega)) (by omega) (by omega)
set_option maxHeartbeats 8000000 in
set_option maxRecDepth 200000 in
theorem tb_X10_layMoves_12 {post : (Nat → Int32) → Prop} {K2 : Int32 → (Nat → Int32) → Prop} {n2 : Int} (m_standings : Int32) (m_foot : Nat → Int32) (m_told : Nat → Int32) (h_m_standings : 0 ≤ Int32.toInt m_standings ∧ Int32.toInt m_standings ≤ 8) (h_m_foot : ∀ k : Nat, 0 ≤ Int32.toInt (m_foot k) ∧ Int32.toInt (m_foot k) ≤ 99) (e0_m_told : ∀ k : Nat, k = 4 → 1 ≤ Int32.toInt (m_told k) ∧ Int32.toInt (m_told k) ≤ 30) (e1_m_told : ∀ k : Nat, k = 3 → 0 ≤ Int32.toInt (m_told k) ∧ Int32.toInt (m_told k) ≤ 9) (hpost : ∀ (m_moves' : Nat → Int32), (∀ k : Nat, 0 ≤ Int32.toInt (m_moves' k) ∧ Int32.toInt (m_moves' k) ≤ 1000000) → (MVT m_moves' m_foot m_told m_standings) → post m_moves') (hK2 : ∀ (x1 : Int32) (m_moves : Nat → Int32), (0 ≤ Int32.toInt x1 ∧ Int32.toInt x1 ≤ 256) → (∀ k : Nat, 0 ≤ Int32.toInt (m_moves k) ∧ Int32.toInt (m_moves k) ≤ 1000000) → (MVa m_moves m_foot m_told m_standings x1) → (256 - Int32.toInt x1 < n2) → K2 x1 m_moves) : ∀ (n : Nat) (x1 : Int32) (x2 : Int32) (m_moves : Nat → Int32), (0 ≤ Int32.toInt x1 ∧ Int32.toInt x1 ≤ 255) → (0 ≤ Int32.toInt x2 ∧ Int32.toInt x2 ≤ 9) → (∀ k : Nat, 0 ≤ Int32.toInt (m_moves k) ∧ Int32.toInt (m_moves k) ≤ 1000000) → (MVb m_moves m_foot m_told m_standings x1 x2) → (LB x1 m_standings) → (256 - Int32.toInt x1 ≤ n2) → (9 - Int32.toInt x2 < (n : Int)) → wb_X10_layMoves_12 post K2 m_standings m_foot m_told n x1 x2 m_moves := by
  intro n
  induction n with
  | zero =>
    intro x1 x2 m_moves h_x1 h_x2 h_m_moves hx0 hx1 hn2 hm
    exfalso; omega
  | succ n ih =>
    intro x1 x2 m_moves h_x1 h_x2 h_m_moves hx0 hx1 hn2 hm
    exact ts_X10_layMoves_12 m_standings m_foot m_told h_m_standings h_m_foot e0_m_told e1_m_told hpost hK2 ih x1 x2 m_moves h_x1 h_x2 h_m_moves hx0 hx1 hn2 (by omega)
set_option maxHeartbeats 8000000 in
set_option maxRecDepth 200000 in
theorem ts_X10_layMoves_2 {post : (Nat → Int32) → Prop} {next : Int32 → (Nat → Int32) → Prop} {n2 : Int} (m_standings : Int32) (m_foot : Nat → Int32) (m_told : Nat → Int32) (h_m_standings : 0 ≤ Int32.toInt m_standings ∧ Int32.toInt m_standings ≤ 8) (h_m_foot : ∀ k : Nat, 0 ≤ Int32.toInt (m_foot k) ∧ Int32.toInt (m_foot k) ≤ 99) (e0_m_told : ∀ k : Nat, k = 4 → 1 ≤ Int32.toInt (m_told k) ∧ Int32.toInt (m_told k) ≤ 30) (e1_m_told : ∀ k : Nat, k = 3 → 0 ≤ Int32.toInt (m_told k) ∧ Int32.toInt (m_told k) ≤ 9) (hpost : ∀ (m_moves' : Nat → Int32), (∀ k : Nat, 0 ≤ Int32.toInt (m_moves' k) ∧ Int32.toInt (m_moves' k) ≤ 1000000) → (MVT m_moves' m_foot m_told m_standings) → post m_moves') (hKn : ∀ (x1 : Int32) (m_moves : Nat → Int32), (0 ≤ Int32.toInt x1 ∧ Int32.toInt x1 ≤ 256) → (∀ k : Nat, 0 ≤ Int32.toInt (m_moves k) ∧ Int32.toInt (m_moves k) ≤ 1000000) → (MVa m_moves m_foot m_told m_standings x1) → (256 - Int32.toInt x1 < n2) → next x1 m_moves) (x1 : Int32) (m_moves : Nat → Int32) (h_x1 : 0 ≤ Int32.toInt x1 ∧ Int32.toInt x1 ≤ 256) (h_m_moves : ∀ k : Nat, 0 ≤ Int32.toInt (m_moves k) ∧ Int32.toInt (m_moves k) ≤ 1000000) (hx0 : MVa m_moves m_foot m_told m_standings x1) (hn2 : 256 - Int32.toInt x1 ≤ n2) : ws_X10_layMoves_2 post next m_standings m_foot m_told x1 m_moves := by
  have l0 : Int32.toInt (0 : Int32) = 0 := (by decide)
  have l1 : Int32.toInt (1 : Int32) = 1 := (by decide)
  intro v46 ev46
  have f47 := ti_shl1 8 256 m_standings (by decide) (by omega)
  have hv46 := congrArg Int32.toInt ev46
  have f49 : Int32.toInt (v46 - 1) = Int32.toInt v46 - Int32.toInt (1 : Int32) := ta_sub _ _ (by omega)
  refine And.intro (fun c48 => ?_) (fun c48 => ?_)
  · skip
    have c48 := (fa_lt _ _).mp c48
    exact hpost _ (fun k => by have q9 := h_m_moves k; omega) (MVT_of (by assumption) (by assumption) (by omega) (by omega))
  · skip
    have c48 := mt (fa_lt _ _).mpr c48
    exact ⟨11, tb_X10_layMoves_12 m_standings m_foot m_told h_m_standings h_m_foot e0_m_told e1_m_told hpost hKn _ x1 0 m_moves (by omega) (by omega) (fun k => by have q9 := h_m_moves k; omega) (by first | assumption | exact MVb_0 (by assumption) | exact MVb_s (by assumption) (by omega)) (by first | assumption | exact LB_of (by assumption) (by omega) (by omega) (by omega)) (by omega) (by omega)⟩
set_option maxHeartbeats 8000000 in
set_option maxRecDepth 200000 in
theorem tb_X10_layMoves_2 {post : (Nat → Int32) → Prop} (m_standings : Int32) (m_foot : Nat → Int32) (m_told : Nat → Int32) (h_m_standings : 0 ≤ Int32.toInt m_standings ∧ Int32.toInt m_standings ≤ 8) (h_m_foot : ∀ k : Nat, 0 ≤ Int32.toInt (m_foot k) ∧ Int32.toInt (m_foot k) ≤ 99) (e0_m_told : ∀ k : Nat, k = 4 → 1 ≤ Int32.toInt (m_told k) ∧ Int32.toInt (m_told k) ≤ 30) (e1_m_told : ∀ k : Nat, k = 3 → 0 ≤ Int32.toInt (m_told k) ∧ Int32.toInt (m_told k) ≤ 9) (hpost : ∀ (m_moves' : Nat → Int32), (∀ k : Nat, 0 ≤ Int32.toInt (m_moves' k) ∧ Int32.toInt (m_moves' k) ≤ 1000000) → (MVT m_moves' m_foot m_told m_standings) → post m_moves') : ∀ (n : Nat) (x1 : Int32) (m_moves : Nat → Int32), (0 ≤ Int32.toInt x1 ∧ Int32.toInt x1 ≤ 256) → (∀ k : Nat, 0 ≤ Int32.toInt (m_moves k) ∧ Int32.toInt (m_moves k) ≤ 1000000) → (MVa m_moves m_foot m_told m_standings x1) → (256 - Int32.toInt x1 < (n : Int)) → wb_X10_layMoves_2 post m_standings m_foot m_told n x1 m_moves := by
  intro n
  induction n with
  | zero =>
    intro x1 m_moves h_x1 h_m_moves hx0 hm
    exfalso; omega
  | succ n ih =>
    intro x1 m_moves h_x1 h_m_moves hx0 hm
    exact ts_X10_layMoves_2 m_standings m_foot m_told h_m_standings h_m_foot e0_m_told e1_m_told hpost ih x1 m_moves h_x1 h_m_moves hx0 (by omega)
set_option maxHeartbeats 8000000 in
set_option maxRecDepth 200000 in
theorem t_X10_layMoves {post : (Nat → Int32) → Prop} {m_standings : Int32} {m_foot : Nat → Int32} {m_told : Nat → Int32} {m_moves : Nat → Int32} (h_m_standings : 0 ≤ Int32.toInt m_standings ∧ Int32.toInt m_standings ≤ 8) (h_m_foot : ∀ k : Nat, 0 ≤ Int32.toInt (m_foot k) ∧ Int32.toInt (m_foot k) ≤ 99) (e0_m_told : ∀ k : Nat, k = 4 → 1 ≤ Int32.toInt (m_told k) ∧ Int32.toInt (m_told k) ≤ 30) (e1_m_told : ∀ k : Nat, k = 3 → 0 ≤ Int32.toInt (m_told k) ∧ Int32.toInt (m_told k) ≤ 9) (h_m_moves : ∀ k : Nat, 0 ≤ Int32.toInt (m_moves k) ∧ Int32.toInt (m_moves k) ≤ 1000000) (hpost : ∀ (m_moves' : Nat → Int32), (∀ k : Nat, 0 ≤ Int32.toInt (m_moves' k) ∧ Int32.toInt (m_moves' k) ≤ 1000000) → (MVT m_moves' m_foot m_told m_standings) → post m_moves') : wp_X10_layMoves post m_standings m_foot m_told m_moves := by
  have l0 : Int32.toInt (0 : Int32) = 0 := (by decide)
  exact ⟨258, tb_X10_layMoves_2 m_standings m_foot m_told h_m_standings h_m_foot e0_m_told e1_m_told hpost _ 0 m_moves (by omega) (fun k => by have q9 := h_m_moves k; omega) (by first | assumption | exact MVa_0 (by omega) | exact MVa_s (by assumption) (by omega) (by omega) (by omega)) (by omega)⟩
