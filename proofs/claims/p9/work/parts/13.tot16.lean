set_option maxHeartbeats 8000000 in
set_option maxRecDepth 200000 in
theorem ts_X10_route_105 {post : Int32 → Int32 → Int32 → (Nat → Int32) → (Nat → Int32) → Prop} {SB : Int} {K54 : Int32 → Int32 → Int32 → Int32 → Int32 → (Nat → Int32) → (Nat → Int32) → Prop} {K61 : Int32 → Int32 → Int32 → Int32 → Int32 → Int32 → (Nat → Int32) → (Nat → Int32) → Prop} {n54 : Int} {n61 : Int} (m_standings : Int32) (m_now : Nat → Int32) (m_foot : Nat → Int32) (m_told : Nat → Int32) (h_m_standings : 0 ≤ Int32.toInt m_standings ∧ Int32.toInt m_standings ≤ 8) (e0_m_now : ∀ k : Nat, k = 17 → -1 ≤ Int32.toInt (m_now k) ∧ Int32.toInt (m_now k) ≤ SB) (e1_m_now : ∀ k : Nat, k = 19 → 0 ≤ Int32.toInt (m_now k) ∧ Int32.toInt (m_now k) ≤ 9) (h_m_foot : ∀ k : Nat, 0 ≤ Int32.toInt (m_foot k) ∧ Int32.toInt (m_foot k) ≤ 99) (e0_m_told : ∀ k : Nat, k = 4 → 1 ≤ Int32.toInt (m_told k) ∧ Int32.toInt (m_told k) ≤ 30) (e1_m_told : ∀ k : Nat, k = 3 → 0 ≤ Int32.toInt (m_told k) ∧ Int32.toInt (m_told k) ≤ 9) (hc0 : -1 ≤ SB ∧ SB ≤ 7) (hc1 : (Int32.toInt m_standings ≤ 0 ∧ SB = 0) ∨ (1 ≤ Int32.toInt m_standings ∧ SB = Int32.toInt m_standings - 1)) (hpost : ∀ (r : Int32) (m_rowMany' : Int32) (m_thrown' : Int32) (m_row' : Nat → Int32) (m_moves' : Nat → Int32), (-1 ≤ Int32.toInt r ∧ Int32.toInt r ≤ 1000000) → (0 ≤ Int32.toInt m_rowMany' ∧ Int32.toInt m_rowMany' ≤ 16) → (0 ≤ Int32.toInt m_thrown' ∧ Int32.toInt m_thrown' ≤ 0) → (∀ k : Nat, 0 ≤ Int32.toInt (m_moves' k) ∧ Int32.toInt (m_moves' k) ≤ 1000000) → post r m_rowMany' m_thrown' m_row' m_moves') (hK54 : ∀ (x2 : Int32) (x3 : Int32) (x4 : Int32) (m_rowMany : Int32) (m_thrown : Int32) (m_row : Nat → Int32) (m_moves : Nat → Int32), (0 ≤ Int32.toInt x2 ∧ Int32.toInt x2 ≤ 255) → (-1 ≤ Int32.toInt x3 ∧ Int32.toInt x3 ≤ 7) → (0 ≤ Int32.toInt x4 ∧ Int32.toInt x4 ≤ 1000000) → (0 ≤ Int32.toInt m_rowMany ∧ Int32.toInt m_rowMany ≤ 16) → (0 ≤ Int32.toInt m_thrown ∧ Int32.toInt m_thrown ≤ 0) → (∀ k : Nat, 0 ≤ Int32.toInt (m_moves k) ∧ Int32.toInt (m_moves k) ≤ 1000000) → (MVT m_moves m_foot m_told m_standings) → (VALz m_standings (plc x3) x2) → (LB x2 m_standings) → (Int32.toInt m_rowMany + ((pcn 16 x2 : Nat) : Int) ≤ 16) → (((pcn 16 x2 : Nat) : Int) < n54) → K54 x2 x3 x4 m_rowMany m_thrown m_row m_moves) (hK61 : ∀ (x2 : Int32) (x3 : Int32) (x4 : Int32) (x5 : Int32) (m_rowMany : Int32) (m_thrown : Int32) (m_row : Nat → Int32) (m_moves : Nat → Int32), (1 ≤ Int32.toInt x2 ∧ Int32.toInt x2 ≤ 255) → (-1 ≤ Int32.toInt x3 ∧ Int32.toInt x3 ≤ 7) → (0 ≤ Int32.toInt x4 ∧ Int32.toInt x4 ≤ 1000000) → (0 ≤ Int32.toInt x5 ∧ Int32.toInt x5 ≤ 7) → (0 ≤ Int32.toInt m_rowMany ∧ Int32.toInt m_rowMany ≤ 16) → (0 ≤ Int32.toInt m_thrown ∧ Int32.toInt m_thrown ≤ 0) → (∀ k : Nat, 0 ≤ Int32.toInt (m_moves k) ∧ Int32.toInt (m_moves k) ≤ 1000000) → (MVT m_moves m_foot m_told m_standings) → (VALz m_standings (plc x3) x2) → (LB x2 m_standings) → (Int32.toInt m_rowMany + ((pcn 16 x2 : Nat) : Int) ≤ 16) → (RtX m_moves m_foot m_told m_standings x3 x2 x5) → (((pcn 16 x2 : Nat) : Int) ≤ n54) → (7 - Int32.toInt x5 < n61) → K61 x2 x3 x4 x5 m_rowMany m_thrown m_row m_moves) (x2 : Int32) (x3 : Int32) (x4 : Int32) (x5 : Int32) (m_rowMany : Int32) (m_thrown : Int32) (m_row : Nat → Int32) (m_moves : Nat → Int32) (h_x2 : 1 ≤ Int32.toInt x2 ∧ Int32.toInt x2 ≤ 255) (h_x3 : -1 ≤ Int32.toInt x3 ∧ Int32.toInt x3 ≤ 7) (h_x4 : 0 ≤ Int32.toInt x4 ∧ Int32.toInt x4 ≤ 1000000) (h_x5 : 0 ≤ Int32.toInt x5 ∧ Int32.toInt x5 ≤ 7) (h_m_rowMany : 0 ≤ Int32.toInt m_rowMany ∧ Int32.toInt m_rowMany ≤ 16) (h_m_thrown : 0 ≤ Int32.toInt m_thrown ∧ Int32.toInt m_thrown ≤ 0) (h_m_moves : ∀ k : Nat, 0 ≤ Int32.toInt (m_moves k) ∧ Int32.toInt (m_moves k) ≤ 1000000) (hx0 : MVT m_moves m_foot m_told m_standings) (hx1 : VALz m_standings (plc x3) x2) (hx2 : LB x2 m_standings) (hx3 : Int32.toInt m_rowMany + ((pcn 16 x2 : Nat) : Int) ≤ 16) (hx4 : RtY m_moves m_foot m_told m_standings x3 x2 x5) (hn54 : ((pcn 16 x2 : Nat) : Int) ≤ n54) (hn61 : 7 - Int32.toInt x5 ≤ n61) : ws_X10_route_105 post K54 K61 m_standings m_now m_foot m_told x2 x3 x4 x5 m_rowMany m_thrown m_row m_moves := by
  have l0 : Int32.toInt (1 : Int32) = 1 := (by decide)
  have j1 := RtY_le (x := x5) (by assumption) (by omega)
  intro v2 ev2
  have f3 : Int32.toInt (x5 + 1) = Int32.toInt x5 + Int32.toInt (1 : Int32) := ta_add _ _ (by omega)
  rw [← ev2] at f3
  have j4 := pcn_le 16 (x2)
  exact hK61 x2 x3 x4 v2 m_rowMany m_thrown m_row m_moves (by omega) (by omega) (by omega) (by omega) (by omega) (by omega) (fun k => by have q9 := h_m_moves k; omega) (by assumption) (by first | assumption | exact VALz_p (by omega) | exact VALz_i (by assumption) (by assumption) (by omega) (by omega) (by assumption) (by omega) (by omega) (by omega) | exact VALz_c (by assumption) (by assumption) (by assumption) (by assumption) (by assumption) (by assumption) (by omega)) (by first | assumption | exact LB_of (by assumption) (by omega) (by omega) (by omega) | exact LB_e (by assumption) (by assumption) | exact LB_c (LB_of (by assumption) (by omega) (by omega) (by omega))) (by omega) (by first | assumption | exact RtX_0 (by assumption) (by assumption) (by assumption) (by omega) (by assumption) (by omega) | exact RtX_s (by assumption) (by omega)) (by omega) (by omega)
set_option maxHeartbeats 8000000 in
set_option maxRecDepth 200000 in
theorem ts_X10_route_61 {post : Int32 → Int32 → Int32 → (Nat → Int32) → (Nat → Int32) → Prop} {SB : Int} {K54 : Int32 → Int32 → Int32 → Int32 → Int32 → (Nat → Int32) → (Nat → Int32) → Prop} {next : Int32 → Int32 → Int32 → Int32 → Int32 → Int32 → (Nat → Int32) → (Nat → Int32) → Prop} {n61 : Int} {n54 : Int} (m_standings : Int32) (m_now : Nat → Int32) (m_foot : Nat → Int32) (m_told : Nat → Int32) (h_m_standings : 0 ≤ Int32.toInt m_standings ∧ Int32.toInt m_standings ≤ 8) (e0_m_now : ∀ k : Nat, k = 17 → -1 ≤ Int32.toInt (m_now k) ∧ Int32.toInt (m_now k) ≤ SB) (e1_m_now : ∀ k : Nat, k = 19 → 0 ≤ Int32.toInt (m_now k) ∧ Int32.toInt (m_now k) ≤ 9) (h_m_foot : ∀ k : Nat, 0 ≤ Int32.toInt (m_foot k) ∧ Int32.toInt (m_foot k) ≤ 99) (e0_m_told : ∀ k : Nat, k = 4 → 1 ≤ Int32.toInt (m_told k) ∧ Int32.toInt (m_told k) ≤ 30) (e1_m_told : ∀ k : Nat, k = 3 → 0 ≤ Int32.toInt (m_told k) ∧ Int32.toInt (m_told k) ≤ 9) (hc0 : -1 ≤ SB ∧ SB ≤ 7) (hc1 : (Int32.toInt m_standings ≤ 0 ∧ SB = 0) ∨ (1 ≤ Int32.toInt m_standings ∧ SB = Int32.toInt m_standings - 1)) (hpost : ∀ (r : Int32) (m_rowMany' : Int32) (m_thrown' : Int32) (m_row' : Nat → Int32) (m_moves' : Nat → Int32), (-1 ≤ Int32.toInt r ∧ Int32.toInt r ≤ 1000000) → (0 ≤ Int32.toInt m_rowMany' ∧ Int32.toInt m_rowMany' ≤ 16) → (0 ≤ Int32.toInt m_thrown' ∧ Int32.toInt m_thrown' ≤ 0) → (∀ k : Nat, 0 ≤ Int32.toInt (m_moves' k) ∧ Int32.toInt (m_moves' k) ≤ 1000000) → post r m_rowMany' m_thrown' m_row' m_moves') (hK54 : ∀ (x2 : Int32) (x3 : Int32) (x4 : Int32) (m_rowMany : Int32) (m_thrown : Int32) (m_row : Nat → Int32) (m_moves : Nat → Int32), (0 ≤ Int32.toInt x2 ∧ Int32.toInt x2 ≤ 255) → (-1 ≤ Int32.toInt x3 ∧ Int32.toInt x3 ≤ 7) → (0 ≤ Int32.toInt x4 ∧ Int32.toInt x4 ≤ 1000000) → (0 ≤ Int32.toInt m_rowMany ∧ Int32.toInt m_rowMany ≤ 16) → (0 ≤ Int32.toInt m_thrown ∧ Int32.toInt m_thrown ≤ 0) → (∀ k : Nat, 0 ≤ Int32.toInt (m_moves k) ∧ Int32.toInt (m_moves k) ≤ 1000000) → (MVT m_moves m_foot m_told m_standings) → (VALz m_standings (plc x3) x2) → (LB x2 m_standings) → (Int32.toInt m_rowMany + ((pcn 16 x2 : Nat) : Int) ≤ 16) → (((pcn 16 x2 : Nat) : Int) < n54) → K54 x2 x3 x4 m_rowMany m_thrown m_row m_moves) (hKn : ∀ (x2 : Int32) (x3 : Int32) (x4 : Int32) (x5 : Int32) (m_rowMany : Int32) (m_thrown : Int32) (m_row : Nat → Int32) (m_moves : Nat → Int32), (1 ≤ Int32.toInt x2 ∧ Int32.toInt x2 ≤ 255) → (-1 ≤ Int32.toInt x3 ∧ Int32.toInt x3 ≤ 7) → (0 ≤ Int32.toInt x4 ∧ Int32.toInt x4 ≤ 1000000) → (0 ≤ Int32.toInt x5 ∧ Int32.toInt x5 ≤ 7) → (0 ≤ Int32.toInt m_rowMany ∧ Int32.toInt m_rowMany ≤ 16) → (0 ≤ Int32.toInt m_thrown ∧ Int32.toInt m_thrown ≤ 0) → (∀ k : Nat, 0 ≤ Int32.toInt (m_moves k) ∧ Int32.toInt (m_moves k) ≤ 1000000) → (MVT m_moves m_foot m_told m_standings) → (VALz m_standings (plc x3) x2) → (LB x2 m_standings) → (Int32.toInt m_rowMany + ((pcn 16 x2 : Nat) : Int) ≤ 16) → (RtX m_moves m_foot m_told m_standings x3 x2 x5) → (((pcn 16 x2 : Nat) : Int) ≤ n54) → (7 - Int32.toInt x5 < n61) → next x2 x3 x4 x5 m_rowMany m_thrown m_row m_moves) (x2 : Int32) (x3 : Int32) (x4 : Int32) (x5 : Int32) (m_rowMany : Int32) (m_thrown : Int32) (m_row : Nat → Int32) (m_moves : Nat → Int32) (h_x2 : 1 ≤ Int32.toInt x2 ∧ Int32.toInt x2 ≤ 255) (h_x3 : -1 ≤ Int32.toInt x3 ∧ Int32.toInt x3 ≤ 7) (h_x4 : 0 ≤ Int32.toInt x4 ∧ Int32.toInt x4 ≤ 1000000) (h_x5 : 0 ≤ Int32.toInt x5 ∧ Int32.toInt x5 ≤ 7) (h_m_rowMany : 0 ≤ Int32.toInt m_rowMany ∧ Int32.toInt m_rowMany ≤ 16) (h_m_thrown : 0 ≤ Int32.toInt m_thrown ∧ Int32.toInt m_thrown ≤ 0) (h_m_moves : ∀ k : Nat, 0 ≤ Int32.toInt (m_moves k) ∧ Int32.toInt (m_moves k) ≤ 1000000) (hx0 : MVT m_moves m_foot m_told m_standings) (hx1 : VALz m_standings (plc x3) x2) (hx2 : LB x2 m_standings) (hx3 : Int32.toInt m_rowMany + ((pcn 16 x2 : Nat) : Int) ≤ 16) (hx4 : RtX m_moves m_foot m_told m_standings x3 x2 x5) (hn54 : ((pcn 16 x2 : Nat) : Int) ≤ n54) (hn61 : 7 - Int32.toInt x5 ≤ n61) : ws_X10_route_61 post K54 next m_standings m_now m_foot m_told x2 x3 x4 x5 m_rowMany m_thrown m_row m_moves := by
  have l0 : Int32.toInt ((-1) : Int32) = -1 := (by decide)
  have l1 : Int32.toInt (1 : Int32) = 1 := (by decide)
  have l2 : Int32.toInt (8 : Int32) = 8 := (by decide)
  intro v5 ev5
  have f6 := ti_shr x2 x5 (by omega)
  have hv5 := congrArg Int32.toInt ev5
  intro v7 ev7
  have f8 := ti_andr v5 1 (by omega)
  have f9 := ti_andl v5 1 (by omega)
  have hv7 := congrArg Int32.toInt ev7
  refine And.intro (fun c10 => ?_) (fun c10 => ?_)
  · skip
    have c10 := mt (fa_eq _ _).mpr c10
    refine And.intro (fun _ => ?_) (fun h9 => absurd h9 (by decide))
    have j11 := pcn_le 16 (x2)
    exact ts_X10_route_105 m_standings m_now m_foot m_told h_m_standings e0_m_now e1_m_now h_m_foot e0_m_told e1_m_told hc0 hc1 hpost hK54 hKn x2 x3 x4 x5 m_rowMany m_thrown m_row m_moves (by omega) (by omega) (by omega) (by omega) (by omega) (by omega) (fun k => by have q9 := h_m_moves k; omega) (by assumption) (by first | assumption | exact VALz_p (by omega) | exact VALz_i (by assumption) (by assumption) (by omega) (by omega) (by assumption) (by omega) (by omega) (by omega) | exact VALz_c (by assumption) (by assumption) (by assumption) (by assumption) (by assumption) (by assumption) (by omega)) (by first | assumption | exact LB_of (by assumption) (by omega) (by omega) (by omega) | exact LB_e (by assumption) (by assumption) | exact LB_c (LB_of (by assumption) (by omega) (by omega) (by omega))) (by omega) (by first | assumption | exact RtX_h (by assumption) (by omega) (by assumption) (by assumption) (by assumption) | exact RtX_n (by assumption) (by assumption) (by assumption) (by assumption) (by assumption) (by assumption) (by assumption) (by assumption) (by omega) (by omega) (by omega) (by omega) (by omega) (by omega) h_m_foot e1_m_told) (by omega) (by omega)
  · skip
    have c10 := (fa_eq _ _).mp c10
    refine And.intro (fun h9 => absurd h9 (by decide)) (fun _ => ?_)
    have j12 := pcn_pos x2 x5 (by assumption) (by assumption) (by omega) (by omega)
    refine t_X10_moveOf (by omega) (by omega) (fun k => by have q9 := h_m_foot k; omega) e0_m_told e1_m_told (by omega) (by omega) (fun r13 h_r13 ox14 => ?_)
    intro v15 ev15
    have f16 := ti_shl1 7 128 x5 (by decide) (by omega)
    have hv15 := congrArg Int32.toInt ev15
    intro v17 ev17
    have f19 := ti_andl x2 (v15 ^^^ (-1)) (by omega)
    have hv17 := congrArg Int32.toInt ev17
    intro v20 ev20
    have f21 := ti_shl8 x5 (by omega)
    have hv20 := congrArg Int32.toInt ev20
    intro v22 ev22
    have f23 : Int32.toInt (v20 + v17) = Int32.toInt v20 + Int32.toInt v17 := ta_add _ _ (by omega)
    rw [← ev22] at f23
    refine And.intro (t_in (by omega)) ?_
    intro v24 ev24
    have f26 := h_m_moves v22.toNatClampNeg
    have f25 : Int32.toInt (r13 + (m_moves v22.toNatClampNeg)) = Int32.toInt r13 + Int32.toInt (m_moves v22.toNatClampNeg) := ta_add _ _ (by omega)
    rw [← ev24] at f25
    refine And.intro (fun c27 => ?_) (fun c27 => ?_)
    · skip
      have c27 := mt (fa_eq _ _).mpr c27
      intro v28 ev28
      have f29 := ti_shl8 x3 (by omega)
      have hv28 := congrArg Int32.toInt ev28
      intro v30 ev30
      have f31 : Int32.toInt (v28 + x2) = Int32.toInt v28 + Int32.toInt x2 := ta_add _ _ (by omega)
      rw [← ev30] at f31
      refine And.intro (t_in (by omega)) ?_
      have f33 := h_m_moves v30.toNatClampNeg
      refine And.intro (fun c32 => ?_) (fun c32 => ?_)
      · skip
        have c32 := (fa_eq _ _).mp c32
        refine And.intro (t_in (by omega)) ?_
        intro v34 ev34
        have f35 : Int32.toInt (m_rowMany + 1) = Int32.toInt m_rowMany + Int32.toInt (1 : Int32) := ta_add _ _ (by omega)
        rw [← ev34] at f35
        intro v36 ev36
        have hv36 := congrArg Int32.toInt ev36
        intro v37 ev37
        have f39 := ti_andl x2 (v36 ^^^ (-1)) (by omega)
        have hv37 := congrArg Int32.toInt ev37
        have j40 := pcn_clr v37 x5 (by assumption) (by assumption) (by omega) (by assumption) (by assumption) (by omega)
        have j41 := pcn_le 16 (v37)
        exact hK54 v37 x5 x4 v34 m_thrown (upd m_row m_rowMany.toNatClampNeg x5) m_moves (by omega) (by omega) (by omega) (by omega) (by omega) (fun k => by have q9 := h_m_moves k; omega) (by assumption) (by first | assumption | exact VALz_p (by omega) | exact VALz_i (by assumption) (by assumption) (by omega) (by omega) (by assumption) (by omega) (by omega) (by omega) | exact VALz_c (by assumption) (by assumption) (by assumption) (by assumption) (by assumption) (by assumption) (by omega)) (by first | assumption | exact LB_of (by assumption) (by omega) (by omega) (by omega) | exact LB_e (by assumption) (by assumption) | exact LB_c (LB_of (by assumption) (by omega) (by omega) (by omega))) (by omega) (by omega)
      · skip
        have c32 := mt (fa_eq _ _).mpr c32
        have j42 := pcn_le 16 (x2)
        exact ts_X10_route_105 m_standings m_now m_foot m_told h_m_standings e0_m_now e1_m_now h_m_foot e0_m_told e1_m_told hc0 hc1 hpost hK54 hKn x2 x3 x4 x5 m_rowMany m_thrown m_row m_moves (by omega) (by omega) (by omega) (by omega) (by omega) (by omega) (fun k => by have q9 := h_m_moves k; omega) (by assumption) (by first | assumption | exact VALz_p (by omega) | exact VALz_i (by assumption) (by assumption) (by omega) (by omega) (by assumption) (by omega) (by omega) (by omega) | exact VALz_c (by assumption) (by assumption) (by assumption) (by assumption) (by assumption) (by assumption) (by omega)) (by first | assumption | exact LB_of (by assumption) (by omega) (by omega) (by omega) | exact LB_e (by assumption) (by assumption) | exact LB_c (LB_of (by assumption) (by omega) (by omega) (by omega))) (by omega) (by first | assumption | exact RtX_h (by assumption) (by omega) (by assumption) (by assumption) (by assumption) | exact RtX_n (by assumption) (by assumption) (by assumption) (by assumption) (by assumption) (by assumption) (by assumption) (by assumption) (by omega) (by omega) (by omega) (by omega) (by omega) (by omega) h_m_foot e1_m_told) (by omega) (by omega)
    · skip
      have c27 := (fa_eq _ _).mp c27
      intro v43 ev43
      have f44 := ti_shl8 8 (by omega)
      have hv43 := congrArg Int32.toInt ev43
      intro v45 ev45
      have f46 : Int32.toInt (v43 + x2) = Int32.toInt v43 + Int32.toInt x2 := ta_add _ _ (by omega)
      rw [← ev45] at f46
      refine And.intro (t_in (by omega)) ?_
      have f48 := h_m_moves v45.toNatClampNeg
      refine And.intro (fun c47 => ?_) (fun c47 => ?_)
      · skip
        have c47 := (fa_eq _ _).mp c47
        refine And.intro (t_in (by omega)) ?_
        intro v49 ev49
        have f50 : Int32.toInt (m_rowMany + 1) = Int32.toInt m_rowMany + Int32.toInt (1 : Int32) := ta_add _ _ (by omega)
        rw [← ev49] at f50
        intro v51 ev51
        have hv51 := congrArg Int32.toInt ev51
        intro v52 ev52
        have f54 := ti_andl x2 (v51 ^^^ (-1)) (by omega)
        have hv52 := congrArg Int32.toInt ev52
        have j55 := pcn_clr v52 x5 (by assumption) (by assumption) (by omega) (by assumption) (by assumption) (by omega)
        have j56 := pcn_le 16 (v52)
        exact hK54 v52 x5 x4 v49 m_thrown (upd m_row m_rowMany.toNatClampNeg x5) m_moves (by omega) (by omega) (by omega) (by omega) (by omega) (fun k => by have q9 := h_m_moves k; omega) (by assumption) (by first | assumption | exact VALz_p (by omega) | exact VALz_i (by assumption) (by assumption) (by omega) (by omega) (by assumption) (by omega) (by omega) (by omega) | exact VALz_c (by assumption) (by assumption) (by assumption) (by assumption) (by assumption) (by assumption) (by omega)) (by first | assumption | exact LB_of (by assumption) (by omega) (by omega) (by omega) | exact LB_e (by assumption) (by assumption) | exact LB_c (LB_of (by assumption) (by omega) (by omega) (by omega))) (by omega) (by omega)
      · skip
        have c47 := mt (fa_eq _ _).mpr c47
        have j57 := pcn_le 16 (x2)
        exact ts_X10_route_105 m_standings m_now m_foot m_told h_m_standings e0_m_now e1_m_now h_m_foot e0_m_told e1_m_told hc0 hc1 hpost hK54 hKn x2 x3 x4 x5 m_rowMany m_thrown m_row m_moves (by omega) (by omega) (by omega) (by omega) (by omega) (by omega) (fun k => by have q9 := h_m_moves k; omega) (by assumption) (by first | assumption | exact VALz_p (by omega) | exact VALz_i (by assumption) (by assumption) (by omega) (by omega) (by assumption) (by omega) (by omega) (by omega) | exact VALz_c (by assumption) (by assumption) (by assumption) (by assumption) (by assumption) (by assumption) (by omega)) (by first | assumption | exact LB_of (by assumption) (by omega) (by omega) (by omega) | exact LB_e (by assumption) (by assumption) | exact LB_c (LB_of (by assumption) (by omega) (by omega) (by omega))) (by omega) (by first | assumption | exact RtX_h (by assumption) (by omega) (by assumption) (by assumption) (by assumption) | exact RtX_n (by assumption) (by assumption) (by assumption) (by assumption) (by assumption) (by assumption) (by assumption) (by assumption) (by omega) (by omega) (by omega) (by omega) (by omega) (by omega) h_m_foot e1_m_told) (by omega) (by omega)
set_option maxHeartbeats 8000000 in
set_option maxRecDepth 200000 in
theorem tb_X10_route_61 {post : Int32 → Int32 → Int32 → (Nat → Int32) → (Nat → Int32) → Prop} {SB : Int} {K54 : Int32 → Int32 → Int32 → Int32 → Int32 → (Nat → Int32) → (Nat → Int32) → Prop} {n54 : Int} (m_standings : Int32) (m_now : Nat → Int32) (m_foot : Nat → Int32) (m_told : Nat → Int32) (h_m_standings : 0 ≤ Int32.toInt m_standings ∧ Int32.toInt m_standings ≤ 8) (e0_m_now : ∀ k : Nat, k = 17 → -1 ≤ Int32.toInt (m_now k) ∧ Int32.toInt (m_now k) ≤ SB) (e1_m_now : ∀ k : Nat, k = 19 → 0 ≤ Int32.toInt (m_now k) ∧ Int32.toInt (m_now k) ≤ 9) (h_m_foot : ∀ k : Nat, 0 ≤ Int32.toInt (m_foot k) ∧ Int32.toInt (m_foot k) ≤ 99) (e0_m_told : ∀ k : Nat, k = 4 → 1 ≤ Int32.toInt (m_told k) ∧ Int32.toInt (m_told k) ≤ 30) (e1_m_told : ∀ k : Nat, k = 3 → 0 ≤ Int32.toInt (m_told k) ∧ Int32.toInt (m_told k) ≤ 9) (hc0 : -1 ≤ SB ∧ SB ≤ 7) (hc1 : (Int32.toInt m_standings ≤ 0 ∧ SB = 0) ∨ (1 ≤ Int32.toInt m_standings ∧ SB = Int32.toInt m_standings - 1)) (hpost : ∀ (r : Int32) (m_rowMany' : Int32) (m_thrown' : Int32) (m_row' : Nat → Int32) (m_moves' : Nat → Int32), (-1 ≤ Int32.toInt r ∧ Int32.toInt r ≤ 1000000) → (0 ≤ Int32.toInt m_rowMany' ∧ Int32.toInt m_rowMany' ≤ 16) → (0 ≤ Int32.toInt m_thrown' ∧ Int32.toInt m_thrown' ≤ 0) → (∀ k : Nat, 0 ≤ Int32.toInt (m_moves' k) ∧ Int32.toInt (m_moves' k) ≤ 1000000) → post r m_rowMany' m_thrown' m_row' m_moves') (hK54 : ∀ (x2 : Int32) (x3 : Int32) (x4 : Int32) (m_rowMany : Int32) (m_thrown : Int32) (m_row : Nat → Int32) (m_moves : Nat → Int32), (0 ≤ Int32.toInt x2 ∧ Int32.toInt x2 ≤ 255) → (-1 ≤ Int32.toInt x3 ∧ Int32.toInt x3 ≤ 7) → (0 ≤ Int32.toInt x4 ∧ Int32.toInt x4 ≤ 1000000) → (0 ≤ Int32.toInt m_rowMany ∧ Int32.toInt m_rowMany ≤ 16) → (0 ≤ Int32.toInt m_thrown ∧ Int32.toInt m_thrown ≤ 0) → (∀ k : Nat, 0 ≤ Int32.toInt (m_moves k) ∧ Int32.toInt (m_moves k) ≤ 1000000) → (MVT m_moves m_foot m_told m_standings) → (VALz m_standings (plc x3) x2) → (LB x2 m_standings) → (Int32.toInt m_rowMany + ((pcn 16 x2 : Nat) : Int) ≤ 16) → (((pcn 16 x2 : Nat) : Int) < n54) → K54 x2 x3 x4 m_rowMany m_thrown m_row m_moves) : ∀ (n : Nat) (x2 : Int32) (x3 : Int32) (x4 : Int32) (x5 : Int32) (m_rowMany : Int32) (m_thrown : Int32) (m_row : Nat → Int32) (m_moves : Nat → Int32), (1 ≤ Int32.toInt x2 ∧ Int32.toInt x2 ≤ 255) → (-1 ≤ Int32.toInt x3 ∧ Int32.toInt x3 ≤ 7) → (0 ≤ Int32.toInt x4 ∧ Int32.toInt x4 ≤ 1000000) → (0 ≤ Int32.toInt x5 ∧ Int32.toInt x5 ≤ 7) → (0 ≤ Int32.toInt m_rowMany ∧ Int32.toInt m_rowMany ≤ 16) → (0 ≤ Int32.toInt m_thrown ∧ Int32.toInt m_thrown ≤ 0) → (∀ k : Nat, 0 ≤ Int32.toInt (m_moves k) ∧ Int32.toInt (m_moves k) ≤ 1000000) → (MVT m_moves m_foot m_told m_standings) → (VALz m_standings (plc x3) x2) → (LB x2 m_standings) → (Int32.toInt m_rowMany + ((pcn 16 x2 : Nat) : Int) ≤ 16) → (RtX m_moves m_foot m_told m_standings x3 x2 x5) → (((pcn 16 x2 : Nat) : Int) ≤ n54) → (7 - Int32.toInt x5 < (n : Int)) → wb_X10_route_61 post K54 m_standings m_now m_foot m_told n x2 x3 x4 x5 m_rowMany m_thrown m_row m_moves := by
  intro n
  induction n with
  | zero =>
    intro x2 x3 x4 x5 m_rowMany m_thrown m_row m_moves h_x2 h_x3 h_x4 h_x5 h_m_rowMany h_m_thrown h_m_moves hx0 hx1 hx2 hx3 hx4 hn54 hm
    exfalso; omega
  | succ n ih =>
    intro x2 x3 x4 x5 m_rowMany m_thrown m_row m_moves h_x2 h_x3 h_x4 h_x5 h_m_rowMany h_m_thrown h_m_moves hx0 hx1 hx2 hx3 hx4 hn54 hm
    exact ts_X10_route_61 m_standings m_now m_foot m_told h_m_standings e0_m_now e1_m_now h_m_foot e0_m_told e1_m_told hc0 hc1 hpost hK54 ih x2 x3 x4 x5 m_rowMany m_thrown m_row m_moves h_x2 h_x3 h_x4 h_x5 h_m_rowMany h_m_thrown h_m_moves hx0 hx1 hx2 hx3 hx4 hn54 (by omega)
set_option maxHeartbeats 8000000 in
set_option maxRecDepth 200000 in
theorem ts_X10_route_54 {post : Int32 → Int32 → Int32 → (Nat → Int32) → (Nat → Int32) → Prop} {SB : Int} {next : Int32 → Int32 → Int32 → Int32 → Int32 → (Nat → Int32) → (Nat → Int32) → Prop} {n54 : Int} (m_standings : Int32) (m_now : Nat → Int32) (m_foot : Nat → Int32) (m_told : Nat → Int32) (h_m_standings : 0 ≤ Int32.toInt m_standings ∧ Int32.toInt m_standings ≤ 8) (e0_m_now : ∀ k : Nat, k = 17 → -1 ≤ Int32.toInt (m_now k) ∧ Int32.toInt (m_now k) ≤ SB) (e1_m_now : ∀ k : Nat, k = 19 → 0 ≤ Int32.toInt (m_now k) ∧ Int32.toInt (m_now k) ≤ 9) (h_m_foot : ∀ k : Nat, 0 ≤ Int32.toInt (m_foot k) ∧ Int32.toInt (m_foot k) ≤ 99) (e0_m_told : ∀ k : Nat, k = 4 → 1 ≤ Int32.toInt (m_told k) ∧ Int32.toInt (m_told k) ≤ 30) (e1_m_told : ∀ k : Nat, k = 3 → 0 ≤ Int32.toInt (m_told k) ∧ Int32.toInt (m_told k) ≤ 9) (hc0 : -1 ≤ SB ∧ SB ≤ 7) (hc1 : (Int32.toInt m_standings ≤ 0 ∧ SB = 0) ∨ (1 ≤ Int32.toInt m_standings ∧ SB = Int32.toInt m_standings - 1)) (hpost : ∀ (r : Int32) (m_rowMany' : Int32) (m_thrown' : Int32) (m_row' : Nat → Int32) (m_moves' : Nat → Int32), (-1 ≤ Int32.toInt r ∧ Int32.toInt r ≤ 1000000) → (0 ≤ Int32.toInt m_rowMany' ∧ Int32.toInt m_rowMany' ≤ 16) → (0 ≤ Int32.toInt m_thrown' ∧ Int32.toInt m_thrown' ≤ 0) → (∀ k : Nat, 0 ≤ Int32.toInt (m_moves' k) ∧ Int32.toInt (m_moves' k) ≤ 1000000) → post r m_rowMany' m_thrown' m_row' m_moves') (hKn : ∀ (x2 : Int32) (x3 : Int32) (x4 : Int32) (m_rowMany : Int32) (m_thrown : Int32) (m_row : Nat → Int32) (m_moves : Nat → Int32), (0 ≤ Int32.toInt x2 ∧ Int32.toInt x2 ≤ 255) → (-1 ≤ Int32.toInt x3 ∧ Int32.toInt x3 ≤ 7) → (0 ≤ Int32.toInt x4 ∧ Int32.toInt x4 ≤ 1000000) → (0 ≤ Int32.toInt m_rowMany ∧ Int32.toInt m_rowMany ≤ 16) → (0 ≤ Int32.toInt m_thrown ∧ Int32.toInt m_thrown ≤ 0) → (∀ k : Nat, 0 ≤ Int32.toInt (m_moves k) ∧ Int32.toInt (m_moves k) ≤ 1000000) → (MVT m_moves m_foot m_told m_standings) → (VALz m_standings (plc x3) x2) → (LB x2 m_standings) → (Int32.toInt m_rowMany + ((pcn 16 x2 : Nat) : Int) ≤ 16) → (((pcn 16 x2 : Nat) : Int) < n54) → next x2 x3 x4 m_rowMany m_thrown m_row m_moves) (x2 : Int32) (x3 : Int32) (x4 : Int32) (m_rowMany : Int32) (m_thrown : Int32) (m_row : Nat → Int32) (m_moves : Nat → Int32) (h_x2 : 0 ≤ Int32.toInt x2 ∧ Int32.toInt x2 ≤ 255) (h_x3 : -1 ≤ Int32.toInt x3 ∧ Int32.toInt x3 ≤ 7) (h_x4 : 0 ≤ Int32.toInt x4 ∧ Int32.toInt x4 ≤ 1000000) (h_m_rowMany : 0 ≤ Int32.toInt m_rowMany ∧ Int32.toInt m_rowMany ≤ 16) (h_m_thrown : 0 ≤ Int32.toInt m_thrown ∧ Int32.toInt m_thrown ≤ 0) (h_m_moves : ∀ k : Nat, 0 ≤ Int32.toInt (m_moves k) ∧ Int32.toInt (m_moves k) ≤ 1000000) (hx0 : MVT m_moves m_foot m_told m_standings) (hx1 : VALz m_standings (plc x3) x2) (hx2 : LB x2 m_standings) (hx3 : Int32.toInt m_rowMany + ((pcn 16 x2 : Nat) : Int) ≤ 16) (hn54 : ((pcn 16 x2 : Nat) : Int) ≤ n54) : ws_X10_route_54 post next m_standings m_now m_foot m_told x2 x3 x4 m_rowMany m_thrown m_row m_moves := by
  have l0 : Int32.toInt (0 : Int32) = 0 := (by decide)
  refine And.intro (fun c58 => ?_) (fun c58 => ?_)
  · skip
    have c58 := (fa_eq _ _).mp c58
    exact hpost _ _ _ _ _ (by omega) (by omega) (by omega) (fun k => by have q9 := h_m_moves k; omega)
  · skip
    have c58 := mt (fa_eq _ _).mpr c58
    have j59 := pcn_le 16 (x2)
    exact ⟨9, tb_X10_route_61 m_standings m_now m_foot m_told h_m_standings e0_m_now e1_m_now h_m_foot e0_m_told e1_m_told hc0 hc1 hpost hKn _ x2 x3 x4 0 m_rowMany m_thrown m_row m_moves (by omega) (by omega) (by omega) (by omega) (by omega) (by omega) (fun k => by have q9 := h_m_moves k; omega) (by assumption) (by first | assumption | exact VALz_p (by omega) | exact VALz_i (by assumption) (by assumption) (by omega) (by omega) (by assumption) (by omega) (by omega) (by omega) | exact VALz_c (by assumption) (by assumption) (by assumption) (by assumption) (by assumption) (by assumption) (by omega)) (by first | assumption | exact LB_of (by assumption) (by omega) (by omega) (by omega) | exact LB_e (by assumption) (by assumption) | exact LB_c (LB_of (by assumption) (by omega) (by omega) (by omega))) (by omega) (by first | assumption | exact RtX_0 (by assumption) (by assumption) (by assumption) (by omega) (by assumption) (by omega) | exact RtX_s (by assumption) (by omega)) (by omega) (by omega)⟩
set_option maxHeartbeats 8000000 in
set_option maxRecDepth 200000 in
theorem tb_X10_route_54 {post : Int32 → Int32 → Int32 → (Nat → Int32) → (Nat → Int32) → Prop} {SB : Int} (m_standings : Int32) (m_now : Nat → Int32) (m_foot : Nat → Int32) (m_told : Nat → Int32) (h_m_standings : 0 ≤ Int32.toInt m_standings ∧ Int32.toInt m_standings ≤ 8) (e0_m_now : ∀ k : Nat, k = 17 → -1 ≤ Int32.toInt (m_now k) ∧ Int32.toInt (m_now k) ≤ SB) (e1_m_now : ∀ k : Nat, k = 19 → 0 ≤ Int32.toInt (m_now k) ∧ Int32.toInt (m_now k) ≤ 9) (h_m_foot : ∀ k : Nat, 0 ≤ Int32.toInt (m_foot k) ∧ Int32.toInt (m_foot k) ≤ 99) (e0_m_told : ∀ k : Nat, k = 4 → 1 ≤ Int32.toInt (m_told k) ∧ Int32.toInt (m_told k) ≤ 30) (e1_m_told : ∀ k : Nat, k = 3 → 0 ≤ Int32.toInt (m_told k) ∧ Int32.toInt (m_told k) ≤ 9) (hc0 : -1 ≤ SB ∧ SB ≤ 7) (hc1 : (Int32.toInt m_standings ≤ 0 ∧ SB = 0) ∨ (1 ≤ Int32.toInt m_standings ∧ SB = Int32.toInt m_standings - 1)) (hpost : ∀ (r : Int32) (m_rowMany' : Int32) (m_thrown' : Int32) (m_row' : Nat → Int32) (m_moves' : Nat → Int32), (-1 ≤ Int32.toInt r ∧ Int32.toInt r ≤ 1000000) → (0 ≤ Int32.toInt m_rowMany' ∧ Int32.toInt m_rowMany' ≤ 16) → (0 ≤ Int32.toInt m_thrown' ∧ Int32.toInt m_thrown' ≤ 0) → (∀ k : Nat, 0 ≤ Int32.toInt (m_moves' k) ∧ Int32.toInt (m_moves' k) ≤ 1000000) → post r m_rowMany' m_thrown' m_row' m_moves') : ∀ (n : Nat) (x2 : Int32) (x3 : Int32) (x4 : Int32) (m_rowMany : Int32) (m_thrown : Int32) (m_row : Nat → Int32) (m_moves : Nat → Int32), (0 ≤ Int32.toInt x2 ∧ Int32.toInt x2 ≤ 255) → (-1 ≤ Int32.toInt x3 ∧ Int32.toInt x3 ≤ 7) → (0 ≤ Int32.toInt x4 ∧ Int32.toInt x4 ≤ 1000000) → (0 ≤ Int32.toInt m_rowMany ∧ Int32.toInt m_rowMany ≤ 16) → (0 ≤ Int32.toInt m_thrown ∧ Int32.toInt m_thrown ≤ 0) → (∀ k : Nat, 0 ≤ Int32.toInt (m_moves k) ∧ Int32.toInt (m_moves k) ≤ 1000000) → (MVT m_moves m_foot m_told m_standings) → (VALz m_standings (plc x3) x2) → (LB x2 m_standings) → (Int32.toInt m_rowMany + ((pcn 16 x2 : Nat) : Int) ≤ 16) → (((pcn 16 x2 : Nat) : Int) < (n : Int)) → wb_X10_route_54 post m_standings m_now m_foot m_told n x2 x3 x4 m_rowMany m_thrown m_row m_moves := by
  intro n
  induction n with
  | zero =>
    intro x2 x3 x4 m_rowMany m_thrown m_row m_moves h_x2 h_x3 h_x4 h_m_rowMany h_m_thrown h_m_moves hx0 hx1 hx2 hx3 hm
    exfalso; omega
  | succ n ih =>
    intro x2 x3 x4 m_rowMany m_thrown m_row m_moves h_x2 h_x3 h_x4 h_m_rowMany h_m_thrown h_m_moves hx0 hx1 hx2 hx3 hm
    exact ts_X10_route_54 m_standings m_now m_foot m_told h_m_standings e0_m_now e1_m_now h_m_foot e0_m_told e1_m_told hc0 hc1 hpost ih x2 x3 x4 m_rowMany m_thrown m_row m_moves h_x2 h_x3 h_x4 h_m_rowMany h_m_thrown h_m_moves hx0 hx1 hx2 hx3 (by omega)
set_option maxHeartbeats 8000000 in
set_option maxRecDepth 200000 in
theorem t_X10_route {post : Int32 → Int32 → Int32 → (Nat → Int32) → (Nat → Int32) → Prop} {SB : Int} {p0 : Int32} {m_standings : Int32} {m_rowMany : Int32} {m_thrown : Int32} {m_now : Nat → Int32} {m_foot : Nat → Int32} {m_told : Nat → Int32} {m_row : Nat → Int32} {m_moves : Nat → Int32} (h_m_standings : 0 ≤ Int32.toInt m_standings ∧ Int32.toInt m_standings ≤ 8) (h_m_rowMany : 0 ≤ Int32.toInt m_rowMany ∧ Int32.toInt m_rowMany ≤ 16) (h_m_thrown : 0 ≤ Int32.toInt m_thrown ∧ Int32.toInt m_thrown ≤ 1) (e0_m_now : ∀ k : Nat, k = 17 → -1 ≤ Int32.toInt (m_now k) ∧ Int32.toInt (m_now k) ≤ SB) (e1_m_now : ∀ k : Nat, k = 19 → 0 ≤ Int32.toInt (m_now k) ∧ Int32.toInt (m_now k) ≤ 9) (h_m_foot : ∀ k : Nat, 0 ≤ Int32.toInt (m_foot k) ∧ Int32.toInt (m_foot k) ≤ 99) (e0_m_told : ∀ k : Nat, k = 4 → 1 ≤ Int32.toInt (m_told k) ∧ Int32.toInt (m_told k) ≤ 30) (e1_m_told : ∀ k : Nat, k = 3 → 0 ≤ Int32.toInt (m_told k) ∧ Int32.toInt (m_told k) ≤ 9) (h_m_moves : ∀ k : Nat, 0 ≤ Int32.toInt (m_moves k) ∧ Int32.toInt (m_moves k) ≤ 1000000) (hc0 : -1 ≤ SB ∧ SB ≤ 7) (hc1 : (Int32.toInt m_standings ≤ 0 ∧ SB = 0) ∨ (1 ≤ Int32.toInt m_standings ∧ SB = Int32.toInt m_standings - 1)) (hpost : ∀ (r : Int32) (m_rowMany' : Int32) (m_thrown' : Int32) (m_row' : Nat → Int32) (m_moves' : Nat → Int32), (-1 ≤ Int32.toInt r ∧ Int32.toInt r ≤ 1000000) → (0 ≤ Int32.toInt m_rowMany' ∧ Int32.toInt m_rowMany' ≤ 16) → (0 ≤ Int32.toInt m_thrown' ∧ Int32.toInt m_thrown' ≤ 0) → (∀ k : Nat, 0 ≤ Int32.toInt (m_moves' k) ∧ Int32.toInt (m_moves' k) ≤ 1000000) → post r m_rowMany' m_thrown' m_row' m_moves') : wp_X10_route post p0 m_standings m_rowMany m_thrown m_now m_foot m_told m_row m_moves := by
  have l0 : Int32.toInt ((-1) : Int32) = -1 := (by decide)
  have l1 : Int32.toInt (0 : Int32) = 0 := (by decide)
  have l2 : Int32.toInt (1 : Int32) = 1 := (by decide)
  have l3 : Int32.toInt (17 : Int32) = 17 := (by decide)
  have l4 : Int32.toInt (8 : Int32) = 8 := (by decide)
  intro v60 ev60
  have f61 := ti_shl1 8 256 m_standings (by decide) (by omega)
  have hv60 := congrArg Int32.toInt ev60
  have f63 := tp_r p0
  refine And.intro (fun c62 => ?_) (fun c62 => ?_)
  · skip
    have c62 := (fa_lt _ _).mp c62
    refine And.intro (fun h9 => absurd h9 (by decide)) (fun _ => ?_)
    exact hpost _ _ _ _ _ (by omega) (by omega) (by omega) (fun k => by have q9 := h_m_moves k; omega)
  · skip
    have c62 := mt (fa_lt _ _).mpr c62
    have f65 : Int32.toInt (v60 - 1) = Int32.toInt v60 - Int32.toInt (1 : Int32) := ta_sub _ _ (by omega)
    refine And.intro (fun c64 => ?_) (fun c64 => ?_)
    · skip
      have c64 := (fa_lt _ _).mp c64
      refine And.intro (fun h9 => absurd h9 (by decide)) (fun _ => ?_)
      exact hpost _ _ _ _ _ (by omega) (by omega) (by omega) (fun k => by have q9 := h_m_moves k; omega)
    · skip
      have c64 := mt (fa_lt _ _).mpr c64
      refine And.intro (fun _ => ?_) (fun h9 => absurd h9 (by decide))
      refine t_X10_layMoves (by omega) (fun k => by have q9 := h_m_foot k; omega) e0_m_told e1_m_told (fun k => by have q9 := h_m_moves k; omega) (fun m_moves_66 h_m_moves_66 ox67 => ?_)
      have q68 := e0_m_now (17 : Int32).toNatClampNeg (by have e9 : (17 : Int32).toNatClampNeg = (Int32.toInt (17 : Int32)).toNat := rfl; omega)
      intro v69 ev69
      have hv69 := congrArg Int32.toInt ev69
      refine And.intro (fun c71 => ?_) (fun c71 => ?_)
      · skip
        have c71 := mt (fa_eq _ _).mpr c71
        have q72 := e0_m_now (17 : Int32).toNatClampNeg (by have e9 : (17 : Int32).toNatClampNeg = (Int32.toInt (17 : Int32)).toNat := rfl; omega)
        intro v73 ev73
        have f74 := ti_shl1 7 128 (m_now (17 : Int32).toNatClampNeg) (by decide) (by omega)
        have hv73 := congrArg Int32.toInt ev73
        have q75 := e0_m_now (17 : Int32).toNatClampNeg (by have e9 : (17 : Int32).toNatClampNeg = (Int32.toInt (17 : Int32)).toNat := rfl; omega)
        intro v76 ev76
        have hv76 := congrArg Int32.toInt ev76
        refine And.intro (fun c77 => ?_) (fun c77 => ?_)
        · skip
          have c77 := mt (fa_eq _ _).mpr c77
          intro v78 ev78
          have f79 := ti_shl8 v76 (by omega)
          have hv78 := congrArg Int32.toInt ev78
          intro v80 ev80
          have f83 := ti_andl p0 (v73 ^^^ (-1)) (by omega)
          have f81 : Int32.toInt (v78 + (p0 &&& (v73 ^^^ (-1)))) = Int32.toInt v78 + Int32.toInt (p0 &&& (v73 ^^^ (-1))) := ta_add _ _ (by omega)
          rw [← ev80] at f81
          refine And.intro (t_in (by omega)) ?_
          have f84 := h_m_moves_66 v80.toNatClampNeg
          have j85 := pcn_le 16 (p0 &&& (v73 ^^^ (-1)))
          exact ⟨18, tb_X10_route_54 m_standings m_now m_foot m_told h_m_standings e0_m_now e1_m_now h_m_foot e0_m_told e1_m_told hc0 hc1 hpost _ (p0 &&& (v73 ^^^ (-1))) v76 (m_moves_66 v80.toNatClampNeg) 0 0 m_row m_moves_66 (by omega) (by omega) (by omega) (by omega) (by omega) (fun k => by have q9 := h_m_moves_66 k; omega) (by assumption) (by first | assumption | exact VALz_p (by omega) | exact VALz_i (by assumption) (by assumption) (by omega) (by omega) (by assumption) (by omega) (by omega) (by omega) | exact VALz_c (by assumption) (by assumption) (by assumption) (by assumption) (by assumption) (by assumption) (by omega)) (by first | assumption | exact LB_of (by assumption) (by omega) (by omega) (by omega) | exact LB_e (by assumption) (by assumption) | exact LB_c (LB_of (by assumption) (by omega) (by omega) (by omega))) (by omega) (by omega)⟩
        · skip
          have c77 := (fa_eq _ _).mp c77
          exfalso; omega
      · skip
        have c71 := (fa_eq _ _).mp c71
        have q86 := e0_m_now (17 : Int32).toNatClampNeg (by have e9 : (17 : Int32).toNatClampNeg = (Int32.toInt (17 : Int32)).toNat := rfl; omega)
        intro v87 ev87
        have hv87 := congrArg Int32.toInt ev87
        refine And.intro (fun c88 => ?_) (fun c88 => ?_)
        · skip
          have c88 := mt (fa_eq _ _).mpr c88
          exfalso; omega
        · skip
          have c88 := (fa_eq _ _).mp c88
          intro v89 ev89
          have f90 := ti_shl8 8 (by omega)
          have hv89 := congrArg Int32.toInt ev89
          intro v91 ev91
          have f92 : Int32.toInt (v89 + p0) = Int32.toInt v89 + Int32.toInt p0 := ta_add _ _ (by omega)
          rw [← ev91] at f92
          refine And.intro (t_in (by omega)) ?_
          have f93 := h_m_moves_66 v91.toNatClampNeg
          have j94 := pcn_le 16 (p0)
          exact ⟨18, tb_X10_route_54 m_standings m_now m_foot m_told h_m_standings e0_m_now e1_m_now h_m_foot e0_m_told e1_m_told hc0 hc1 hpost _ p0 v87 (m_moves_66 v91.toNatClampNeg) 0 0 m_row m_moves_66 (by omega) (by omega) (by omega) (by omega) (by omega) (fun k => by have q9 := h_m_moves_66 k; omega) (by assumption) (by first | assumption | exact VALz_p (by omega) | exact VALz_i (by assumption) (by assumption) (by omega) (by omega) (by assumption) (by omega) (by omega) (by omega) | exact VALz_c (by assumption) (by assumption) (by assumption) (by assumption) (by assumption) (by assumption) (by omega)) (by first | assumption | exact LB_of (by assumption) (by omega) (by omega) (by omega) | exact LB_e (by assumption) (by assumption) | exact LB_c (LB_of (by assumption) (by omega) (by omega) (by omega))) (by omega) (by omega)⟩
set_option maxHeartbeats 8000000 in
set_option maxRecDepth 200000 in
theorem ts_X10_laySeconds_12 {post : Nat → Int32 → Int32 → Int32 → Int32 → Int32 → Int32 → Int32 → Int32 → Int32 → (Nat → Int32) → Prop} {K2 : Int32 → Nat → Int32 → Int32 → Int32 → Int32 → Int32 → Int32 → Int32 → Int32 → Int32 → (Nat → Int32) → Prop} {next : Int32 → Int32 → Nat → Int32 → Int32 → Int32 → Int32 → Int32 → Int32 → Int32 → Int32 → Int32 → (Nat → Int32) → Prop} {n12 : Int} {n2 : Int} (m_fruits : Int32) (m_standings : Int32) (m_ruleSize : Int32) (m_x : Nat → Int32) (m_height : Nat → Int32) (m_worth : Nat → Int32) (m_foot : Nat → Int32) (m_fork : Nat → Int32) (m_text : Nat → Int32) (m_rule : Nat → Int32) (h_m_fruits : 0 ≤ Int32.toInt m_fruits ∧ Int32.toInt m_fruits ≤ 16) (h_m_standings : 0 ≤ Int32.toInt m_standings ∧ Int32.toInt m_standings ≤ 8) (h_m_ruleSize : 0 ≤ Int32.toInt m_ruleSize ∧ Int32.toInt m_ruleSize ≤ 40) (h_m_x : ∀ k : Nat, 0 ≤ Int32.toInt (m_x k) ∧ Int32.toInt (m_x k) ≤ 99) (h_m_height : ∀ k : Nat, 0 ≤ Int32.toInt (m_height k) ∧ Int32.toInt (m_height k) ≤ 99) (h_m_worth : ∀ k : Nat, 0 ≤ Int32.toInt (m_worth k) ∧ Int32.toInt (m_worth k) ≤ 9) (h_m_foot : ∀ k : Nat, 0 ≤ Int32.toInt (m_foot k) ∧ Int32.toInt (m_foot k) ≤ 99) (h_m_fork : ∀ k : Nat, 0 ≤ Int32.toInt (m_fork k) ∧ Int32.toInt (m_fork k) ≤ 99) (h_m_text : ∀ k : Nat, -128 ≤ Int32.toInt (m_text k) ∧ Int32.toInt (m_text k) ≤ 127) (h_m_rule : ∀ k : Nat, -128 ≤ Int32.toInt (m_rule k) ∧ Int32.toInt (m_rule k) ≤ 127) (hpost : ∀ (m_read' : Nat) (m_length' : Int32) (m_top' : Int32) (m_at' : Int32) (m_wrong' : Int32) (m_isAsked' : Int32) (m_askedFruit' : Int32) (m_askedStanding' : Int32) (m_askedHook' : Int32) (m_askedApron' : Int32) (m_handSeconds' : Nat → Int32), (m_read' = 0 ∨ m_read' = 1 ∨ m_read' = 2) → (0 ≤ Int32.toInt m_length' ∧ Int32.toInt m_length' ≤ 80) → (0 ≤ Int32.toInt m_top' ∧ Int32.toInt m_top' ≤ 80) → (0 ≤ Int32.toInt m_at' ∧ Int32.toInt m_at' ≤ 80) → (-1 ≤ Int32.toInt m_wrong' ∧ Int32.toInt m_wrong' ≤ 80) → (0 ≤ Int32.toInt m_isAsked' ∧ Int32.toInt m_isAsked' ≤ 0) → (0 ≤ Int32.toInt m_askedFruit' ∧ Int32.toInt m_askedFruit' ≤ 15) → (0 ≤ Int32.toInt m_askedStanding' ∧ Int32.toInt m_askedStanding' ≤ 7) → (0 ≤ Int32.toInt m_askedHook' ∧ Int32.toInt m_askedHook' ≤ 1) → (0 ≤ Int32.toInt m_askedApron' ∧ Int32.toInt m_askedApron' ≤ 63) → (∀ k : Nat, 0 ≤ Int32.toInt (m_handSeconds' k) ∧ Int32.toInt (m_handSeconds' k) ≤ 99) → post m_read' m_length' m_top' m_at' m_wrong' m_isAsked' m_askedFruit' m_askedStanding' m_askedHook' m_askedApron' m_handSeconds') (hK2 : ∀ (x1 : Int32) (m_read : Nat) (m_length : Int32) (m_top : Int32) (m_at : Int32) (m_wrong : Int32) (m_isAsked : Int32) (m_askedFruit : Int32) (m_askedStanding : Int32) (m_askedHook : Int32) (m_askedApron : Int32) (m_handSeconds : Nat → Int32), (0 ≤ Int32.toInt x1 ∧ Int32.toInt x1 ≤ 8) → (m_read = 0 ∨ m_read = 1 ∨ m_read = 2) → (0 ≤ Int32.toInt m_length ∧ Int32.toInt m_length ≤ 80) → (0 ≤ Int32.toInt m_top ∧ Int32.toInt m_top ≤ 80) → (0 ≤ Int32.toInt m_at ∧ Int32.toInt m_at ≤ 80) → (-1 ≤ Int32.toInt m_wrong ∧ Int32.toInt m_wrong ≤ 80) → (0 ≤ Int32.toInt m_isAsked ∧ Int32.toInt m_isAsked ≤ 0) → (0 ≤ Int32.toInt m_askedFruit ∧ Int32.toInt m_askedFruit ≤ 15) → (0 ≤ Int32.toInt m_askedStanding ∧ Int32.toInt m_askedStanding ≤ 7) → (0 ≤ Int32.toInt m_askedHook ∧ Int32.toInt m_askedHook ≤ 1) → (0 ≤ Int32.toInt m_askedApron ∧ Int32.toInt m_askedApron ≤ 63) → (∀ k : Nat, 0 ≤ Int32.toInt (m_handSeconds k) ∧ Int32.toInt (m_handSeconds k) ≤ 99) → (8 - Int32.toInt x1 < n2) → K2 x1 m_read m_length m_top m_at m_wrong m_isAsked m_askedFruit m_askedStanding m_askedHook m_askedApron m_handSeconds) (hKn : ∀ (x1 : Int32) (x2 : Int32) (m_read : Nat) (m_length : Int32) (m_top : Int32) (m_at : Int32) (m_wrong : Int32) (m_isAsked : Int32) (m_askedFruit : Int32) (m_askedStanding : Int32) (m_askedHook : Int32) (m_askedApron : Int32) (m_handSeconds : Nat → Int32), (0 ≤ Int32.toInt x1 ∧ Int32.toInt x1 ≤ 7) → (0 ≤ Int32.toInt x2 ∧ Int32.toInt x2 ≤ 16) → (m_read = 0 ∨ m_read = 1 ∨ m_read = 2) → (0 ≤ Int32.toInt m_length ∧ Int32.toInt m_length ≤ 80) → (0 ≤ Int32.toInt m_top ∧ Int32.toInt m_top ≤ 80) → (0 ≤ Int32.toInt m_at ∧ Int32.toInt m_at ≤ 80) → (-1 ≤ Int32.toInt m_wrong ∧ Int32.toInt m_wrong ≤ 80) → (0 ≤ Int32.toInt m_isAsked ∧ Int32.toInt m_isAsked ≤ 0) → (0 ≤ Int32.toInt m_askedFruit ∧ Int32.toInt m_askedFruit ≤ 15) → (0 ≤ Int32.toInt m_askedStanding ∧ Int32.toInt m_askedStanding ≤ 7) → (0 ≤ Int32.toInt m_askedHook ∧ Int32.toInt m_askedHook ≤ 1) → (0 ≤ Int32.toInt m_askedApron ∧ Int32.toInt m_askedApron ≤ 63) → (∀ k : Nat, 0 ≤ Int32.toInt (m_handSeconds k) ∧ Int32.toInt (m_handSeconds k) ≤ 99) → (8 - Int32.toInt x1 ≤ n2) → (16 - Int32.toInt x2 < n12) → next x1 x2 m_read m_length m_top m_at m_wrong m_isAsked m_askedFruit m_askedStanding m_askedHook m_askedApron m_handSeconds) (x1 : Int32) (x2 : Int32) (m_read : Nat) (m_length : Int32) (m_top : Int32) (m_at : Int32) (m_wrong : Int32) (m_isAsked : Int32) (m_askedFruit : Int32) (m_askedStanding : Int32) (m_askedHook : Int32) (m_askedApron : Int32) (m_handSeconds : Nat → Int32) (h_x1 : 0 ≤ Int32.toInt x1 ∧ Int32.toInt x1 ≤ 7) (h_x2 : 0 ≤ Int32.toInt x2 ∧ Int32.toInt x2 ≤ 16) (h_m_read : m_read = 0 ∨ m_read = 1 ∨ m_read = 2) (h_m_length : 0 ≤ Int32.toInt m_length ∧ Int32.toInt m_length ≤ 80) (h_m_top : 0 ≤ Int32.toInt m_top ∧ Int32.toInt m_top ≤ 80) (h_m_at : 0 ≤ Int32.toInt m_at ∧ Int32.toInt m_at ≤ 80) (h_m_wrong : -1 ≤ Int32.toInt m_wrong ∧ Int32.toInt m_wrong ≤ 80) (h_m_isAsked : 0 ≤ Int32.toInt m_isAsked ∧ Int32.toInt m_isAsked ≤ 0) (h_m_askedFruit : 0 ≤ Int32.toInt m_askedFruit ∧ Int32.toInt m_askedFruit ≤ 15) (h_m_askedStanding : 0 ≤ Int32.toInt m_askedStanding ∧ Int32.toInt m_askedStanding ≤ 7) (h_m_askedHook : 0 ≤ Int32.toInt m_askedHook ∧ Int32.toInt m_askedHook ≤ 1) (h_m_askedApron : 0 ≤ Int32.toInt m_askedApron ∧ Int32.toInt m_askedApron ≤ 63) (h_m_handSeconds : ∀ k : Nat, 0 ≤ Int32.toInt (m_handSeconds k) ∧ Int32.toInt (m_handSeconds k) ≤ 99) (hn2 : 8 - Int32.toInt x1 ≤ n2) (hn12 : 16 - Int32.toInt x2 ≤ n12) : ws_X10_laySeconds_12 post K2 next m_fruits m_standings m_ruleSize m_x m_height m_worth m_foot m_fork m_text m_rule x1 x2 m_read m_length m_top m_at m_wrong m_isAsked m_askedFruit m_askedStanding m_askedHook m_askedApron m_handSeconds := by
  have l0 : Int32.toInt (0 : Int32) = 0 := (by decide)
  have l1 : Int32.toInt (1 : Int32) = 1 := (by decide)
  have l2 : Int32.toInt (16 : Int32) = 16 := (by decide)
  refine And.intro (fun c1 => ?_) (fun c1 => ?_)
  · skip
    have c1 := (fa_le _ _).mp c1
    intro v2 ev2
    have f3 : Int32.toInt (x1 + 1) = Int32.toInt x1 + Int32.toInt (1 : Int32) := ta_add _ _ (by omega)
    rw [← ev2] at f3
    exact hK2 v2 m_read m_length m_top m_at m_wrong m_isAsked m_askedFruit m_askedStanding m_askedHook m_askedApron m_handSeconds (by omega) (by first | exact h_m_read | exact Or.inl rfl | exact Or.inr rfl | omega) (by omega) (by omega) (by omega) (by omega) (by omega) (by omega) (by omega) (by omega) (by omega) (fun k => by have q9 := h_m_handSeconds k; omega) (by omega)
  · skip
    have c1 := mt (fa_le _ _).mpr c1
    intro v4 ev4
    have f5 : Int32.toInt (16 * x1) = Int32.toInt x1 * 16 := ta_cmul _ _ (by decide) (by omega)
    rw [← ev4] at f5
    intro v6 ev6
    have f7 : Int32.toInt (v4 + x2) = Int32.toInt v4 + Int32.toInt x2 := ta_add _ _ (by omega)
    rw [← ev6] at f7
    refine t_X10_secondsOf (by omega) (by omega) (by omega) (by omega) (by first | exact h_m_read | exact Or.inl rfl | exact Or.inr rfl | omega) (by omega) (by omega) (by omega) (by omega) (by omega) (by omega) (by omega) (by omega) (by omega) (by omega) (fun k => by have q9 := h_m_x k; omega) (fun k => by have q9 := h_m_height k; omega) (fun k => by have q9 := h_m_worth k; omega) (fun k => by have q9 := h_m_foot k; omega) (fun k => by have q9 := h_m_fork k; omega) (fun k => by have q9 := h_m_text k; omega) (fun k => by have q9 := h_m_rule k; omega) (fun r18 m_read_8 m_length_9 m_top_10 m_at_11 m_wrong_12 m_isAsked_13 m_askedFruit_14 m_askedStanding_15 m_askedHook_16 m_askedApron_17 h_r18 h_m_read_8 h_m_length_9 h_m_top_10 h_m_at_11 h_m_wrong_12 h_m_isAsked_13 h_m_askedFruit_14 h_m_askedStanding_15 h_m_askedHook_16 h_m_askedApron_17 => ?_)
    refine And.intro (t_in (by omega)) ?_
    have a19 : ∀ k : Nat, 0 ≤ Int32.toInt ((upd m_handSeconds v6.toNatClampNeg r18) k) ∧ Int32.toInt ((upd m_handSeconds v6.toNatClampNeg r18) k) ≤ 99 := t_upd (fun k => by have q9 := h_m_handSeconds k; omega) (by omega)
    intro v20 ev20
    have f21 : Int32.toInt (x2 + 1) = Int32.toInt x2 + Int32.toInt (1 : Int32) := ta_add _ _ (by omega)
    rw [← ev20] at f21
    exact hKn x1 v20 m_read_8 m_length_9 m_top_10 m_at_11 m_wrong_12 m_isAsked_13 m_askedFruit_14 m_askedStanding_15 m_askedHook_16 m_askedApron_17 (upd m_handSeconds v6.toNatClampNeg r18) (by omega) (by omega) (by first | exact h_m_read | exact Or.inl rfl | exact Or.inr rfl | omega) (by omega) (by omega) (by omega) (by omega) (by omega) (by omega) (by omega) (by omega) (by omega) (fun k => by have q9 := a19 k; omega) (by omega) (by omega)
set_option maxHeartbeats 8000000 in
set_option maxRecDepth 200000 in
theorem tb_X10_laySeconds_12 {post : Nat → Int32 → Int32 → Int32 → Int32 → Int32 → Int32 → Int32 → Int32 → Int32 → (Nat → Int32) → Prop} {K2 : Int32 → Nat → Int32 → Int32 → Int32 → Int32 → Int32 → Int32 → Int32 → Int32 → Int32 → (Nat → Int32) → Prop} {n2 : Int} (m_fruits : Int32) (m_standings : Int32) (m_ruleSize : Int32) (m_x : Nat → Int32) (m_height : Nat → Int32) (m_worth : Nat → Int32) (m_foot : Nat → Int32) (m_fork : Nat → Int32) (m_text : Nat → Int32) (m_rule : Nat → Int32) (h_m_fruits : 0 ≤ Int32.toInt m_fruits ∧ Int32.toInt m_fruits ≤ 16) (h_m_standings : 0 ≤ Int32.toInt m_standings ∧ Int32.toInt m_standings ≤ 8) (h_m_ruleSize : 0 ≤ Int32.toInt m_ruleSize ∧ Int32.toInt m_ruleSize ≤ 40) (h_m_x : ∀ k : Nat, 0 ≤ Int32.toInt (m_x k) ∧ Int32.toInt (m_x k) ≤ 99) (h_m_height : ∀ k : Nat, 0 ≤ Int32.toInt (m_height k) ∧ Int32.toInt (m_height k) ≤ 99) (h_m_worth : ∀ k : Nat, 0 ≤ Int32.toInt (m_worth k) ∧ Int32.toInt (m_worth k) ≤ 9) (h_m_foot : ∀ k : Nat, 0 ≤ Int32.toInt (m_foot k) ∧ Int32.toInt (m_foot k) ≤ 99) (h_m_fork : ∀ k : Nat, 0 ≤ Int32.toInt (m_fork k) ∧ Int32.toInt (m_fork k) ≤ 99) (h_m_text : ∀ k : Nat, -128 ≤ Int32.toInt (m_text k) ∧ Int32.toInt (m_text k) ≤ 127) (h_m_rule : ∀ k : Nat, -128 ≤ Int32.toInt (m_rule k) ∧ Int32.toInt (m_rule k) ≤ 127) (hpost : ∀ (m_read' : Nat) (m_length' : Int32) (m_top' : Int32) (m_at' : Int32) (m_wrong' : Int32) (m_isAsked' : Int32) (m_askedFruit' : Int32) (m_askedStanding' : Int32) (m_askedHook' : Int32) (m_askedApron' : Int32) (m_handSeconds' : Nat → Int32), (m_read' = 0 ∨ m_read' = 1 ∨ m_read' = 2) → (0 ≤ Int32.toInt m_length' ∧ Int32.toInt m_length' ≤ 80) → (0 ≤ Int32.toInt m_top' ∧ Int32.toInt m_top' ≤ 80) → (0 ≤ Int32.toInt m_at' ∧ Int32.toInt m_at' ≤ 80) → (-1 ≤ Int32.toInt m_wrong' ∧ Int32.toInt m_wrong' ≤ 80) → (0 ≤ Int32.toInt m_isAsked' ∧ Int32.toInt m_isAsked' ≤ 0) → (0 ≤ Int32.toInt m_askedFruit' ∧ Int32.toInt m_askedFruit' ≤ 15) → (0 ≤ Int32.toInt m_askedStanding' ∧ Int32.toInt m_askedStanding' ≤ 7) → (0 ≤ Int32.toInt m_askedHook' ∧ Int32.toInt m_askedHook' ≤ 1) → (0 ≤ Int32.toInt m_askedApron' ∧ Int32.toInt m_askedApron' ≤ 63) → (∀ k : Nat, 0 ≤ Int32.toInt (m_handSeconds' k) ∧ Int32.toInt (m_handSeconds' k) ≤ 99) → post m_read' m_length' m_top' m_at' m_wrong' m_isAsked' m_askedFruit' m_askedStanding' m_askedHook' m_askedApron' m_handSeconds') (hK2 : ∀ (x1 : Int32) (m_read : Nat) (m_length : Int32) (m_top : Int32) (m_at : Int32) (m_wrong : Int32) (m_isAsked : Int32) (m_askedFruit : Int32) (m_askedStanding : Int32) (m_askedHook : Int32) (m_askedApron : Int32) (m_handSeconds : Nat → Int32), (0 ≤ Int32.toInt x1 ∧ Int32.toInt x1 ≤ 8) → (m_read = 0 ∨ m_read = 1 ∨ m_read = 2) → (0 ≤ Int32.toInt m_length ∧ Int32.toInt m_length ≤ 80) → (0 ≤ Int32.toInt m_top ∧ Int32.toInt m_top ≤ 80) → (0 ≤ Int32.toInt m_at ∧ Int32.toInt m_at ≤ 80) → (-1 ≤ Int32.toInt m_wrong ∧ Int32.toInt m_wrong ≤ 80) → (0 ≤ Int32.toInt m_isAsked ∧ Int32.toInt m_isAsked ≤ 0) → (0 ≤ Int32.toInt m_askedFruit ∧ Int32.toInt m_askedFruit ≤ 15) → (0 ≤ Int32.toInt m_askedStanding ∧ Int32.toInt m_askedStanding ≤ 7) → (0 ≤ Int32.toInt m_askedHook ∧ Int32.toInt m_askedHook ≤ 1) → (0 ≤ Int32.toInt m_askedApron ∧ Int32.toInt m_askedApron ≤ 63) → (∀ k : Nat, 0 ≤ Int32.toInt (m_handSeconds k) ∧ Int32.toInt (m_handSeconds k) ≤ 99) → (8 - Int32.toInt x1 < n2) → K2 x1 m_read m_length m_top m_at m_wrong m_isAsked m_askedFruit m_askedStanding m_askedHook m_askedApron m_handSeconds) : ∀ (n : Nat) (x1 : Int32) (x2 : Int32) (m_read : Nat) (m_length : Int32) (m_top : Int32) (m_at : Int32) (m_wrong : Int32) (m_isAsked : Int32) (m_askedFruit : Int32) (m_askedStanding : Int32) (m_askedHook : Int32) (m_askedApron : Int32) (m_handSeconds : Nat → Int32), (0 ≤ Int32.toInt x1 ∧ Int32.toInt x1 ≤ 7) → (0 ≤ Int32.toInt x2 ∧ Int32.toInt x2 ≤ 16) → (m_read = 0 ∨ m_read = 1 ∨ m_read = 2) → (0 ≤ Int32.toInt m_length ∧ Int32.toInt m_length ≤ 80) → (0 ≤ Int32.toInt m_top ∧ Int32.toInt m_top ≤ 80) → (0 ≤ Int32.toInt m_at ∧ Int32.toInt m_at ≤ 80) → (-1 ≤ Int32.toInt m_wrong ∧ Int32.toInt m_wrong ≤ 80) → (0 ≤ Int32.toInt m_isAsked ∧ Int32.toInt m_isAsked ≤ 0) → (0 ≤ Int32.toInt m_askedFruit ∧ Int32.toInt m_askedFruit ≤ 15) → (0 ≤ Int32.toInt m_askedStanding ∧ Int32.toInt m_askedStanding ≤ 7) → (0 ≤ Int32.toInt m_askedHook ∧ Int32.toInt m_askedHook ≤ 1) → (0 ≤ Int32.toInt m_askedApron ∧ Int32.toInt m_askedApron ≤ 63) → (∀ k : Nat, 0 ≤ Int32.toInt (m_handSeconds k) ∧ Int32.toInt (m_handSeconds k) ≤ 99) → (8 - Int32.toInt x1 ≤ n2) → (16 - Int32.toInt x2 < (n : Int)) → wb_X10_laySeconds_12 post K2 m_fruits m_standings m_ruleSize m_x m_height m_worth m_foot m_fork m_text m_rule n x1 x2 m_read m_length m_top m_at m_wrong m_isAsked m_askedFruit m_askedStanding m_askedHook m_askedApron m_handSeconds := by
  intro n
  induction n with
  | zero =>
    intro x1 x2 m_read m_length m_top m_at m_wrong m_isAsked m_askedFruit m_askedStanding m_askedHook m_askedApron m_handSeconds h_x1 h_x2 h_m_read h_m_length h_m_top h_m_at h_m_wrong h_m_isAsked h_m_askedFruit h_m_askedStanding h_m_askedHook h_m_askedApron h_m_handSeconds hn2 hm
    exfalso; omega
  | succ n ih =>
    intro x1 x2 m_read m_length m_top m_at m_wrong m_isAsked m_askedFruit m_askedStanding m_askedHook m_askedApron m_handSeconds h_x1 h_x2 h_m_read h_m_length h_m_top h_m_at h_m_wrong h_m_isAsked h_m_askedFruit h_m_askedStanding h_m_askedHook h_m_askedApron h_m_handSeconds hn2 hm
    exact ts_X10_laySeconds_12 m_fruits m_standings m_ruleSize m_x m_height m_worth m_foot m_fork m_text m_rule h_m_fruits h_m_standings h_m_ruleSize h_m_x h_m_height h_m_worth h_m_foot h_m_fork h_m_text h_m_rule hpost hK2 ih x1 x2 m_read m_length m_top m_at m_wrong m_isAsked m_askedFruit m_askedStanding m_askedHook m_askedApron m_handSeconds h_x1 h_x2 h_m_read h_m_length h_m_top h_m_at h_m_wrong h_m_isAsked h_m_askedFruit h_m_askedStanding h_m_askedHook h_m_askedApron h_m_handSeconds hn2 (by omega)
set_option maxHeartbeats 8000000 in
set_option maxRecDepth 200000 in
theorem ts_X10_laySeconds_2 {post : Nat → Int32 → Int32 → Int32 → Int32 → Int32 → Int32 → Int32 → Int32 → Int32 → (Nat → Int32) → Prop} {next : Int32 → Nat → Int32 → Int32 → Int32 → Int32 → Int32 → Int32 → Int32 → Int32 → Int32 → (Nat → Int32) → Prop} {n2 : Int} (m_fruits : Int32) (m_standings : Int32) (m_ruleSize : Int32) (m_x : Nat → Int32) (m_height : Nat → Int32) (m_worth : Nat → Int32) (m_foot : Nat → Int32) (m_fork : Nat → Int32) (m_text : Nat → Int32) (m_rule : Nat → Int32) (h_m_fruits : 0 ≤ Int32.toInt m_fruits ∧ Int32.toInt m_fruits ≤ 16) (h_m_standings : 0 ≤ Int32.toInt m_standings ∧ Int32.toInt m_standings ≤ 8) (h_m_ruleSize : 0 ≤ Int32.toInt m_ruleSize ∧ Int32.toInt m_ruleSize ≤ 40) (h_m_x : ∀ k : Nat, 0 ≤ Int32.toInt (m_x k) ∧ Int32.toInt (m_x k) ≤ 99) (h_m_height : ∀ k : Nat, 0 ≤ Int32.toInt (m_height k) ∧ Int32.toInt (m_height k) ≤ 99) (h_m_worth : ∀ k : Nat, 0 ≤ Int32.toInt (m_worth k) ∧ Int32.toInt (m_worth k) ≤ 9) (h_m_foot : ∀ k : Nat, 0 ≤ Int32.toInt (m_foot k) ∧ Int32.toInt (m_foot k) ≤ 99) (h_m_fork : ∀ k : Nat, 0 ≤ Int32.toInt (m_fork k) ∧ Int32.toInt (m_fork k) ≤ 99) (h_m_text : ∀ k : Nat, -128 ≤ Int32.toInt (m_text k) ∧ Int32.toInt (m_text k) ≤ 127) (h_m_rule : ∀ k : Nat, -128 ≤ Int32.toInt (m_rule k) ∧ Int32.toInt (m_rule k) ≤ 127) (hpost : ∀ (m_read' : Nat) (m_length' : Int32) (m_top' : Int32) (m_at' : Int32) (m_wrong' : Int32) (m_isAsked' : Int32) (m_askedFruit' : Int32) (m_askedStanding' : Int32) (m_askedHook' : Int32) (m_askedApron' : Int32) (m_handSeconds' : Nat → Int32), (m_read' = 0 ∨ m_read' = 1 ∨ m_read' = 2) → (0 ≤ Int32.toInt m_length' ∧ Int32.toInt m_length' ≤ 80) → (0 ≤ Int32.toInt m_top' ∧ Int32.toInt m_top' ≤ 80) → (0 ≤ Int32.toInt m_at' ∧ Int32.toInt m_at' ≤ 80) → (-1 ≤ Int32.toInt m_wrong' ∧ Int32.toInt m_wrong' ≤ 80) → (0 ≤ Int32.toInt m_isAsked' ∧ Int32.toInt m_isAsked' ≤ 0) → (0 ≤ Int32.toInt m_askedFruit' ∧ Int32.toInt m_askedFruit' ≤ 15) → (0 ≤ Int32.toInt m_askedStanding' ∧ Int32.toInt m_askedStanding' ≤ 7) → (0 ≤ Int32.toInt m_askedHook' ∧ Int32.toInt m_askedHook' ≤ 1) → (0 ≤ Int32.toInt m_askedApron' ∧ Int32.toInt m_askedApron' ≤ 63) → (∀ k : Nat, 0 ≤ Int32.toInt (m_handSeconds' k) ∧ Int32.toInt (m_handSeconds' k) ≤ 99) → post m_read' m_length' m_top' m_at' m_wrong' m_isAsked' m_askedFruit' m_askedStanding' m_askedHook' m_askedApron' m_handSeconds') (hKn : ∀ (x1 : Int32) (m_read : Nat) (m_length : Int32) (m_top : Int32) (m_at : Int32) (m_wrong : Int32) (m_isAsked : Int32) (m_askedFruit : Int32) (m_askedStanding : Int32) (m_askedHook : Int32) (m_askedApron : Int32) (m_handSeconds : Nat → Int32), (0 ≤ Int32.toInt x1 ∧ Int32.toInt x1 ≤ 8) → (m_read = 0 ∨ m_read = 1 ∨ m_read = 2) → (0 ≤ Int32.toInt m_length ∧ Int32.toInt m_length ≤ 80) → (0 ≤ Int32.toInt m_top ∧ Int32.toInt m_top ≤ 80) → (0 ≤ Int32.toInt m_at ∧ Int32.toInt m_at ≤ 80) → (-1 ≤ Int32.toInt m_wrong ∧ Int32.toInt m_wrong ≤ 80) → (0 ≤ Int32.toInt m_isAsked ∧ Int32.toInt m_isAsked ≤ 0) → (0 ≤ Int32.toInt m_askedFruit ∧ Int32.toInt m_askedFruit ≤ 15) → (0 ≤ Int32.toInt m_askedStanding ∧ Int32.toInt m_askedStanding ≤ 7) → (0 ≤ Int32.toInt m_askedHook ∧ Int32.toInt m_askedHook ≤ 1) → (0 ≤ Int32.toInt m_askedApron ∧ Int32.toInt m_askedApron ≤ 63) → (∀ k : Nat, 0 ≤ Int32.toInt (m_handSeconds k) ∧ Int32.toInt (m_handSeconds k) ≤ 99) → (8 - Int32.toInt x1 < n2) → next x1 m_read m_length m_top m_at m_wrong m_isAsked m_askedFruit m_askedStanding m_askedHook m_askedApron m_handSeconds) (x1 : Int32) (m_read : Nat) (m_length : Int32) (m_top : Int32) (m_at : Int32) (m_wrong : Int32) (m_isAsked : Int32) (m_askedFruit : Int32) (m_askedStanding : Int32) (m_askedHook : Int32) (m_askedApron : Int32) (m_handSeconds : Nat → Int32) (h_x1 : 0 ≤ Int32.toInt x1 ∧ Int32.toInt x1 ≤ 8) (h_m_read : m_read = 0 ∨ m_read = 1 ∨ m_read = 2) (h_m_length : 0 ≤ Int32.toInt m_length ∧ Int32.toInt m_length ≤ 80) (h_m_top : 0 ≤ Int32.toInt m_top ∧ Int32.toInt m_top ≤ 80) (h_m_at : 0 ≤ Int32.toInt m_at ∧ Int32.toInt m_at ≤ 80) (h_m_wrong : -1 ≤ Int32.toInt m_wrong ∧ Int32.toInt m_wrong ≤ 80) (h_m_isAsked : 0 ≤ Int32.toInt m_isAsked ∧ Int32.toInt m_isAsked ≤ 0) (h_m_askedFruit : 0 ≤ Int32.toInt m_askedFruit ∧ Int32.toInt m_askedFruit ≤ 15) (h_m_askedStanding : 0 ≤ Int32.toInt m_askedStanding ∧ Int32.toInt m_askedStanding ≤ 7) (h_m_askedHook : 0 ≤ Int32.toInt m_askedHook ∧ Int32.toInt m_askedHook ≤ 1) (h_m_askedApron : 0 ≤ Int32.toInt m_askedApron ∧ Int32.toInt m_askedApron ≤ 63) (h_m_handSeconds : ∀ k : Nat, 0 ≤ Int32.toInt (m_handSeconds k) ∧ Int32.toInt (m_handSeconds k) ≤ 99) (hn2 : 8 - Int32.toInt x1 ≤ n2) : ws_X10_laySeconds_2 post next m_fruits m_standings m_ruleSize m_x m_height m_worth m_foot m_fork m_text m_rule x1 m_read m_length m_top m_at m_wrong m_isAsked m_askedFruit m_askedStanding m_askedHook m_askedApron m_handSeconds := by
  have l0 : Int32.toInt (0 : Int32) = 0 := (by decide)
  refine And.intro (fun c22 => ?_) (fun c22 => ?_)
  · skip
    have c22 := (fa_le _ _).mp c22
    exact hpost _ _ _ _ _ _ _ _ _ _ _ (by first | exact h_m_read | exact Or.inl rfl | exact Or.inr rfl | omega) (by omega) (by omega) (by omega) (by omega) (by omega) (by omega) (by omega) (by omega) (by omega) (fun k => by have q9 := h_m_handSeconds k; omega)
  · skip
    have c22 := mt (fa_le _ _).mpr c22
    exact ⟨18, tb_X10_laySeconds_12 m_fruits m_standings m_ruleSize m_x m_height m_worth m_foot m_fork m_text m_rule h_m_fruits h_m_standings h_m_ruleSize h_m_x h_m_height h_m_worth h_m_foot h_m_fork h_m_text h_m_rule hpost hKn _ x1 0 m_read m_length m_top m_at m_wrong m_isAsked m_askedFruit m_askedStanding m_askedHook m_askedApron m_handSeconds (by omega) (by omega) (by first | exact h_m_read | exact Or.inl rfl | exact Or.inr rfl | omega) (by omega) (by omega) (by omega) (by omega) (by omega) (by omega) (by omega) (by omega) (by omega) (fun k => by have q9 := h_m_handSeconds k; omega) (by omega) (by omega)⟩
set_option maxHeartbeats 8000000 in
set_option maxRecDepth 200000 in
theorem tb_X10_laySeconds_2 {post : Nat → Int32 → Int32 → Int32 → Int32 → Int32 → Int32 → Int32 → Int32 → Int32 → (Nat → Int32) → Prop} (m_fruits : Int32) (m_standings : Int32) (m_ruleSize : Int32) (m_x : Nat → Int32) (m_height : Nat → Int32) (m_worth : Nat → Int32) (m_foot : Nat → Int32) (m_fork : Nat → Int32) (m_text : Nat → Int32) (m_rule : Nat → Int32) (h_m_fruits : 0 ≤ Int32.toInt m_fruits ∧ Int32.toInt m_fruits ≤ 16) (h_m_standings : 0 ≤ Int32.toInt m_standings ∧ Int32.toInt m_standings ≤ 8) (h_m_ruleSize : 0 ≤ Int32.toInt m_ruleSize ∧ Int32.toInt m_ruleSize ≤ 40) (h_m_x : ∀ k : Nat, 0 ≤ Int32.toInt (m_x k) ∧ Int32.toInt (m_x k) ≤ 99) (h_m_height : ∀ k : Nat, 0 ≤ Int32.toInt (m_height k) ∧ Int32.toInt (m_height k) ≤ 99) (h_m_worth : ∀ k : Nat, 0 ≤ Int32.toInt (m_worth k) ∧ Int32.toInt (m_worth k) ≤ 9) (h_m_foot : ∀ k : Nat, 0 ≤ Int32.toInt (m_foot k) ∧ Int32.toInt (m_foot k) ≤ 99) (h_m_fork : ∀ k : Nat, 0 ≤ Int32.toInt (m_fork k) ∧ Int32.toInt (m_fork k) ≤ 99) (h_m_text : ∀ k : Nat, -128 ≤ Int32.toInt (m_text k) ∧ Int32.toInt (m_text k) ≤ 127) (h_m_rule : ∀ k : Nat, -128 ≤ Int32.toInt (m_rule k) ∧ Int32.toInt (m_rule k) ≤ 127) (hpost : ∀ (m_read' : Nat) (m_length' : Int32) (m_top' : Int32) (m_at' : Int32) (m_wrong' : Int32) (m_isAsked' : Int32) (m_askedFruit' : Int32) (m_askedStanding' : Int32) (m_askedHook' : Int32) (m_askedApron' : Int32) (m_handSeconds' : Nat → Int32), (m_read' = 0 ∨ m_read' = 1 ∨ m_read' = 2) → (0 ≤ Int32.toInt m_length' ∧ Int32.toInt m_length' ≤ 80) → (0 ≤ Int32.toInt m_top' ∧ Int32.toInt m_top' ≤ 80) → (0 ≤ Int32.toInt m_at' ∧ Int32.toInt m_at' ≤ 80) → (-1 ≤ Int32.toInt m_wrong' ∧ Int32.toInt m_wrong' ≤ 80) → (0 ≤ Int32.toInt m_isAsked' ∧ Int32.toInt m_isAsked' ≤ 0) → (0 ≤ Int32.toInt m_askedFruit' ∧ Int32.toInt m_askedFruit' ≤ 15) → (0 ≤ Int32.toInt m_askedStanding' ∧ Int32.toInt m_askedStanding' ≤ 7) → (0 ≤ Int32.toInt m_askedHook' ∧ Int32.toInt m_askedHook' ≤ 1) → (0 ≤ Int32.toInt m_askedApron' ∧ Int32.toInt m_askedApron' ≤ 63) → (∀ k : Nat, 0 ≤ Int32.toInt (m_handSeconds' k) ∧ Int32.toInt (m_handSeconds' k) ≤ 99) → post m_read' m_length' m_top' m_at' m_wrong' m_isAsked' m_askedFruit' m_askedStanding' m_askedHook' m_askedApron' m_handSeconds') : ∀ (n : Nat) (x1 : Int32) (m_read : Nat) (m_length : Int32) (m_top : Int32) (m_at : Int32) (m_wrong : Int32) (m_isAsked : Int32) (m_askedFruit : Int32) (m_askedStanding : Int32) (m_askedHook : Int32) (m_askedApron : Int32) (m_handSeconds : Nat → Int32), (0 ≤ Int32.toInt x1 ∧ Int32.toInt x1 ≤ 8) → (m_read = 0 ∨ m_read = 1 ∨ m_read = 2) → (0 ≤ Int32.toInt m_length ∧ Int32.toInt m_length ≤ 80) → (0 ≤ Int32.toInt m_top ∧ Int32.toInt m_top ≤ 80) → (0 ≤ Int32.toInt m_at ∧ Int32.toInt m_at ≤ 80) → (-1 ≤ Int32.toInt m_wrong ∧ Int32.toInt m_wrong ≤ 80) → (0 ≤ Int32.toInt m_isAsked ∧ Int32.toInt m_isAsked ≤ 0) → (0 ≤ Int32.toInt m_askedFruit ∧ Int32.toInt m_askedFruit ≤ 15) → (0 ≤ Int32.toInt m_askedStanding ∧ Int32.toInt m_askedStanding ≤ 7) → (0 ≤ Int32.toInt m_askedHook ∧ Int32.toInt m_askedHook ≤ 1) → (0 ≤ Int32.toInt m_askedApron ∧ Int32.toInt m_askedApron ≤ 63) → (∀ k : Nat, 0 ≤ Int32.toInt (m_handSeconds k) ∧ Int32.toInt (m_handSeconds k) ≤ 99) → (8 - Int32.toInt x1 < (n : Int)) → wb_X10_laySeconds_2 post m_fruits m_standings m_ruleSize m_x m_height m_worth m_foot m_fork m_text m_rule n x1 m_read m_length m_top m_at m_wrong m_isAsked m_askedFruit m_askedStanding m_askedHook m_askedApron m_handSeconds := by
  intro n
  induction n with
  | zero =>
    intro x1 m_read m_length m_top m_at m_wrong m_isAsked m_askedFruit m_askedStanding m_askedHook m_askedApron m_handSeconds h_x1 h_m_read h_m_length h_m_top h_m_at h_m_wrong h_m_isAsked h_m_askedFruit h_m_askedStanding h_m_askedHook h_m_askedApron h_m_handSeconds hm
    exfalso; omega
  | succ n ih =>
    intro x1 m_read m_length m_top m_at m_wrong m_isAsked m_askedFruit m_askedStanding m_askedHook m_askedApron m_handSeconds h_x1 h_m_read h_m_length h_m_top h_m_at h_m_wrong h_m_isAsked h_m_askedFruit h_m_askedStanding h_m_askedHook h_m_askedApron h_m_handSeconds hm
    exact ts_X10_laySeconds_2 m_fruits m_standings m_ruleSize m_x m_height m_worth m_foot m_fork m_text m_rule h_m_fruits h_m_standings h_m_ruleSize h_m_x h_m_height h_m_worth h_m_foot h_m_fork h_m_text h_m_rule hpost ih x1 m_read m_length m_top m_at m_wrong m_isAsked m_askedFruit m_askedStanding m_askedHook m_askedApron m_handSeconds h_x1 h_m_read h_m_length h_m_top h_m_at h_m_wrong h_m_isAsked h_m_askedFruit h_m_askedStanding h_m_askedHook h_m_askedApron h_m_handSeconds (by omega)
set_option maxHeartbeats 8000000 in
set_option maxRecDepth 200000 in
theorem t_X10_laySeconds {post : Nat → Int32 → Int32 → Int32 → Int32 → Int32 → Int32 → Int32 → Int32 → Int32 → (Nat → Int32) → Prop} {m_fruits : Int32} {m_standings : Int32} {m_read : Nat} {m_length : Int32} {m_top : Int32} {m_at : Int32} {m_wrong : Int32} {m_ruleSize : Int32} {m_isAsked : Int32} {m_askedFruit : Int32} {m_askedStanding : Int32} {m_askedHook : Int32} {m_askedApron : Int32} {m_x : Nat → Int32} {m_height : Nat → Int32} {m_worth : Nat → Int32} {m_foot : Nat → Int32} {m_fork : Nat → Int32} {m_text : Nat → Int32} {m_rule : Nat → Int32} {m_handSeconds : Nat → Int32} (h_m_fruits : 0 ≤ Int32.toInt m_fruits ∧ Int32.toInt m_fruits ≤ 16) (h_m_standings : 0 ≤ Int32.toInt m_standings ∧ Int32.toInt m_standings ≤ 8) (h_m_read : m_read = 0 ∨ m_read = 1 ∨ m_read = 2) (h_m_length : 0 ≤ Int32.toInt m_length ∧ Int32.toInt m_length ≤ 80) (h_m_top : 0 ≤ Int32.toInt m_top ∧ Int32.toInt m_top ≤ 80) (h_m_at : 0 ≤ Int32.toInt m_at ∧ Int32.toInt m_at ≤ 80) (h_m_wrong : -1 ≤ Int32.toInt m_wrong ∧ Int32.toInt m_wrong ≤ 80) (h_m_ruleSize : 0 ≤ Int32.toInt m_ruleSize ∧ Int32.toInt m_ruleSize ≤ 40) (h_m_isAsked : 0 ≤ Int32.toInt m_isAsked ∧ Int32.toInt m_isAsked ≤ 0) (h_m_askedFruit : 0 ≤ Int32.toInt m_askedFruit ∧ Int32.toInt m_askedFruit ≤ 15) (h_m_askedStanding : 0 ≤ Int32.toInt m_askedStanding ∧ Int32.toInt m_askedStanding ≤ 7) (h_m_askedHook : 0 ≤ Int32.toInt m_askedHook ∧ Int32.toInt m_askedHook ≤ 1) (h_m_askedApron : 0 ≤ Int32.toInt m_askedApron ∧ Int32.toInt m_askedApron ≤ 63) (h_m_x : ∀ k : Nat, 0 ≤ Int32.toInt (m_x k) ∧ Int32.toInt (m_x k) ≤ 99) (h_m_height : ∀ k : Nat, 0 ≤ Int32.toInt (m_height k) ∧ Int32.toInt (m_height k) ≤ 99) (h_m_worth : ∀ k : Nat, 0 ≤ Int32.toInt (m_worth k) ∧ Int32.toInt (m_worth k) ≤ 9) (h_m_foot : ∀ k : Nat, 0 ≤ Int32.toInt (m_foot k) ∧ Int32.toInt (m_foot k) ≤ 99) (h_m_fork : ∀ k : Nat, 0 ≤ Int32.toInt (m_fork k) ∧ Int32.toInt (m_fork k) ≤ 99) (h_m_text : ∀ k : Nat, -128 ≤ Int32.toInt (m_text k) ∧ Int32.toInt (m_text k) ≤ 127) (h_m_rule : ∀ k : Nat, -128 ≤ Int32.toInt (m_rule k) ∧ Int32.toInt (m_rule k) ≤ 127) (h_m_handSeconds : ∀ k : Nat, 0 ≤ Int32.toInt (m_handSeconds k) ∧ Int32.toInt (m_handSeconds k) ≤ 99) (hpost : ∀ (m_read' : Nat) (m_length' : Int32) (m_top' : Int32) (m_at' : Int32) (m_wrong' : Int32) (m_isAsked' : Int32) (m_askedFruit' : Int32) (m_askedStanding' : Int32) (m_askedHook' : Int32) (m_askedApron' : Int32) (m_handSeconds' : Nat → Int32), (m_read' = 0 ∨ m_read' = 1 ∨ m_read' = 2) → (0 ≤ Int32.toInt m_length' ∧ Int32.toInt m_length' ≤ 80) → (0 ≤ Int32.toInt m_top' ∧ Int32.toInt m_top' ≤ 80) → (0 ≤ Int32.toInt m_at' ∧ Int32.toInt m_at' ≤ 80) → (-1 ≤ Int32.toInt m_wrong' ∧ Int32.toInt m_wrong' ≤ 80) → (0 ≤ Int32.toInt m_isAsked' ∧ Int32.toInt m_isAsked' ≤ 0) → (0 ≤ Int32.toInt m_askedFruit' ∧ Int32.toInt m_askedFruit' ≤ 15) → (0 ≤ Int32.toInt m_askedStanding' ∧ Int32.toInt m_askedStanding' ≤ 7) → (0 ≤ Int32.toInt m_askedHook' ∧ Int32.toInt m_askedHook' ≤ 1) → (0 ≤ Int32.toInt m_askedApron' ∧ Int32.toInt m_askedApron' ≤ 63) → (∀ k : Nat, 0 ≤ Int32.toInt (m_handSeconds' k) ∧ Int32.toInt (m_handSeconds' k) ≤ 99) → post m_read' m_length' m_top' m_at' m_wrong' m_isAsked' m_askedFruit' m_askedStanding' m_askedHook' m_askedApron' m_handSeconds') : wp_X10_laySeconds post m_fruits m_standings m_read m_length m_top m_at m_wrong m_ruleSize m_isAsked m_askedFruit m_askedStanding m_askedHook m_askedApron m_x m_height m_worth m_foot m_fork m_text m_rule m_handSeconds := by
  have l0 : Int32.toInt (0 : Int32) = 0 := (by decide)
  exact ⟨10, tb_X10_laySeconds_2 m_fruits m_standings m_ruleSize m_x m_height m_worth m_foot m_fork m_text m_rule h_m_fruits h_m_standings h_m_ruleSize h_m_x h_m_height h_m_worth h_m_foot h_m_fork h_m_text h_m_rule hpost _ 0 m_read m_length m_top m_at m_wrong m_isAsked m_askedFruit m_askedStanding m_askedHook m_askedApron m_handSeconds (by omega) (by first | exact h_m_read | exact Or.inl rfl | exact Or.inr rfl | omega) (by omega) (by omega) (by omega) (by omega) (by omega) (by omega) (by omega) (by omega) (by omega) (fun k => by have q9 := h_m_handSeconds k; omega) (by omega)⟩
set_option maxHeartbeats 8000000 in
set_option maxRecDepth 200000 in
theorem ts_X10_workOf_202 {post : Int32 → Int32 → Int32 → Int32 → (Nat → Int32) → Prop} {SB : Int} {next : Int32 → Int32 → Int32 → Int32 → (Nat → Int32) → Prop} {n202 : Int} (m_fruits : Int32) (m_standings : Int32) (m_wanted : Int32) (m_now : Nat → Int32) (m_fork : Nat → Int32) (m_told : Nat → Int32) (m_hand : Nat → Int32) (m_moves : Nat → Int32) (m_handSeconds : Nat → Int32) (h_m_fruits : 0 ≤ Int32.toInt m_fruits ∧ Int32.toInt m_fruits ≤ 16) (h_m_standings : 0 ≤ Int32.toInt m_standings ∧ Int32.toInt m_standings ≤ 8) (h_m_wanted : 0 ≤ Int32.toInt m_wanted ∧ Int32.toInt m_wanted ≤ 65535) (e0_m_now : ∀ k : Nat, k = 17 → -1 ≤ Int32.toInt (m_now k) ∧ Int32.toInt (m_now k) ≤ SB) (e1_m_now : ∀ k : Nat, k = 19 → 0 ≤ Int32.toInt (m_now k) ∧ Int32.toInt (m_now k) ≤ 9) (h_m_fork : ∀ k : Nat, 0 ≤ Int32.toInt (m_fork k) ∧ Int32.toInt (m_fork k) ≤ 99) (e0_m_told : ∀ k : Nat, k = 4 → 1 ≤ Int32.toInt (m_told k) ∧ Int32.toInt (m_told k) ≤ 30) (e1_m_told : ∀ k : Nat, k = 3 → 0 ≤ Int32.toInt (m_told k) ∧ Int32.toInt (m_told k) ≤ 9) (h_m_hand : ∀ k : Nat, 0 ≤ Int32.toInt (m_hand k) ∧ Int32.toInt (m_hand k) ≤ 65535) (h_m_moves : ∀ k : Nat, 0 ≤ Int32.toInt (m_moves k) ∧ Int32.toInt (m_moves k) ≤ 1000000) (h_m_handSeconds : ∀ k : Nat, 0 ≤ Int32.toInt (m_handSeconds k) ∧ Int32.toInt (m_handSeconds k) ≤ 99) (hc0 : -1 ≤ SB ∧ SB ≤ 7) (hc1 : (Int32.toInt m_standings ≤ 0 ∧ SB = 0) ∨ (1 ≤ Int32.toInt m_standings ∧ SB = Int32.toInt m_standings - 1)) (hpost : ∀ (r : Int32) (m_workMoves' : Int32) (m_workPicks' : Int32) (m_workDowns' : Int32) (m_load' : Nat → Int32), (0 ≤ Int32.toInt m_workMoves' ∧ Int32.toInt m_workMoves' ≤ 1000000) → post r m_workMoves' m_workPicks' m_workDowns' m_load') (hKn : ∀ (x2 : Int32) (m_workMoves : Int32) (m_workPicks : Int32) (m_workDowns : Int32) (m_load : Nat → Int32), (0 ≤ Int32.toInt x2 ∧ Int32.toInt x2 ≤ 8) → (0 ≤ Int32.toInt m_workMoves ∧ Int32.toInt m_workMoves ≤ 1000000) → (8 - Int32.toInt x2 < n202) → next x2 m_workMoves m_workPicks m_workDowns m_load) (x2 : Int32) (m_workMoves : Int32) (m_workPicks : Int32) (m_workDowns : Int32) (m_load : Nat → Int32) (h_x2 : 0 ≤ Int32.toInt x2 ∧ Int32.toInt x2 ≤ 8) (h_m_workMoves : 0 ≤ Int32.toInt m_workMoves ∧ Int32.toInt m_workMoves ≤ 1000000) (hn202 : 8 - Int32.toInt x2 ≤ n202) : ws_X10_workOf_202 post next m_fruits m_standings m_wanted m_now m_fork m_told m_hand m_moves m_handSeconds x2 m_workMoves m_workPicks m_workDowns m_load := by
  have l0 : Int32.toInt (0 : Int32) = 0 := (by decide)
  have l1 : Int32.toInt (1 : Int32) = 1 := (by decide)
  have l2 : Int32.toInt (4 : Int32) = 4 := (by decide)
  have l3 : Int32.toInt (9 : Int32) = 9 := (by decide)
  refine And.intro (fun c1 => ?_) (fun c1 => ?_)
  · skip
    have c1 := (fa_le _ _).mp c1
    intro v2 ev2
    have hv2 := congrArg Int32.toInt ev2
    exact hpost _ _ _ _ _ (by omega)
  · skip
    have c1 := mt (fa_le _ _).mpr c1
    refine And.intro (t_in (by omega)) ?_
    intro v4 ev4
    have hv4 := congrArg Int32.toInt ev4
    have q6 := e0_m_told (4 : Int32).toNatClampNeg (by have e9 : (4 : Int32).toNatClampNeg = (Int32.toInt (4 : Int32)).toNat := rfl; omega)
    intro v7 ev7
    have hv7 := congrArg Int32.toInt ev7
    intro v9 ev9
    have hv9 := congrArg Int32.toInt ev9
    have q11 := e0_m_told (4 : Int32).toNatClampNeg (by have e9 : (4 : Int32).toNatClampNeg = (Int32.toInt (4 : Int32)).toNat := rfl; omega)
    refine And.intro (mt (fa_eq _ _).mp (by omega)) ?_
    intro v13 ev13
    refine And.intro (t_in (by omega)) ?_
    intro v14 ev14
    have f15 := h_m_fork x2.toNatClampNeg
    have hv14 := congrArg Int32.toInt ev14
    intro v16 ev16
    have f17 : Int32.toInt (v14 + 9) = Int32.toInt v14 + Int32.toInt (9 : Int32) := ta_add _ _ (by omega)
    rw [← ev16] at f17
    intro v18 ev18
    have hv18 := congrArg Int32.toInt ev18
    intro v20 ev20
    have f21 : Int32.toInt (x2 + 1) = Int32.toInt x2 + Int32.toInt (1 : Int32) := ta_add _ _ (by omega)
    rw [← ev20] at f21
    have f22 := tp_r m_workPicks
    have f23 := tp_r v18
    exact hKn v20 m_workMoves m_workPicks v18 m_load (by omega) (by omega) (by omega)
set_option maxHeartbeats 8000000 in
set_option maxRecDepth 200000 in
theorem tb_X10_workOf_202 {post : Int32 → Int32 → Int32 → Int32 → (Nat → Int32) → Prop} {SB : Int} (m_fruits : Int32) (m_standings : Int32) (m_wanted : Int32) (m_now : Nat → Int32) (m_fork : Nat → Int32) (m_told : Nat → Int32) (m_hand : Nat → Int32) (m_moves : Nat → Int32) (m_handSeconds : Nat → Int32) (h_m_fruits : 0 ≤ Int32.toInt m_fruits ∧ Int32.toInt m_fruits ≤ 16) (h_m_standings : 0 ≤ Int32.toInt m_standings ∧ Int32.toInt m_standings ≤ 8) (h_m_wanted : 0 ≤ Int32.toInt m_wanted ∧ Int32.toInt m_wanted ≤ 65535) (e0_m_now : ∀ k : Nat, k = 17 → -1 ≤ Int32.toInt (m_now k) ∧ Int32.toInt (m_now k) ≤ SB) (e1_m_now : ∀ k : Nat, k = 19 → 0 ≤ Int32.toInt (m_now k) ∧ Int32.toInt (m_now k) ≤ 9) (h_m_fork : ∀ k : Nat, 0 ≤ Int32.toInt (m_fork k) ∧ Int32.toInt (m_fork k) ≤ 99) (e0_m_told : ∀ k : Nat, k = 4 → 1 ≤ Int32.toInt (m_told k) ∧ Int32.toInt (m_told k) ≤ 30) (e1_m_told : ∀ k : Nat, k = 3 → 0 ≤ Int32.toInt (m_told k) ∧ Int32.toInt (m_told k) ≤ 9) (h_m_hand : ∀ k : Nat, 0 ≤ Int32.toInt (m_hand k) ∧ Int32.toInt (m_hand k) ≤ 65535) (h_m_moves : ∀ k : Nat, 0 ≤ Int32.toInt (m_moves k) ∧ Int32.toInt (m_moves k) ≤ 1000000) (h_m_handSeconds : ∀ k : Nat, 0 ≤ Int32.toInt (m_handSeconds k) ∧ Int32.toInt (m_handSeconds k) ≤ 99) (hc0 : -1 ≤ SB ∧ SB ≤ 7) (hc1 : (Int32.toInt m_standings ≤ 0 ∧ SB = 0) ∨ (1 ≤ Int32.toInt m_standings ∧ SB = Int32.toInt m_standings - 1)) (hpost : ∀ (r : Int32) (m_workMoves' : Int32) (m_workPicks' : Int32) (m_workDowns' : Int32) (m_load' : Nat → Int32), (0 ≤ Int32.toInt m_workMoves' ∧ Int32.toInt m_workMoves' ≤ 1000000) → post r m_workMoves' m_workPicks' m_workDowns' m_load') : ∀ (n : Nat) (x2 : Int32) (m_workMoves : Int32) (m_workPicks : Int32) (m_workDowns : Int32) (m_load : Nat → Int32), (0 ≤ Int32.toInt x2 ∧ Int32.toInt x2 ≤ 8) → (0 ≤ Int32.toInt m_workMoves ∧ Int32.toInt m_workMoves ≤ 1000000) → (8 - Int32.toInt x2 < (n : Int)) → wb_X10_workOf_202 post m_fruits m_standings m_wanted m_now m_fork m_told m_hand m_moves m_handSeconds n x2 m_workMoves m_workPicks m_workDowns m_load := by
  intro n
  induction n with
  | zero =>
    intro x2 m_workMoves m_workPicks m_workDowns m_load h_x2 h_m_workMoves hm
    exfalso; omega
  | succ n ih =>
    intro x2 m_workMoves m_workPicks m_workDowns m_load h_x2 h_m_workMoves hm
    exact ts_X10_workOf_202 m_fruits m_standings m_wanted m_now m_fork m_told m_hand m_moves m_handSeconds h_m_fruits h_m_standings h_m_wanted e0_m_now e1_m_now h_m_fork e0_m_told e1_m_told h_m_hand h_m_moves h_m_handSeconds hc0 hc1 hpost ih x2 m_workMoves m_workPicks m_workDowns m_load h_x2 h_m_workMoves (by omega)
set_option maxHeartbeats 8000000 in
set_option maxRecDepth 200000 in
theorem ts_X10_workOf_194 {post : Int32 → Int32 → Int32 → Int32 → (Nat → Int32) → Prop} {SB : Int} {K57 : Int32 → Int32 → Int32 → Int32 → Int32 → (Nat → Int32) → Prop} {n57 : Int} (m_fruits : Int32) (m_standings : Int32) (m_wanted : Int32) (m_now : Nat → Int32) (m_fork : Nat → Int32) (m_told : Nat → Int32) (m_hand : Nat → Int32) (m_moves : Nat → Int32) (m_handSeconds : Nat → Int32) (h_m_fruits : 0 ≤ Int32.toInt m_fruits ∧ Int32.toInt m_fruits ≤ 16) (h_m_standings : 0 ≤ Int32.toInt m_standings ∧ Int32.toInt m_standings ≤ 8) (h_m_wanted : 0 ≤ Int32.toInt m_wanted ∧ Int32.toInt m_wanted ≤ 65535) (e0_m_now : ∀ k : Nat, k = 17 → -1 ≤ Int32.toInt (m_now k) ∧ Int32.toInt (m_now k) ≤ SB) (e1_m_now : ∀ k : Nat, k = 19 → 0 ≤ Int32.toInt (m_now k) ∧ Int32.toInt (m_now k) ≤ 9) (h_m_fork : ∀ k : Nat, 0 ≤ Int32.toInt (m_fork k) ∧ Int32.toInt (m_fork k) ≤ 99) (e0_m_told : ∀ k : Nat, k = 4 → 1 ≤ Int32.toInt (m_told k) ∧ Int32.toInt (m_told k) ≤ 30) (e1_m_told : ∀ k : Nat, k = 3 → 0 ≤ Int32.toInt (m_told k) ∧ Int32.toInt (m_told k) ≤ 9) (h_m_hand : ∀ k : Nat, 0 ≤ Int32.toInt (m_hand k) ∧ Int32.toInt (m_hand k) ≤ 65535) (h_m_moves : ∀ k : Nat, 0 ≤ Int32.toInt (m_moves k) ∧ Int32.toInt (m_moves k) ≤ 1000000) (h_m_handSeconds : ∀ k : Nat, 0 ≤ Int32.toInt (m_handSeconds k) ∧ Int32.toInt (m_handSeconds k) ≤ 99) (hc0 : -1 ≤ SB ∧ SB ≤ 7) (hc1 : (Int32.toInt m_standings ≤ 0 ∧ SB = 0) ∨ (1 ≤ Int32.toInt m_standings ∧ SB = Int32.toInt m_standings - 1)) (hpost : ∀ (r : Int32) (m_workMoves' : Int32) (m_workPicks' : Int32) (m_workDowns' : Int32) (m_load' : Nat → Int32), (0 ≤ Int32.toInt m_workMoves' ∧ Int32.toInt m_workMoves' ≤ 1000000) → post r m_workMoves' m_workPicks' m_workDowns' m_load') (hK57 : ∀ (x1 : Int32) (x2 : Int32) (m_workMoves : Int32) (m_workPicks : Int32) (m_workDowns : Int32) (m_load : Nat → Int32), (0 ≤ Int32.toInt x1 ∧ Int32.toInt x1 ≤ 255) → (0 ≤ Int32.toInt x2 ∧ Int32.toInt x2 ≤ 16) → (0 ≤ Int32.toInt m_workMoves ∧ Int32.toInt m_workMoves ≤ 1000000) → (0 ≤ Int32.toInt m_workDowns ∧ Int32.toInt m_workDowns ≤ 0) → (16 - Int32.toInt x2 < n57) → K57 x1 x2 m_workMoves m_workPicks m_workDowns m_load) (x1 : Int32) (x2 : Int32) (m_workMoves : Int32) (m_workPicks : Int32) (m_workDowns : Int32) (m_load : Nat → Int32) (h_x1 : 0 ≤ Int32.toInt x1 ∧ Int32.toInt x1 ≤ 255) (h_x2 : 0 ≤ Int32.toInt x2 ∧ Int32.toInt x2 ≤ 15) (h_m_workMoves : 0 ≤ Int32.toInt m_workMoves ∧ Int32.toInt m_workMoves ≤ 1000000) (h_m_workDowns : 0 ≤ Int32.toInt m_workDowns ∧ Int32.toInt m_workDowns ≤ 0) (hn57 : 16 - Int32.toInt x2 ≤ n57) : ws_X10_workOf_194 post K57 m_fruits m_standings m_wanted m_now m_fork m_told m_hand m_moves m_handSeconds x1 x2 m_workMoves m_workPicks m_workDowns m_load := by
  have l0 : Int32.toInt (1 : Int32) = 1 := (by decide)
  intro v24 ev24
  have f25 : Int32.toInt (x2 + 1) = Int32.toInt x2 + Int32.toInt (1 : Int32) := ta_add _ _ (by omega)
  rw [← ev24] at f25
  have f26 := tp_r m_workPicks
  exact hK57 x1 v24 m_workMoves m_workPicks m_workDowns m_load (by omega) (by omega) (by omega) (by omega) (by omega)
set_option maxHeartbeats 8000000 in
set_option maxRecDepth 200000 in
theorem ts_X10_workOf_150 {post : Int32 → Int32 → Int32 → Int32 → (Nat → Int32) → Prop} {SB : Int} {K57 : Int32 → Int32 → Int32 → Int32 → Int32 → (Nat → Int32) → Prop} {K84 : Int32 → Int32 → Int32 → Int32 → Int32 → Int32 → Int32 → (Nat → Int32) → Prop} {n57 : Int} {n84 : Int} (m_fruits : Int32) (m_standings : Int32) (m_wanted : Int32) (m_now : Nat → Int32) (m_fork : Nat → Int32) (m_told : Nat → Int32) (m_hand : Nat → Int32) (m_moves : Nat → Int32) (m_handSeconds : Nat → Int32) (h_m_fruits : 0 ≤ Int32.toInt m_fruits ∧ Int32.toInt m_fruits ≤ 16) (h_m_standings : 0 ≤ Int32.toInt m_standings ∧ Int32.toInt m_standings ≤ 8) (h_m_wanted : 0 ≤ Int32.toInt m_wanted ∧ Int32.toInt m_wanted ≤ 65535) (e0_m_now : ∀ k : Nat, k = 17 → -1 ≤ Int32.toInt (m_now k) ∧ Int32.toInt (m_now k) ≤ SB) (e1_m_now : ∀ k : Nat, k = 19 → 0 ≤ Int32.toInt (m_now k) ∧ Int32.toInt (m_now k) ≤ 9) (h_m_fork : ∀ k : Nat, 0 ≤ Int32.toInt (m_fork k) ∧ Int32.toInt (m_fork k) ≤ 99) (e0_m_told : ∀ k : Nat, k = 4 → 1 ≤ Int32.toInt (m_told k) ∧ Int32.toInt (m_told k) ≤ 30) (e1_m_told : ∀ k : Nat, k = 3 → 0 ≤ Int32.toInt (m_told k) ∧ Int32.toInt (m_told k) ≤ 9) (h_m_hand : ∀ k : Nat, 0 ≤ Int32.toInt (m_hand k) ∧ Int32.toInt (m_hand k) ≤ 65535) (h_m_moves : ∀ k : Nat, 0 ≤ Int32.toInt (m_moves k) ∧ Int32.toInt (m_moves k) ≤ 1000000) (h_m_handSeconds : ∀ k : Nat, 0 ≤ Int32.toInt (m_handSeconds k) ∧ Int32.toInt (m_handSeconds k) ≤ 99) (hc0 : -1 ≤ SB ∧ SB ≤ 7) (hc1 : (Int32.toInt m_standings ≤ 0 ∧ SB = 0) ∨ (1 ≤ Int32.toInt m_standings ∧ SB = Int32.toInt m_standings - 1)) (hpost : ∀ (r : Int32) (m_workMoves' : Int32) (m_workPicks' : Int32) (m_workDowns' : Int32) (m_load' : Nat → Int32), (0 ≤ Int32.toInt m_workMoves' ∧ Int32.toInt m_workMoves' ≤ 1000000) → post r m_workMoves' m_workPicks' m_workDowns' m_load') (hK57 : ∀ (x1 : Int32) (x2 : Int32) (m_workMoves : Int32) (m_workPicks : Int32) (m_workDowns : Int32) (m_load : Nat → Int32), (0 ≤ Int32.toInt x1 ∧ Int32.toInt x1 ≤ 255) → (0 ≤ Int32.toInt x2 ∧ Int32.toInt x2 ≤ 16) → (0 ≤ Int32.toInt m_workMoves ∧ Int32.toInt m_workMoves ≤ 1000000) → (0 ≤ Int32.toInt m_workDowns ∧ Int32.toInt m_workDowns ≤ 0) → (16 - Int32.toInt x2 < n57) → K57 x1 x2 m_workMoves m_workPicks m_workDowns m_load) (hK84 : ∀ (x1 : Int32) (x2 : Int32) (x3 : Int32) (x4 : Int32) (m_workMoves : Int32) (m_workPicks : Int32) (m_workDowns : Int32) (m_load : Nat → Int32), (0 ≤ Int32.toInt x1 ∧ Int32.toInt x1 ≤ 255) → (0 ≤ Int32.toInt x2 ∧ Int32.toInt x2 ≤ 15) → (-1 ≤ Int32.toInt x3 ∧ Int32.toInt x3 ≤ 7) → (0 ≤ Int32.toInt x4 ∧ Int32.toInt x4 ≤ 8) → (0 ≤ Int32.toInt m_workMoves ∧ Int32.toInt m_workMoves ≤ 1000000) → (0 ≤ Int32.toInt m_workDowns ∧ Int32.toInt m_workDowns ≤ 0) → (16 - Int32.toInt x2 ≤ n57) → (8 - Int32.toInt x4 < n84) → K84 x1 x2 x3 x4 m_workMoves m_workPicks m_workDowns m_load) (x1 : Int32) (x2 : Int32) (x3 : Int32) (x4 : Int32) (m_workMoves : Int32) (m_workPicks : Int32) (m_workDowns : Int32) (m_load : Nat → Int32) (h_x1 : 0 ≤ Int32.toInt x1 ∧ Int32.toInt x1 ≤ 255) (h_x2 : 0 ≤ Int32.toInt x2 ∧ Int32.toInt x2 ≤ 15) (h_x3 : -1 ≤ Int32.toInt x3 ∧ Int32.toInt x3 ≤ 7) (h_x4 : 0 ≤ Int32.toInt x4 ∧ Int32.toInt x4 ≤ 7) (h_m_workMoves : 0 ≤ Int32.toInt m_workMoves ∧ Int32.toInt m_workMoves ≤ 1000000) (h_m_workDowns : 0 ≤ Int32.toInt m_workDowns ∧ Int32.toInt m_workDowns ≤ 0) (hn57 : 16 - Int32.toInt x2 ≤ n57) (hn84 : 8 - Int32.toInt x4 ≤ n84) : ws_X10_workOf_150 post K57 K84 m_fruits m_standings m_wanted m_now m_fork m_told m_hand m_moves m_handSeconds x1 x2 x3 x4 m_workMoves m_workPicks m_workDowns m_load := by
  have l0 : Int32.toInt (1 : Int32) = 1 := (by decide)
  intro v27 ev27
  have f28 : Int32.toInt (x4 + 1) = Int32.toInt x4 + Int32.toInt (1 : Int32) := ta_add _ _ (by omega)
  rw [← ev27] at f28
  have f29 := tp_r m_workPicks
  exact hK84 x1 x2 x3 v27 m_workMoves m_workPicks m_workDowns m_load (by omega) (by omega) (by omega) (by omega) (by omega) (by omega) (by omega) (by omega)
set_option maxHeartbeats 8000000 in
set_option maxRecDepth 200000 in
theorem ts_X10_workOf_147 {post : Int32 → Int32 → Int32 → Int32 → (Nat → Int32) → Prop} {SB : Int} {K57 : Int32 → Int32 → Int32 → Int32 → Int32 → (Nat → Int32) → Prop} {K84 : Int32 → Int32 → Int32 → Int32 → Int32 → Int32 → Int32 → (Nat → Int32) → Prop} {n57 : Int} {n84 : Int} (m_fruits : Int32) (m_standings : Int32) (m_wanted : Int32) (m_now : Nat → Int32) (m_fork : Nat → Int32) (m_told : Nat → Int32) (m_hand : Nat → Int32) (m_moves : Nat → Int32) (m_handSeconds : Nat → Int32) (h_m_fruits : 0 ≤ Int32.toInt m_fruits ∧ Int32.toInt m_fruits ≤ 16) (h_m_standings : 0 ≤ Int32.toInt m_standings ∧ Int32.toInt m_standings ≤ 8) (h_m_wanted : 0 ≤ Int32.toInt m_wanted ∧ Int32.toInt m_wanted ≤ 65535) (e0_m_now : ∀ k : Nat, k = 17 → -1 ≤ Int32.toInt (m_now k) ∧ Int32.toInt (m_now k) ≤ SB) (e1_m_now : ∀ k : Nat, k = 19 → 0 ≤ Int32.toInt (m_now k) ∧ Int32.toInt (m_now k) ≤ 9) (h_m_fork : ∀ k : Nat, 0 ≤ Int32.toInt (m_fork k) ∧ Int32.toInt (m_fork k) ≤ 99) (e0_m_told : ∀ k : Nat, k = 4 → 1 ≤ Int32.toInt (m_told k) ∧ Int32.toInt (m_told k) ≤ 30) (e1_m_told : ∀ k : Nat, k = 3 → 0 ≤ Int32.toInt (m_told k) ∧ Int32.toInt (m_told k) ≤ 9) (h_m_hand : ∀ k : Nat, 0 ≤ Int32.toInt (m_hand k) ∧ Int32.toInt (m_hand k) ≤ 65535) (h_m_moves : ∀ k : Nat, 0 ≤ Int32.toInt (m_moves k) ∧ Int32.toInt (m_moves k) ≤ 1000000) (h_m_handSeconds : ∀ k : Nat, 0 ≤ Int32.toInt (m_handSeconds k) ∧ Int32.toInt (m_handSeconds k) ≤ 99) (hc0 : -1 ≤ SB ∧ SB ≤ 7) (hc1 : (Int32.toInt m_standings ≤ 0 ∧ SB = 0) ∨ (1 ≤ Int32.toInt m_standings ∧ SB = Int32.toInt m_standings - 1)) (hpost : ∀ (r : Int32) (m_workMoves' : Int32) (m_workPicks' : Int32) (m_workDowns' : Int32) (m_load' : Nat → Int32), (0 ≤ Int32.toInt m_workMoves' ∧ Int32.toInt m_workMoves' ≤ 1000000) → post r m_workMoves' m_workPicks' m_workDowns' m_load') (hK57 : ∀ (x1 : Int32) (x2 : Int32) (m_workMoves : Int32) (m_workPicks : Int32) (m_workDowns : Int32) (m_load : Nat → Int32), (0 ≤ Int32.toInt x1 ∧ Int32.toInt x1 ≤ 255) → (0 ≤ Int32.toInt x2 ∧ Int32.toInt x2 ≤ 16) → (0 ≤ Int32.toInt m_workMoves ∧ Int32.toInt m_workMoves ≤ 1000000) → (0 ≤ Int32.toInt m_workDowns ∧ Int32.toInt m_workDowns ≤ 0) → (16 - Int32.toInt x2 < n57) → K57 x1 x2 m_workMoves m_workPicks m_workDowns m_load) (hK84 : ∀ (x1 : Int32) (x2 : Int32) (x3 : Int32) (x4 : Int32) (m_workMoves : Int32) (m_workPicks : Int32) (m_workDowns : Int32) (m_load : Nat → Int32), (0 ≤ Int32.toInt x1 ∧ Int32.toInt x1 ≤ 255) → (0 ≤ Int32.toInt x2 ∧ Int32.toInt x2 ≤ 15) → (-1 ≤ Int32.toInt x3 ∧ Int32.toInt x3 ≤ 7) → (0 ≤ Int32.toInt x4 ∧ Int32.toInt x4 ≤ 8) → (0 ≤ Int32.toInt m_workMoves ∧ Int32.toInt m_workMoves ≤ 1000000) → (0 ≤ Int32.toInt m_workDowns ∧ Int32.toInt m_workDowns ≤ 0) → (16 - Int32.toInt x2 ≤ n57) → (8 - Int32.toInt x4 < n84) → K84 x1 x2 x3 x4 m_workMoves m_workPicks m_workDowns m_load) (x1 : Int32) (x2 : Int32) (x4 : Int32) (m_workMoves : Int32) (m_workPicks : Int32) (m_workDowns : Int32) (m_load : Nat → Int32) (h_x1 : 0 ≤ Int32.toInt x1 ∧ Int32.toInt x1 ≤ 255) (h_x2 : 0 ≤ Int32.toInt x2 ∧ Int32.toInt x2 ≤ 15) (h_x4 : 0 ≤ Int32.toInt x4 ∧ Int32.toInt x4 ≤ 7) (h_m_workMoves : 0 ≤ Int32.toInt m_workMoves ∧ Int32.toInt m_workMoves ≤ 1000000) (h_m_workDowns : 0 ≤ Int32.toInt m_workDowns ∧ Int32.toInt m_workDowns ≤ 0) (hn57 : 16 - Int32.toInt x2 ≤ n57) (hn84 : 8 - Int32.toInt x4 ≤ n84) : ws_X10_workOf_147 post K57 K84 m_fruits m_standings m_wanted m_now m_fork m_told m_hand m_moves m_handSeconds x1 x2 x4 m_workMoves m_workPicks m_workDowns m_load := by
  have f30 := tp_r m_workPicks
  exact ts_X10_workOf_150 m_fruits m_standings m_wanted m_now m_fork m_told m_hand m_moves m_handSeconds h_m_fruits h_m_standings h_m_wanted e0_m_now e1_m_now h_m_fork e0_m_told e1_m_told h_m_hand h_m_moves h_m_handSeconds hc0 hc1 hpost hK57 hK84 x1 x2 x4 x4 m_workMoves m_workPicks m_workDowns m_load (by omega) (by omega) (by omega) (by omega) (by omega) (by omega) (by omega) (by omega)
set_option maxHeartbeats 8000000 in
set_option maxRecDepth 200000 in
theorem ts_X10_workOf_84 {post : Int32 → Int32 → Int32 → Int32 → (Nat → Int32) → Prop} {SB : Int} {K57 : Int32 → Int32 → Int32 → Int32 → Int32 → (Nat → Int32) → Prop} {next : Int32 → Int32 → Int32 → Int32 → Int32 → Int32 → Int32 → (Nat → Int32) → Prop} {n84 : Int} {n57 : Int} (m_fruits : Int32) (m_standings : Int32) (m_wanted : Int32) (m_now : Nat → Int32) (m_fork : Nat → Int32) (m_told : Nat → Int32) (m_hand : Nat → Int32) (m_moves : Nat → Int32) (m_handSeconds : Nat → Int32) (h_m_fruits : 0 ≤ Int32.toInt m_fruits ∧ Int32.toInt m_fruits ≤ 16) (h_m_standings : 0 ≤ Int32.toInt m_standings ∧ Int32.toInt m_standings ≤ 8) (h_m_wanted : 0 ≤ Int32.toInt m_wanted ∧ Int32.toInt m_wanted ≤ 65535) (e0_m_now : ∀ k : Nat, k = 17 → -1 ≤ Int32.toInt (m_now k) ∧ Int32.toInt (m_now k) ≤ SB) (e1_m_now : ∀ k : Nat, k = 19 → 0 ≤ Int32.toInt (m_now k) ∧ Int32.toInt (m_now k) ≤ 9) (h_m_fork : ∀ k : Nat, 0 ≤ Int32.toInt (m_fork k) ∧ Int32.toInt (m_fork k) ≤ 99) (e0_m_told : ∀ k : Nat, k = 4 → 1 ≤ Int32.toInt (m_told k) ∧ Int32.toInt (m_told k) ≤ 30) (e1_m_told : ∀ k : Nat, k = 3 → 0 ≤ Int32.toInt (m_told k) ∧ Int32.toInt (m_told k) ≤ 9) (h_m_hand : ∀ k : Nat, 0 ≤ Int32.toInt (m_hand k) ∧ Int32.toInt (m_hand k) ≤ 65535) (h_m_moves : ∀ k : Nat, 0 ≤ Int32.toInt (m_moves k) ∧ Int32.toInt (m_moves k) ≤ 1000000) (h_m_handSeconds : ∀ k : Nat, 0 ≤ Int32.toInt (m_handSeconds k) ∧ Int32.toInt (m_handSeconds k) ≤ 99) (hc0 : -1 ≤ SB ∧ SB ≤ 7) (hc1 : (Int32.toInt m_standings ≤ 0 ∧ SB = 0) ∨ (1 ≤ Int32.toInt m_standings ∧ SB = Int32.toInt m_standings - 1)) (hpost : ∀ (r : Int32) (m_workMoves' : Int32) (m_workPicks' : Int32) (m_workDowns' : Int32) (m_load' : Nat → Int32), (0 ≤ Int32.toInt m_workMoves' ∧ Int32.toInt m_workMoves' ≤ 1000000) → post r m_workMoves' m_workPicks' m_workDowns' m_load') (hK57 : ∀ (x1 : Int32) (x2 : Int32) (m_workMoves : Int32) (m_workPicks : Int32) (m_workDowns : Int32) (m_load : Nat → Int32), (0 ≤ Int32.toInt x1 ∧ Int32.toInt x1 ≤ 255) → (0 ≤ Int32.toInt x2 ∧ Int32.toInt x2 ≤ 16) → (0 ≤ Int32.toInt m_workMoves ∧ Int32.toInt m_workMoves ≤ 1000000) → (0 ≤ Int32.toInt m_workDowns ∧ Int32.toInt m_workDowns ≤ 0) → (16 - Int32.toInt x2 < n57) → K57 x1 x2 m_workMoves m_workPicks m_workDowns m_load) (hKn : ∀ (x1 : Int32) (x2 : Int32) (x3 : Int32) (x4 : Int32) (m_workMoves : Int32) (m_workPicks : Int32) (m_workDowns : Int32) (m_load : Nat → Int32), (0 ≤ Int32.toInt x1 ∧ Int32.toInt x1 ≤ 255) → (0 ≤ Int32.toInt x2 ∧ Int32.toInt x2 ≤ 15) → (-1 ≤ Int32.toInt x3 ∧ Int32.toInt x3 ≤ 7) → (0 ≤ Int32.toInt x4 ∧ Int32.toInt x4 ≤ 8) → (0 ≤ Int32.toInt m_workMoves ∧ Int32.toInt m_workMoves ≤ 1000000) → (0 ≤ Int32.toInt m_workDowns ∧ Int32.toInt m_workDowns ≤ 0) → (16 - Int32.toInt x2 ≤ n57) → (8 - Int32.toInt x4 < n84) → next x1 x2 x3 x4 m_workMoves m_workPicks m_workDowns m_load) (x1 : Int32) (x2 : Int32) (x3 : Int32) (x4 : Int32) (m_workMoves : Int32) (m_workPicks : Int32) (m_workDowns : Int32) (m_load : Nat → Int32) (h_x1 : 0 ≤ Int32.toInt x1 ∧ Int32.toInt x1 ≤ 255) (h_x2 : 0 ≤ Int32.toInt x2 ∧ Int32.toInt x2 ≤ 15) (h_x3 : -1 ≤ Int32.toInt x3 ∧ Int32.toInt x3 ≤ 7) (h_x4 : 0 ≤ Int32.toInt x4 ∧ Int32.toInt x4 ≤ 8) (h_m_workMoves : 0 ≤ Int32.toInt m_workMoves ∧ Int32.toInt m_workMoves ≤ 1000000) (h_m_workDowns : 0 ≤ Int32.toInt m_workDowns ∧ Int32.toInt m_workDowns ≤ 0) (hn57 : 16 - Int32.toInt x2 ≤ n57) (hn84 : 8 - Int32.toInt x4 ≤ n84) : ws_X10_workOf_84 post K57 next m_fruits m_standings m_wanted m_now m_fork m_told m_hand m_moves m_handSeconds x1 x2 x3 x4 m_workMoves m_workPicks m_workDowns m_load := by
  have l0 : Int32.toInt ((-1) : Int32) = -1 := (by decide)
  have l1 : Int32.toInt (1 : Int32) = 1 := (by decide)
  have l2 : Int32.toInt (16 : Int32) = 16 := (by decide)
  refine And.intro (fun c31 => ?_) (fun c31 => ?_)
  · skip
    have c31 := (fa_le _ _).mp c31
    refine And.intro (fun c32 => ?_) (fun c32 => ?_)
    · skip
      have c32 := mt (fa_eq _ _).mpr c32
      intro v33 ev33
      have f34 : Int32.toInt (16 * x3) = Int32.toInt x3 * 16 := ta_cmul _ _ (by decide) (by omega)
      rw [← ev33] at f34
      intro v35 ev35
      have f36 : Int32.toInt (v33 + x2) = Int32.toInt v33 + Int32.toInt x2 := ta_add _ _ (by omega)
      rw [← ev35] at f36
      refine And.intro (t_in (by omega)) ?_
      intro v37 ev37
      have hv37 := congrArg Int32.toInt ev37
      refine And.intro (t_in (by omega)) ?_
      intro v39 ev39
      have hv39 := congrArg Int32.toInt ev39
      intro v41 ev41
      have hv41 := congrArg Int32.toInt ev41
      refine And.intro (t_in (by omega)) ?_
      have f43 := tp_r v37
      exact ts_X10_workOf_194 m_fruits m_standings m_wanted m_now m_fork m_told m_hand m_moves m_handSeconds h_m_fruits h_m_standings h_m_wanted e0_m_now e1_m_now h_m_fork e0_m_told e1_m_told h_m_hand h_m_moves h_m_handSeconds hc0 hc1 hpost hK57 x1 x2 m_workMoves v37 m_workDowns (upd m_load x3.toNatClampNeg v41) (by omega) (by omega) (by omega) (by omega) (by omega)
    · skip
      have c32 := (fa_eq _ _).mp c32
      have f44 := tp_r m_workPicks
      exact ts_X10_workOf_194 m_fruits m_standings m_wanted m_now m_fork m_told m_hand m_moves m_handSeconds h_m_fruits h_m_standings h_m_wanted e0_m_now e1_m_now h_m_fork e0_m_told e1_m_told h_m_hand h_m_moves h_m_handSeconds hc0 hc1 hpost hK57 x1 x2 m_workMoves m_workPicks m_workDowns m_load (by omega) (by omega) (by omega) (by omega) (by omega)
  · skip
    have c31 := mt (fa_le _ _).mpr c31
    intro v45 ev45
    have f46 := ti_shr x1 x4 (by omega)
    have hv45 := congrArg Int32.toInt ev45
    intro v47 ev47
    have f48 := ti_andr v45 1 (by omega)
    have f49 := ti_andl v45 1 (by omega)
    have hv47 := congrArg Int32.toInt ev47
    refine And.intro (fun c50 => ?_) (fun c50 => ?_)
    · skip
      have c50 := mt (fa_eq _ _).mpr c50
      refine And.intro (fun _ => ?_) (fun h9 => absurd h9 (by decide))
      have f51 := tp_r m_workPicks
      exact ts_X10_workOf_150 m_fruits m_standings m_wanted m_now m_fork m_told m_hand m_moves m_handSeconds h_m_fruits h_m_standings h_m_wanted e0_m_now e1_m_now h_m_fork e0_m_told e1_m_told h_m_hand h_m_moves h_m_handSeconds hc0 hc1 hpost hK57 hKn x1 x2 x3 x4 m_workMoves m_workPicks m_workDowns m_load (by omega) (by omega) (by omega) (by omega) (by omega) (by omega) (by omega) (by omega)
    · skip
      have c50 := (fa_eq _ _).mp c50
      refine And.intro (fun h9 => absurd h9 (by decide)) (fun _ => ?_)
      refine And.intro (t_in (by omega)) ?_
      intro v52 ev52
      have f53 := h_m_hand x4.toNatClampNeg
      have hv52 := congrArg Int32.toInt ev52
      intro v54 ev54
      have f55 := ti_shr v52 x2 (by omega)
      have hv54 := congrArg Int32.toInt ev54
      intro v56 ev56
      have f57 := ti_andr v54 1 (by omega)
      have f58 := ti_andl v54 1 (by omega)
      have hv56 := congrArg Int32.toInt ev56
      refine And.intro (fun c59 => ?_) (fun c59 => ?_)
      · skip
        have c59 := mt (fa_eq _ _).mpr c59
        refine And.intro (fun _ => ?_) (fun h9 => absurd h9 (by decide))
        have f60 := tp_r m_workPicks
        exact ts_X10_workOf_150 m_fruits m_standings m_wanted m_now m_fork m_told m_hand m_moves m_handSeconds h_m_fruits h_m_standings h_m_wanted e0_m_now e1_m_now h_m_fork e0_m_told e1_m_told h_m_hand h_m_moves h_m_handSeconds hc0 hc1 hpost hK57 hKn x1 x2 x3 x4 m_workMoves m_workPicks m_workDowns m_load (by omega) (by omega) (by omega) (by omega) (by omega) (by omega) (by omega) (by omega)
      · skip
        have c59 := (fa_eq _ _).mp c59
        refine And.intro (fun h9 => absurd h9 (by decide)) (fun _ => ?_)
        refine And.intro (fun c61 => ?_) (fun c61 => ?_)
        · skip
          have c61 := (fa_eq _ _).mp c61
          have f62 := tp_r m_workPicks
          exact ts_X10_workOf_147 m_fruits m_standings m_wanted m_now m_fork m_told m_hand m_moves m_handSeconds h_m_fruits h_m_standings h_m_wanted e0_m_now e1_m_now h_m_fork e0_m_told e1_m_told h_m_hand h_m_moves h_m_handSeconds hc0 hc1 hpost hK57 hKn x1 x2 x4 m_workMoves m_workPicks m_workDowns m_load (by omega) (by omega) (by omega) (by omega) (by omega) (by omega) (by omega)
        · skip
          have c61 := mt (fa_eq _ _).mpr c61
          intro v63 ev63
          have f64 : Int32.toInt (16 * x4) = Int32.toInt x4 * 16 := ta_cmul _ _ (by decide) (by omega)
          rw [← ev63] at f64
          intro v65 ev65
          have f66 : Int32.toInt (v63 + x2) = Int32.toInt v63 + Int32.toInt x2 := ta_add _ _ (by omega)
          rw [← ev65] at f66
          refine And.intro (t_in (by omega)) ?_
          intro v67 ev67
          have f68 := h_m_handSeconds v65.toNatClampNeg
          have hv67 := congrArg Int32.toInt ev67
          intro v69 ev69
          have f70 : Int32.toInt (16 * x3) = Int32.toInt x3 * 16 := ta_cmul _ _ (by decide) (by omega)
          rw [← ev69] at f70
          intro v71 ev71
          have f72 : Int32.toInt (v69 + x2) = Int32.toInt v69 + Int32.toInt x2 := ta_add _ _ (by omega)
          rw [← ev71] at f72
          refine And.intro (t_in (by omega)) ?_
          have f74 := h_m_handSeconds v71.toNatClampNeg
          refine And.intro (fun c73 => ?_) (fun c73 => ?_)
          · skip
            have c73 := (fa_le _ _).mp c73
            have f75 := tp_r m_workPicks
            exact ts_X10_workOf_150 m_fruits m_standings m_wanted m_now m_fork m_told m_hand m_moves m_handSeconds h_m_fruits h_m_standings h_m_wanted e0_m_now e1_m_now h_m_fork e0_m_told e1_m_told h_m_hand h_m_moves h_m_handSeconds hc0 hc1 hpost hK57 hKn x1 x2 x3 x4 m_workMoves m_workPicks m_workDowns m_load (by omega) (by omega) (by omega) (by omega) (by omega) (by omega) (by omega) (by omega)
          · skip
            have c73 := mt (fa_le _ _).mpr c73
            have f76 := tp_r m_workPicks
            exact ts_X10_workOf_147 m_fruits m_standings m_wanted m_now m_fork m_told m_hand m_moves m_handSeconds h_m_fruits h_m_standings h_m_wanted e0_m_now e1_m_now h_m_fork e0_m_told e1_m_told h_m_hand h_m_moves h_m_handSeconds hc0 hc1 hpost hK57 hKn x1 x2 x4 m_workMoves m_workPicks m_workDowns m_load (by omega) (by omega) (by omega) (by omega) (by omega) (by omega) (by omega)
set_option maxHeartbeats 8000000 in
set_option maxRecDepth 200000 in
theorem tb_X10_workOf_84 {post : Int32 → Int32 → Int32 → Int32 → (Nat → Int32) → Prop} {SB : Int} {K57 : Int32 → Int32 → Int32 → Int32 → Int32 → (Nat → Int32) → Prop} {n57 : Int} (m_fruits : Int32) (m_standings : Int32) (m_wanted : Int32) (m_now : Nat → Int32) (m_fork : Nat → Int32) (m_told : Nat → Int32) (m_hand : Nat → Int32) (m_moves : Nat → Int32) (m_handSeconds : Nat → Int32) (h_m_fruits : 0 ≤ Int32.toInt m_fruits ∧ Int32.toInt m_fruits ≤ 16) (h_m_standings : 0 ≤ Int32.toInt m_standings ∧ Int32.toInt m_standings ≤ 8) (h_m_wanted : 0 ≤ Int32.toInt m_wanted ∧ Int32.toInt m_wanted ≤ 65535) (e0_m_now : ∀ k : Nat, k = 17 → -1 ≤ Int32.toInt (m_now k) ∧ Int32.toInt (m_now k) ≤ SB) (e1_m_now : ∀ k : Nat, k = 19 → 0 ≤ Int32.toInt (m_now k) ∧ Int32.toInt (m_now k) ≤ 9) (h_m_fork : ∀ k : Nat, 0 ≤ Int32.toInt (m_fork k) ∧ Int32.toInt (m_fork k) ≤ 99) (e0_m_told : ∀ k : Nat, k = 4 → 1 ≤ Int32.toInt (m_told k) ∧ Int32.toInt (m_told k) ≤ 30) (e1_m_told : ∀ k : Nat, k = 3 → 0 ≤ Int32.toInt (m_told k) ∧ Int32.toInt (m_told k) ≤ 9) (h_m_hand : ∀ k : Nat, 0 ≤ Int32.toInt (m_hand k) ∧ Int32.toInt (m_hand k) ≤ 65535) (h_m_moves : ∀ k : Nat, 0 ≤ Int32.toInt (m_moves k) ∧ Int32.toInt (m_moves k) ≤ 1000000) (h_m_handSeconds : ∀ k : Nat, 0 ≤ Int32.toInt (m_handSeconds k) ∧ Int32.toInt (m_handSeconds k) ≤ 99) (hc0 : -1 ≤ SB ∧ SB ≤ 7) (hc1 : (Int32.toInt m_standings ≤ 0 ∧ SB = 0) ∨ (1 ≤ Int32.toInt m_standings ∧ SB = Int32.toInt m_standings - 1)) (hpost : ∀ (r : Int32) (m_workMoves' : Int32) (m_workPicks' : Int32) (m_workDowns' : Int32) (m_load' : Nat → Int32), (0 ≤ Int32.toInt m_workMoves' ∧ Int32.toInt m_workMoves' ≤ 1000000) → post r m_workMoves' m_workPicks' m_workDowns' m_load') (hK57 : ∀ (x1 : Int32) (x2 : Int32) (m_workMoves : Int32) (m_workPicks : Int32) (m_workDowns : Int32) (m_load : Nat → Int32), (0 ≤ Int32.toInt x1 ∧ Int32.toInt x1 ≤ 255) → (0 ≤ Int32.toInt x2 ∧ Int32.toInt x2 ≤ 16) → (0 ≤ Int32.toInt m_workMoves ∧ Int32.toInt m_workMoves ≤ 1000000) → (0 ≤ Int32.toInt m_workDowns ∧ Int32.toInt m_workDowns ≤ 0) → (16 - Int32.toInt x2 < n57) → K57 x1 x2 m_workMoves m_workPicks m_workDowns m_load) : ∀ (n : Nat) (x1 : Int32) (x2 : Int32) (x3 : Int32) (x4 : Int32) (m_workMoves : Int32) (m_workPicks : Int32) (m_workDowns : Int32) (m_load : Nat → Int32), (0 ≤ Int32.toInt x1 ∧ Int32.toInt x1 ≤ 255) → (0 ≤ Int32.toInt x2 ∧ Int32.toInt x2 ≤ 15) → (-1 ≤ Int32.toInt x3 ∧ Int32.toInt x3 ≤ 7) → (0 ≤ Int32.toInt x4 ∧ Int32.toInt x4 ≤ 8) → (0 ≤ Int32.toInt m_workMoves ∧ Int32.toInt m_workMoves ≤ 1000000) → (0 ≤ Int32.toInt m_workDowns ∧ Int32.toInt m_workDowns ≤ 0) → (16 - Int32.toInt x2 ≤ n57) → (8 - Int32.toInt x4 < (n : Int)) → wb_X10_workOf_84 post K57 m_fruits m_standings m_wanted m_now m_fork m_told m_hand m_moves m_handSeconds n x1 x2 x3 x4 m_workMoves m_workPicks m_workDowns m_load := by
  intro n
  induction n with
  | zero =>
    intro x1 x2 x3 x4 m_workMoves m_workPicks m_workDowns m_load h_x1 h_x2 h_x3 h_x4 h_m_workMoves h_m_workDowns hn57 hm
    exfalso; omega
  | succ n ih =>
    intro x1 x2 x3 x4 m_workMoves m_workPicks m_workDowns m_load h_x1 h_x2 h_x3 h_x4 h_m_workMoves h_m_workDowns hn57 hm
    exact ts_X10_workOf_84 m_fruits m_standings m_wanted m_now m_fork m_told m_hand m_moves m_handSeconds h_m_fruits h_m_standings h_m_wanted e0_m_now e1_m_now h_m_fork e0_m_told e1_m_told h_m_hand h_m_moves h_m_handSeconds hc0 hc1 hpost hK57 ih x1 x2 x3 x4 m_workMoves m_workPicks m_workDowns m_load h_x1 h_x2 h_x3 h_x4 h_m_workMoves h_m_workDowns hn57 (by omega)
set_option maxHeartbeats 8000000 in
set_option maxRecDepth 200000 in
theorem ts_X10_workOf_57 {post : Int32 → Int32 → Int32 → Int32 → (Nat → Int32) → Prop} {SB : Int} {next : Int32 → Int32 → Int32 → Int32 → Int32 → (Nat → Int32) → Prop} {n57 : Int} (m_fruits : Int32) (m_standings : Int32) (m_wanted : Int32) (m_now : Nat → Int32) (m_fork : Nat → Int32) (m_told : Nat → Int32) (m_hand : Nat → Int32) (m_moves : Nat → Int32) (m_handSeconds : Nat → Int32) (h_m_fruits : 0 ≤ Int32.toInt m_fruits ∧ Int32.toInt m_fruits ≤ 16) (h_m_standings : 0 ≤ Int32.toInt m_standings ∧ Int32.toInt m_standings ≤ 8) (h_m_wanted : 0 ≤ Int32.toInt m_wanted ∧ Int32.toInt m_wanted ≤ 65535) (e0_m_now : ∀ k : Nat, k = 17 → -1 ≤ Int32.toInt (m_now k) ∧ Int32.toInt (m_now k) ≤ SB) (e1_m_now : ∀ k : Nat, k = 19 → 0 ≤ Int32.toInt (m_now k) ∧ Int32.toInt (m_now k) ≤ 9) (h_m_fork : ∀ k : Nat, 0 ≤ Int32.toInt (m_fork k) ∧ Int32.toInt (m_fork k) ≤ 99) (e0_m_told : ∀ k : Nat, k = 4 → 1 ≤ Int32.toInt (m_told k) ∧ Int32.toInt (m_told k) ≤ 30) (e1_m_told : ∀ k : Nat, k = 3 → 0 ≤ Int32.toInt (m_told k) ∧ Int32.toInt (m_told k) ≤ 9) (h_m_hand : ∀ k : Nat, 0 ≤ Int32.toInt (m_hand k) ∧ Int32.toInt (m_hand k) ≤ 65535) (h_m_moves : ∀ k : Nat, 0 ≤ Int32.toInt (m_moves k) ∧ Int32.toInt (m_moves k) ≤ 1000000) (h_m_handSeconds : ∀ k : Nat, 0 ≤ Int32.toInt (m_handSeconds k) ∧ Int32.toInt (m_handSeconds k) ≤ 99) (hc0 : -1 ≤ SB ∧ SB ≤ 7) (hc1 : (Int32.toInt m_standings ≤ 0 ∧ SB = 0) ∨ (1 ≤ Int32.toInt m_standings ∧ SB = Int32.toInt m_standings - 1)) (hpost : ∀ (r : Int32) (m_workMoves' : Int32) (m_workPicks' : Int32) (m_workDowns' : Int32) (m_load' : Nat → Int32), (0 ≤ Int32.toInt m_workMoves' ∧ Int32.toInt m_workMoves' ≤ 1000000) → post r m_workMoves' m_workPicks' m_workDowns' m_load') (hKn : ∀ (x1 : Int32) (x2 : Int32) (m_workMoves : Int32) (m_workPicks : Int32) (m_workDowns : Int32) (m_load : Nat → Int32), (0 ≤ Int32.toInt x1 ∧ Int32.toInt x1 ≤ 255) → (0 ≤ Int32.toInt x2 ∧ Int32.toInt x2 ≤ 16) → (0 ≤ Int32.toInt m_workMoves ∧ Int32.toInt m_workMoves ≤ 1000000) → (0 ≤ Int32.toInt m_workDowns ∧ Int32.toInt m_workDowns ≤ 0) → (16 - Int32.toInt x2 < n57) → next x1 x2 m_workMoves m_workPicks m_workDowns m_load) (x1 : Int32) (x2 : Int32) (m_workMoves : Int32) (m_workPicks : Int32) (m_workDowns : Int32) (m_load : Nat → Int32) (h_x1 : 0 ≤ Int32.toInt x1 ∧ Int32.toInt x1 ≤ 255) (h_x2 : 0 ≤ Int32.toInt x2 ∧ Int32.toInt x2 ≤ 16) (h_m_workMoves : 0 ≤ Int32.toInt m_workMoves ∧ Int32.toInt m_workMoves ≤ 1000000) (h_m_workDowns : 0 ≤ Int32.toInt m_workDowns ∧ Int32.toInt m_workDowns ≤ 0) (hn57 : 16 - Int32.toInt x2 ≤ n57) : ws_X10_workOf_57 post next m_fruits m_standings m_wanted m_now m_fork m_told m_hand m_moves m_handSeconds x1 x2 m_workMoves m_workPicks m_workDowns m_load := by
  have l0 : Int32.toInt ((-1) : Int32) = -1 := (by decide)
  have l1 : Int32.toInt (0 : Int32) = 0 := (by decide)
  have l2 : Int32.toInt (1 : Int32) = 1 := (by decide)
  refine And.intro (fun c77 => ?_) (fun c77 => ?_)
  · skip
    have c77 := (fa_le _ _).mp c77
    have f78 := tp_r m_workPicks
    exact ⟨10, tb_X10_workOf_202 m_fruits m_standings m_wanted m_now m_fork m_told m_hand m_moves m_handSeconds h_m_fruits h_m_standings h_m_wanted e0_m_now e1_m_now h_m_fork e0_m_told e1_m_told h_m_hand h_m_moves h_m_handSeconds hc0 hc1 hpost _ 0 m_workMoves m_workPicks m_workDowns m_load (by omega) (by omega) (by omega)⟩
  · skip
    have c77 := mt (fa_le _ _).mpr c77
    intro v79 ev79
    have f80 := ti_shr m_wanted x2 (by omega)
    have hv79 := congrArg Int32.toInt ev79
    intro v81 ev81
    have f82 := ti_andr v79 1 (by omega)
    have f83 := ti_andl v79 1 (by omega)
    have hv81 := congrArg Int32.toInt ev81
    refine And.intro (fun c84 => ?_) (fun c84 => ?_)
    · skip
      have c84 := mt (fa_eq _ _).mpr c84
      refine And.intro (fun h9 => absurd h9 (by decide)) (fun _ => ?_)
      have f85 := tp_r m_workPicks
      exact ts_X10_workOf_194 m_fruits m_standings m_wanted m_now m_fork m_told m_hand m_moves m_handSeconds h_m_fruits h_m_standings h_m_wanted e0_m_now e1_m_now h_m_fork e0_m_told e1_m_told h_m_hand h_m_moves h_m_handSeconds hc0 hc1 hpost hKn x1 x2 m_workMoves m_workPicks m_workDowns m_load (by omega) (by omega) (by omega) (by omega) (by omega)
    · skip
      have c84 := (fa_eq _ _).mp c84
      refine And.intro (fun _ => ?_) (fun h9 => absurd h9 (by decide))
      have f86 := tp_r m_workPicks
      exact ⟨10, tb_X10_workOf_84 m_fruits m_standings m_wanted m_now m_fork m_told m_hand m_moves m_handSeconds h_m_fruits h_m_standings h_m_wanted e0_m_now e1_m_now h_m_fork e0_m_told e1_m_told h_m_hand h_m_moves h_m_handSeconds hc0 hc1 hpost hKn _ x1 x2 (-1) 0 m_workMoves m_workPicks m_workDowns m_load (by omega) (by omega) (by omega) (by omega) (by omega) (by omega) (by omega) (by omega)⟩
set_option maxHeartbeats 8000000 in
set_option maxRecDepth 200000 in
theorem tb_X10_workOf_57 {post : Int32 → Int32 → Int32 → Int32 → (Nat → Int32) → Prop} {SB : Int} (m_fruits : Int32) (m_standings : Int32) (m_wanted : Int32) (m_now : Nat → Int32) (m_fork : Nat → Int32) (m_told : Nat → Int32) (m_hand : Nat → Int32) (m_moves : Nat → Int32) (m_handSeconds : Nat → Int32) (h_m_fruits : 0 ≤ Int32.toInt m_fruits ∧ Int32.toInt m_fruits ≤ 16) (h_m_standings : 0 ≤ Int32.toInt m_standings ∧ Int32.toInt m_standings ≤ 8) (h_m_wanted : 0 ≤ Int32.toInt m_wanted ∧ Int32.toInt m_wanted ≤ 65535) (e0_m_now : ∀ k : Nat, k = 17 → -1 ≤ Int32.toInt (m_now k) ∧ Int32.toInt (m_now k) ≤ SB) (e1_m_now : ∀ k : Nat, k = 19 → 0 ≤ Int32.toInt (m_now k) ∧ Int32.toInt (m_now k) ≤ 9) (h_m_fork : ∀ k : Nat, 0 ≤ Int32.toInt (m_fork k) ∧ Int32.toInt (m_fork k) ≤ 99) (e0_m_told : ∀ k : Nat, k = 4 → 1 ≤ Int32.toInt (m_told k) ∧ Int32.toInt (m_told k) ≤ 30) (e1_m_told : ∀ k : Nat, k = 3 → 0 ≤ Int32.toInt (m_told k) ∧ Int32.toInt (m_told k) ≤ 9) (h_m_hand : ∀ k : Nat, 0 ≤ Int32.toInt (m_hand k) ∧ Int32.toInt (m_hand k) ≤ 65535) (h_m_moves : ∀ k : Nat, 0 ≤ Int32.toInt (m_moves k) ∧ Int32.toInt (m_moves k) ≤ 1000000) (h_m_handSeconds : ∀ k : Nat, 0 ≤ Int32.toInt (m_handSeconds k) ∧ Int32.toInt (m_handSeconds k) ≤ 99) (hc0 : -1 ≤ SB ∧ SB ≤ 7) (hc1 : (Int32.toInt m_standings ≤ 0 ∧ SB = 0) ∨ (1 ≤ Int32.toInt m_standings ∧ SB = Int32.toInt m_standings - 1)) (hpost : ∀ (r : Int32) (m_workMoves' : Int32) (m_workPicks' : Int32) (m_workDowns' : Int32) (m_load' : Nat → Int32), (0 ≤ Int32.toInt m_workMoves' ∧ Int32.toInt m_workMoves' ≤ 1000000) → post r m_workMoves' m_workPicks' m_workDowns' m_load') : ∀ (n : Nat) (x1 : Int32) (x2 : Int32) (m_workMoves : Int32) (m_workPicks : Int32) (m_workDowns : Int32) (m_load : Nat → Int32), (0 ≤ Int32.toInt x1 ∧ Int32.toInt x1 ≤ 255) → (0 ≤ Int32.toInt x2 ∧ Int32.toInt x2 ≤ 16) → (0 ≤ Int32.toInt m_workMoves ∧ Int32.toInt m_workMoves ≤ 1000000) → (0 ≤ Int32.toInt m_workDowns ∧ Int32.toInt m_workDowns ≤ 0) → (16 - Int32.toInt x2 < (n : Int)) → wb_X10_workOf_57 post m_fruits m_standings m_wanted m_now m_fork m_told m_hand m_moves m_handSeconds n x1 x2 m_workMoves m_workPicks m_workDowns m_load := by
  intro n
  induction n with
  | zero =>
    intro x1 x2 m_workMoves m_workPicks m_workDowns m_load h_x1 h_x2 h_m_workMoves h_m_workDowns hm
    exfalso; omega
  | succ n ih =>
    intro x1 x2 m_workMoves m_workPicks m_workDowns m_load h_x1 h_x2 h_m_workMoves h_m_workDowns hm
    exact ts_X10_workOf_57 m_fruits m_standings m_wanted m_now m_fork m_told m_hand m_moves m_handSeconds h_m_fruits h_m_standings h_m_wanted e0_m_now e1_m_now h_m_fork e0_m_told e1_m_told h_m_hand h_m_moves h_m_handSeconds hc0 hc1 hpost ih x1 x2 m_workMoves m_workPicks m_workDowns m_load h_x1 h_x2 h_m_workMoves h_m_workDowns (by omega)
set_option maxHeartbeats 8000000 in
set_option maxRecDepth 200000 in
theorem ts_X10_workOf_36 {post : Int32 → Int32 → Int32 → Int32 → (Nat → Int32) → Prop} {SB : Int} {next : Int32 → Int32 → Int32 → Int32 → Int32 → (Nat → Int32) → Prop} {n36 : Int} (m_fruits : Int32) (m_standings : Int32) (m_wanted : Int32) (m_now : Nat → Int32) (m_fork : Nat → Int32) (m_told : Nat → Int32) (m_hand : Nat → Int32) (m_moves : Nat → Int32) (m_handSeconds : Nat → Int32) (h_m_fruits : 0 ≤ Int32.toInt m_fruits ∧ Int32.toInt m_fruits ≤ 16) (h_m_standings : 0 ≤ Int32.toInt m_standings ∧ Int32.toInt m_standings ≤ 8) (h_m_wanted : 0 ≤ Int32.toInt m_wanted ∧ Int32.toInt m_wanted ≤ 65535) (e0_m_now : ∀ k : Nat, k = 17 → -1 ≤ Int32.toInt (m_now k) ∧ Int32.toInt (m_now k) ≤ SB) (e1_m_now : ∀ k : Nat, k = 19 → 0 ≤ Int32.toInt (m_now k) ∧ Int32.toInt (m_now k) ≤ 9) (h_m_fork : ∀ k : Nat, 0 ≤ Int32.toInt (m_fork k) ∧ Int32.toInt (m_fork k) ≤ 99) (e0_m_told : ∀ k : Nat, k = 4 → 1 ≤ Int32.toInt (m_told k) ∧ Int32.toInt (m_told k) ≤ 30) (e1_m_told : ∀ k : Nat, k = 3 → 0 ≤ Int32.toInt (m_told k) ∧ Int32.toInt (m_told k) ≤ 9) (h_m_hand : ∀ k : Nat, 0 ≤ Int32.toInt (m_hand k) ∧ Int32.toInt (m_hand k) ≤ 65535) (h_m_moves : ∀ k : Nat, 0 ≤ Int32.toInt (m_moves k) ∧ Int32.toInt (m_moves k) ≤ 1000000) (h_m_handSeconds : ∀ k : Nat, 0 ≤ Int32.toInt (m_handSeconds k) ∧ Int32.toInt (m_handSeconds k) ≤ 99) (hc0 : -1 ≤ SB ∧ SB ≤ 7) (hc1 : (Int32.toInt m_standings ≤ 0 ∧ SB = 0) ∨ (1 ≤ Int32.toInt m_standings ∧ SB = Int32.toInt m_standings - 1)) (hpost : ∀ (r : Int32) (m_workMoves' : Int32) (m_workPicks' : Int32) (m_workDowns' : Int32) (m_load' : Nat → Int32), (0 ≤ Int32.toInt m_workMoves' ∧ Int32.toInt m_workMoves' ≤ 1000000) → post r m_workMoves' m_workPicks' m_workDowns' m_load') (hKn : ∀ (x1 : Int32) (x2 : Int32) (m_workMoves : Int32) (m_workPicks : Int32) (m_workDowns : Int32) (m_load : Nat → Int32), (0 ≤ Int32.toInt x1 ∧ Int32.toInt x1 ≤ 255) → (0 ≤ Int32.toInt x2 ∧ Int32.toInt x2 ≤ 8) → (0 ≤ Int32.toInt m_workMoves ∧ Int32.toInt m_workMoves ≤ 1000000) → (0 ≤ Int32.toInt m_workPicks ∧ Int32.toInt m_workPicks ≤ 0) → (0 ≤ Int32.toInt m_workDowns ∧ Int32.toInt m_workDowns ≤ 0) → (8 - Int32.toInt x2 < n36) → next x1 x2 m_workMoves m_workPicks m_workDowns m_load) (x1 : Int32) (x2 : Int32) (m_workMoves : Int32) (m_workPicks : Int32) (m_workDowns : Int32) (m_load : Nat → Int32) (h_x1 : 0 ≤ Int32.toInt x1 ∧ Int32.toInt x1 ≤ 255) (h_x2 : 0 ≤ Int32.toInt x2 ∧ Int32.toInt x2 ≤ 8) (h_m_workMoves : 0 ≤ Int32.toInt m_workMoves ∧ Int32.toInt m_workMoves ≤ 1000000) (h_m_workPicks : 0 ≤ Int32.toInt m_workPicks ∧ Int32.toInt m_workPicks ≤ 0) (h_m_workDowns : 0 ≤ Int32.toInt m_workDowns ∧ Int32.toInt m_workDowns ≤ 0) (hn36 : 8 - Int32.toInt x2 ≤ n36) : ws_X10_workOf_36 post next m_fruits m_standings m_wanted m_now m_fork m_told m_hand m_moves m_handSeconds x1 x2 m_workMoves m_workPicks m_workDowns m_load := by
  have l0 : Int32.toInt (0 : Int32) = 0 := (by decide)
  have l1 : Int32.toInt (1 : Int32) = 1 := (by decide)
  have l2 : Int32.toInt (8 : Int32) = 8 := (by decide)
  refine And.intro (fun c87 => ?_) (fun c87 => ?_)
  · skip
    have c87 := (fa_le _ _).mp c87
    exact ⟨18, tb_X10_workOf_57 m_fruits m_standings m_wanted m_now m_fork m_told m_hand m_moves m_handSeconds h_m_fruits h_m_standings h_m_wanted e0_m_now e1_m_now h_m_fork e0_m_told e1_m_told h_m_hand h_m_moves h_m_handSeconds hc0 hc1 hpost _ x1 0 m_workMoves m_workPicks m_workDowns m_load (by omega) (by omega) (by omega) (by omega) (by omega)⟩
  · skip
    have c87 := mt (fa_le _ _).mpr c87
    refine And.intro (t_in (by omega)) ?_
    intro v88 ev88
    have f89 : Int32.toInt (x2 + 1) = Int32.toInt x2 + Int32.toInt (1 : Int32) := ta_add _ _ (by omega)
    rw [← ev88] at f89
    exact hKn x1 v88 m_workMoves m_workPicks m_workDowns (upd m_load x2.toNatClampNeg 0) (by omega) (by omega) (by omega) (by omega) (by omega) (by omega)
set_option maxHeartbeats 8000000 in
set_option maxRecDepth 200000 in
theorem tb_X10_workOf_36 {post : Int32 → Int32 → Int32 → Int32 → (Nat → Int32) → Prop} {SB : Int} (m_fruits : Int32) (m_standings : Int32) (m_wanted : Int32) (m_now : Nat → Int32) (m_fork : Nat → Int32) (m_told : Nat → Int32) (m_hand : Nat → Int32) (m_moves : Nat → Int32) (m_handSeconds : Nat → Int32) (h_m_fruits : 0 ≤ Int32.toInt m_fruits ∧ Int32.toInt m_fruits ≤ 16) (h_m_standings : 0 ≤ Int32.toInt m_standings ∧ Int32.toInt m_standings ≤ 8) (h_m_wanted : 0 ≤ Int32.toInt m_wanted ∧ Int32.toInt m_wanted ≤ 65535) (e0_m_now : ∀ k : Nat, k = 17 → -1 ≤ Int32.toInt (m_now k) ∧ Int32.toInt (m_now k) ≤ SB) (e1_m_now : ∀ k : Nat, k = 19 → 0 ≤ Int32.toInt (m_now k) ∧ Int32.toInt (m_now k) ≤ 9) (h_m_fork : ∀ k : Nat, 0 ≤ Int32.toInt (m_fork k) ∧ Int32.toInt (m_fork k) ≤ 99) (e0_m_told : ∀ k : Nat, k = 4 → 1 ≤ Int32.toInt (m_told k) ∧ Int32.toInt (m_told k) ≤ 30) (e1_m_told : ∀ k : Nat, k = 3 → 0 ≤ Int32.toInt (m_told k) ∧ Int32.toInt (m_told k) ≤ 9) (h_m_hand : ∀ k : Nat, 0 ≤ Int32.toInt (m_hand k) ∧ Int32.toInt (m_hand k) ≤ 65535) (h_m_moves : ∀ k : Nat, 0 ≤ Int32.toInt (m_moves k) ∧ Int32.toInt (m_moves k) ≤ 1000000) (h_m_handSeconds : ∀ k : Nat, 0 ≤ Int32.toInt (m_handSeconds k) ∧ Int32.toInt (m_handSeconds k) ≤ 99) (hc0 : -1 ≤ SB ∧ SB ≤ 7) (hc1 : (Int32.toInt m_standings ≤ 0 ∧ SB = 0) ∨ (1 ≤ Int32.toInt m_standings ∧ SB = Int32.toInt m_standings - 1)) (hpost : ∀ (r : Int32) (m_workMoves' : Int32) (m_workPicks' : Int32) (m_workDowns' : Int32) (m_load' : Nat → Int32), (0 ≤ Int32.toInt m_workMoves' ∧ Int32.toInt m_workMoves' ≤ 1000000) → post r m_workMoves' m_workPicks' m_workDowns' m_load') : ∀ (n : Nat) (x1 : Int32) (x2 : Int32) (m_workMoves : Int32) (m_workPicks : Int32) (m_workDowns : Int32) (m_load : Nat → Int32), (0 ≤ Int32.toInt x1 ∧ Int32.toInt x1 ≤ 255) → (0 ≤ Int32.toInt x2 ∧ Int32.toInt x2 ≤ 8) → (0 ≤ Int32.toInt m_workMoves ∧ Int32.toInt m_workMoves ≤ 1000000) → (0 ≤ Int32.toInt m_workPicks ∧ Int32.toInt m_workPicks ≤ 0) → (0 ≤ Int32.toInt m_workDowns ∧ Int32.toInt m_workDowns ≤ 0) → (8 - Int32.toInt x2 < (n : Int)) → wb_X10_workOf_36 post m_fruits m_standings m_wanted m_now m_fork m_told m_hand m_moves m_handSeconds n x1 x2 m_workMoves m_workPicks m_workDowns m_load := by
  intro n
  induction n with
  | zero =>
    intro x1 x2 m_workMoves m_workPicks m_workDowns m_load h_x1 h_x2 h_m_workMoves h_m_workPicks h_m_workDowns hm
    exfalso; omega
  | succ n ih =>
    intro x1 x2 m_workMoves m_workPicks m_workDowns m_load h_x1 h_x2 h_m_workMoves h_m_workPicks h_m_workDowns hm
    exact ts_X10_workOf_36 m_fruits m_standings m_wanted m_now m_fork m_told m_hand m_moves m_handSeconds h_m_fruits h_m_standings h_m_wanted e0_m_now e1_m_now h_m_fork e0_m_told e1_m_told h_m_hand h_m_moves h_m_handSeconds hc0 hc1 hpost ih x1 x2 m_workMoves m_workPicks m_workDowns m_load h_x1 h_x2 h_m_workMoves h_m_workPicks h_m_workDowns (by omega)
set_option maxHeartbeats 8000000 in
set_option maxRecDepth 200000 in
theorem t_X10_workOf {post : Int32 → Int32 → Int32 → Int32 → (Nat → Int32) → Prop} {SB : Int} {p0 : Int32} {m_fruits : Int32} {m_standings : Int32} {m_wanted : Int32} {m_workMoves : Int32} {m_workPicks : Int32} {m_workDowns : Int32} {m_now : Nat → Int32} {m_fork : Nat → Int32} {m_told : Nat → Int32} {m_hand : Nat → Int32} {m_moves : Nat → Int32} {m_handSeconds : Nat → Int32} {m_load : Nat → Int32} (h_p0 : 0 ≤ Int32.toInt p0 ∧ Int32.toInt p0 ≤ 255) (h_m_fruits : 0 ≤ Int32.toInt m_fruits ∧ Int32.toInt m_fruits ≤ 16) (h_m_standings : 0 ≤ Int32.toInt m_standings ∧ Int32.toInt m_standings ≤ 8) (h_m_wanted : 0 ≤ Int32.toInt m_wanted ∧ Int32.toInt m_wanted ≤ 65535) (h_m_workMoves : 0 ≤ Int32.toInt m_workMoves ∧ Int32.toInt m_workMoves ≤ 1000000) (e0_m_now : ∀ k : Nat, k = 17 → -1 ≤ Int32.toInt (m_now k) ∧ Int32.toInt (m_now k) ≤ SB) (e1_m_now : ∀ k : Nat, k = 19 → 0 ≤ Int32.toInt (m_now k) ∧ Int32.toInt (m_now k) ≤ 9) (h_m_fork : ∀ k : Nat, 0 ≤ Int32.toInt (m_fork k) ∧ Int32.toInt (m_fork k) ≤ 99) (e0_m_told : ∀ k : Nat, k = 4 → 1 ≤ Int32.toInt (m_told k) ∧ Int32.toInt (m_told k) ≤ 30) (e1_m_told : ∀ k : Nat, k = 3 → 0 ≤ Int32.toInt (m_told k) ∧ Int32.toInt (m_told k) ≤ 9) (h_m_hand : ∀ k : Nat, 0 ≤ Int32.toInt (m_hand k) ∧ Int32.toInt (m_hand k) ≤ 65535) (h_m_moves : ∀ k : Nat, 0 ≤ Int32.toInt (m_moves k) ∧ Int32.toInt (m_moves k) ≤ 1000000) (h_m_handSeconds : ∀ k : Nat, 0 ≤ Int32.toInt (m_handSeconds k) ∧ Int32.toInt (m_handSeconds k) ≤ 99) (hc0 : -1 ≤ SB ∧ SB ≤ 7) (hc1 : (Int32.toInt m_standings ≤ 0 ∧ SB = 0) ∨ (1 ≤ Int32.toInt m_standings ∧ SB = Int32.toInt m_standings - 1)) (hpost : ∀ (r : Int32) (m_workMoves' : Int32) (m_workPicks' : Int32) (m_workDowns' : Int32) (m_load' : Nat → Int32), (0 ≤ Int32.toInt m_workMoves' ∧ Int32.toInt m_workMoves' ≤ 1000000) → post r m_workMoves' m_workPicks' m_workDowns' m_load') : wp_X10_workOf post p0 m_fruits m_standings m_wanted m_workMoves m_workPicks m_workDowns m_now m_fork m_told m_hand m_moves m_handSeconds m_load := by
  have l0 : Int32.toInt ((-1) : Int32) = -1 := (by decide)
  have l1 : Int32.toInt (0 : Int32) = 0 := (by decide)
  have l2 : Int32.toInt (17 : Int32) = 17 := (by decide)
  have l3 : Int32.toInt (8 : Int32) = 8 := (by decide)
  have q90 := e0_m_now (17 : Int32).toNatClampNeg (by have e9 : (17 : Int32).toNatClampNeg = (Int32.toInt (17 : Int32)).toNat := rfl; omega)
  intro v91 ev91
  have hv91 := congrArg Int32.toInt ev91
  refine And.intro (fun c93 => ?_) (fun c93 => ?_)
  · skip
    have c93 := mt (fa_eq _ _).mpr c93
    have q94 := e0_m_now (17 : Int32).toNatClampNeg (by have e9 : (17 : Int32).toNatClampNeg = (Int32.toInt (17 : Int32)).toNat := rfl; omega)
    intro v95 ev95
    have hv95 := congrArg Int32.toInt ev95
    refine And.intro (fun c96 => ?_) (fun c96 => ?_)
    · skip
      have c96 := mt (fa_eq _ _).mpr c96
      have q97 := e0_m_now (17 : Int32).toNatClampNeg (by have e9 : (17 : Int32).toNatClampNeg = (Int32.toInt (17 : Int32)).toNat := rfl; omega)
      intro v98 ev98
      have f99 := ti_shl1 7 128 (m_now (17 : Int32).toNatClampNeg) (by decide) (by omega)
      have hv98 := congrArg Int32.toInt ev98
      intro v100 ev100
      have f101 := ti_shl8 v91 (by omega)
      have hv100 := congrArg Int32.toInt ev100
      intro v102 ev102
      have f105 := ti_andl p0 (v98 ^^^ (-1)) (by omega)
      have f103 : Int32.toInt (v100 + (p0 &&& (v98 ^^^ (-1)))) = Int32.toInt v100 + Int32.toInt (p0 &&& (v98 ^^^ (-1))) := ta_add _ _ (by omega)
      rw [← ev102] at f103
      refine And.intro (t_in (by omega)) ?_
      have f106 := h_m_moves v102.toNatClampNeg
      exact ⟨10, tb_X10_workOf_36 m_fruits m_standings m_wanted m_now m_fork m_told m_hand m_moves m_handSeconds h_m_fruits h_m_standings h_m_wanted e0_m_now e1_m_now h_m_fork e0_m_told e1_m_told h_m_hand h_m_moves h_m_handSeconds hc0 hc1 hpost _ p0 0 (m_moves v102.toNatClampNeg) 0 0 m_load (by omega) (by omega) (by omega) (by omega) (by omega) (by omega)⟩
    · skip
      have c96 := (fa_eq _ _).mp c96
      exfalso; omega
  · skip
    have c93 := (fa_eq _ _).mp c93
    have q107 := e0_m_now (17 : Int32).toNatClampNeg (by have e9 : (17 : Int32).toNatClampNeg = (Int32.toInt (17 : Int32)).toNat := rfl; omega)
    intro v108 ev108
    have hv108 := congrArg Int32.toInt ev108
    refine And.intro (fun c109 => ?_) (fun c109 => ?_)
    · skip
      have c109 := mt (fa_eq _ _).mpr c109
      exfalso; omega
    · skip
      have c109 := (fa_eq _ _).mp c109
      intro v110 ev110
      have f111 := ti_shl8 8 (by omega)
      have hv110 := congrArg Int32.toInt ev110
      intro v112 ev112
      have f113 : Int32.toInt (v110 + p0) = Int32.toInt v110 + Int32.toInt p0 := ta_add _ _ (by omega)
      rw [← ev112] at f113
      refine And.intro (t_in (by omega)) ?_
      have f114 := h_m_moves v112.toNatClampNeg
      exact ⟨10, tb_X10_workOf_36 m_fruits m_standings m_wanted m_now m_fork m_told m_hand m_moves m_handSeconds h_m_fruits h_m_standings h_m_wanted e0_m_now e1_m_now h_m_fork e0_m_told e1_m_told h_m_hand h_m_moves h_m_handSeconds hc0 hc1 hpost _ p0 0 (m_moves v112.toNatClampNeg) 0 0 m_load (by omega) (by omega) (by omega) (by omega) (by omega) (by omega)⟩
