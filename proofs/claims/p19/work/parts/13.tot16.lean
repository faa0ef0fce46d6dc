set_option maxHeartbeats 8000000 in
set_option maxRecDepth 200000 in
theorem ts_X10_route_105 {post : Int32 → Int32 → Int32 → (Nat → Int32) → (Nat → Int32) → Prop} {SB : Int} {K54 : Int32 → Int32 → Int32 → Int32 → Int32 → (Nat → Int32) → (Nat → Int32) → Prop} {K61 : Int32 → Int32 → Int32 → Int32 → Int32 → Int32 → (Nat → Int32) → (Nat → Int32) → Prop} {n54 n61 : Int} (aG : Int32) (rD oY pX : Nat → Int32) (h_m_standings : 0 ≤ Int32.toInt aG ∧ Int32.toInt aG ≤ 8) (e0_m_now : ∀ k : Nat, k = 17 → -1 ≤ Int32.toInt (rD k) ∧ Int32.toInt (rD k) ≤ SB) (e1_m_now : ∀ k : Nat, k = 19 → 0 ≤ Int32.toInt (rD k) ∧ Int32.toInt (rD k) ≤ 9) (h_m_foot : ∀ k : Nat, 0 ≤ Int32.toInt (oY k) ∧ Int32.toInt (oY k) ≤ 99) (e0_m_told : ∀ k : Nat, k = 4 → 1 ≤ Int32.toInt (pX k) ∧ Int32.toInt (pX k) ≤ 30) (e1_m_told : ∀ k : Nat, k = 3 → 0 ≤ Int32.toInt (pX k) ∧ Int32.toInt (pX k) ≤ 9) (hc0 : -1 ≤ SB ∧ SB ≤ 7) (hc1 : (Int32.toInt aG ≤ 0 ∧ SB = 0) ∨ (1 ≤ Int32.toInt aG ∧ SB = Int32.toInt aG - 1)) (hpost : ∀ (r : Int32) (m_rowMany' : Int32) (m_thrown' : Int32) (m_row' : Nat → Int32) (m_moves' : Nat → Int32), (-1 ≤ Int32.toInt r ∧ Int32.toInt r ≤ 1000000) → (0 ≤ Int32.toInt m_rowMany' ∧ Int32.toInt m_rowMany' ≤ 16) → (0 ≤ Int32.toInt m_thrown' ∧ Int32.toInt m_thrown' ≤ 0) → (∀ k : Nat, 0 ≤ Int32.toInt (m_moves' k) ∧ Int32.toInt (m_moves' k) ≤ 1000000) → post r m_rowMany' m_thrown' m_row' m_moves') (hK54 : ∀ (x2 : Int32) (x3 : Int32) (x4 : Int32) (bQ : Int32) (dG : Int32) (uM : Nat → Int32) (uG : Nat → Int32), (0 ≤ Int32.toInt x2 ∧ Int32.toInt x2 ≤ 255) → (-1 ≤ Int32.toInt x3 ∧ Int32.toInt x3 ≤ 7) → (0 ≤ Int32.toInt x4 ∧ Int32.toInt x4 ≤ 1000000) → (0 ≤ Int32.toInt bQ ∧ Int32.toInt bQ ≤ 16) → (0 ≤ Int32.toInt dG ∧ Int32.toInt dG ≤ 0) → (∀ k : Nat, 0 ≤ Int32.toInt (uG k) ∧ Int32.toInt (uG k) ≤ 1000000) → (MVT uG oY pX aG) → (VALz aG (plc x3) x2) → (LB x2 aG) → (Int32.toInt bQ + ((pcn 16 x2 : Nat) : Int) ≤ 16) → (((pcn 16 x2 : Nat) : Int) < n54) → K54 x2 x3 x4 bQ dG uM uG) (hK61 : ∀ (x2 : Int32) (x3 : Int32) (x4 : Int32) (x5 : Int32) (bQ : Int32) (dG : Int32) (uM : Nat → Int32) (uG : Nat → Int32), (1 ≤ Int32.toInt x2 ∧ Int32.toInt x2 ≤ 255) → (-1 ≤ Int32.toInt x3 ∧ Int32.toInt x3 ≤ 7) → (0 ≤ Int32.toInt x4 ∧ Int32.toInt x4 ≤ 1000000) → (0 ≤ Int32.toInt x5 ∧ Int32.toInt x5 ≤ 7) → (0 ≤ Int32.toInt bQ ∧ Int32.toInt bQ ≤ 16) → (0 ≤ Int32.toInt dG ∧ Int32.toInt dG ≤ 0) → (∀ k : Nat, 0 ≤ Int32.toInt (uG k) ∧ Int32.toInt (uG k) ≤ 1000000) → (MVT uG oY pX aG) → (VALz aG (plc x3) x2) → (LB x2 aG) → (Int32.toInt bQ + ((pcn 16 x2 : Nat) : Int) ≤ 16) → (RtX uG oY pX aG x3 x2 x5) → (((pcn 16 x2 : Nat) : Int) ≤ n54) → (7 - Int32.toInt x5 < n61) → K61 x2 x3 x4 x5 bQ dG uM uG) (x2 x3 x4 x5 bQ dG : Int32) (uM uG : Nat → Int32) (h_x2 : 1 ≤ Int32.toInt x2 ∧ Int32.toInt x2 ≤ 255) (h_x3 : -1 ≤ Int32.toInt x3 ∧ Int32.toInt x3 ≤ 7) (h_x4 : 0 ≤ Int32.toInt x4 ∧ Int32.toInt x4 ≤ 1000000) (h_x5 : 0 ≤ Int32.toInt x5 ∧ Int32.toInt x5 ≤ 7) (h_m_rowMany : 0 ≤ Int32.toInt bQ ∧ Int32.toInt bQ ≤ 16) (h_m_thrown : 0 ≤ Int32.toInt dG ∧ Int32.toInt dG ≤ 0) (h_m_moves : ∀ k : Nat, 0 ≤ Int32.toInt (uG k) ∧ Int32.toInt (uG k) ≤ 1000000) (hx0 : MVT uG oY pX aG) (hx1 : VALz aG (plc x3) x2) (hx2 : LB x2 aG) (hx3 : Int32.toInt bQ + ((pcn 16 x2 : Nat) : Int) ≤ 16) (hx4 : RtY uG oY pX aG x3 x2 x5) (hn54 : ((pcn 16 x2 : Nat) : Int) ≤ n54) (hn61 : 7 - Int32.toInt x5 ≤ n61) : ws_X10_route_105 post K54 K61 aG rD oY pX x2 x3 x4 x5 bQ dG uM uG := by
  have l0 := li_1
  have j1 := RtY_le (x := x5) (by assumption) (by omega)
  intro v2 ev2
  have f3 : Int32.toInt (x5 + 1) = Int32.toInt x5 + Int32.toInt (1 : Int32) := ta_add _ _ (by omega)
  rw [← ev2] at f3
  have j4 := pcn_le 16 (x2)
  exact hK61 x2 x3 x4 v2 bQ dG uM uG h_x2 h_x3 h_x4 (by omega) h_m_rowMany h_m_thrown h_m_moves (by assumption) (by first | assumption | exact VALz_p (by omega) | exact VALz_i (by assumption) (by assumption) (by omega) (by omega) (by assumption) (by omega) (by omega) (by omega) | exact VALz_c (by assumption) (by assumption) (by assumption) (by assumption) (by assumption) (by assumption) (by omega)) (by first | assumption | exact LB_of (by assumption) (by omega) (by omega) (by omega) | exact LB_e (by assumption) (by assumption) | exact LB_c (LB_of (by assumption) (by omega) (by omega) (by omega))) hx3 (by first | assumption | exact RtX_0 (by assumption) (by assumption) (by assumption) (by omega) (by assumption) (by omega) | exact RtX_s (by assumption) (by omega)) hn54 (by omega)
set_option maxHeartbeats 8000000 in
set_option maxRecDepth 200000 in
theorem ts_X10_route_61 {post : Int32 → Int32 → Int32 → (Nat → Int32) → (Nat → Int32) → Prop} {SB : Int} {K54 : Int32 → Int32 → Int32 → Int32 → Int32 → (Nat → Int32) → (Nat → Int32) → Prop} {next : Int32 → Int32 → Int32 → Int32 → Int32 → Int32 → (Nat → Int32) → (Nat → Int32) → Prop} {n61 n54 : Int} (aG : Int32) (rD oY pX : Nat → Int32) (h_m_standings : 0 ≤ Int32.toInt aG ∧ Int32.toInt aG ≤ 8) (e0_m_now : ∀ k : Nat, k = 17 → -1 ≤ Int32.toInt (rD k) ∧ Int32.toInt (rD k) ≤ SB) (e1_m_now : ∀ k : Nat, k = 19 → 0 ≤ Int32.toInt (rD k) ∧ Int32.toInt (rD k) ≤ 9) (h_m_foot : ∀ k : Nat, 0 ≤ Int32.toInt (oY k) ∧ Int32.toInt (oY k) ≤ 99) (e0_m_told : ∀ k : Nat, k = 4 → 1 ≤ Int32.toInt (pX k) ∧ Int32.toInt (pX k) ≤ 30) (e1_m_told : ∀ k : Nat, k = 3 → 0 ≤ Int32.toInt (pX k) ∧ Int32.toInt (pX k) ≤ 9) (hc0 : -1 ≤ SB ∧ SB ≤ 7) (hc1 : (Int32.toInt aG ≤ 0 ∧ SB = 0) ∨ (1 ≤ Int32.toInt aG ∧ SB = Int32.toInt aG - 1)) (hpost : ∀ (r : Int32) (m_rowMany' : Int32) (m_thrown' : Int32) (m_row' : Nat → Int32) (m_moves' : Nat → Int32), (-1 ≤ Int32.toInt r ∧ Int32.toInt r ≤ 1000000) → (0 ≤ Int32.toInt m_rowMany' ∧ Int32.toInt m_rowMany' ≤ 16) → (0 ≤ Int32.toInt m_thrown' ∧ Int32.toInt m_thrown' ≤ 0) → (∀ k : Nat, 0 ≤ Int32.toInt (m_moves' k) ∧ Int32.toInt (m_moves' k) ≤ 1000000) → post r m_rowMany' m_thrown' m_row' m_moves') (hK54 : ∀ (x2 : Int32) (x3 : Int32) (x4 : Int32) (bQ : Int32) (dG : Int32) (uM : Nat → Int32) (uG : Nat → Int32), (0 ≤ Int32.toInt x2 ∧ Int32.toInt x2 ≤ 255) → (-1 ≤ Int32.toInt x3 ∧ Int32.toInt x3 ≤ 7) → (0 ≤ Int32.toInt x4 ∧ Int32.toInt x4 ≤ 1000000) → (0 ≤ Int32.toInt bQ ∧ Int32.toInt bQ ≤ 16) → (0 ≤ Int32.toInt dG ∧ Int32.toInt dG ≤ 0) → (∀ k : Nat, 0 ≤ Int32.toInt (uG k) ∧ Int32.toInt (uG k) ≤ 1000000) → (MVT uG oY pX aG) → (VALz aG (plc x3) x2) → (LB x2 aG) → (Int32.toInt bQ + ((pcn 16 x2 : Nat) : Int) ≤ 16) → (((pcn 16 x2 : Nat) : Int) < n54) → K54 x2 x3 x4 bQ dG uM uG) (hKn : ∀ (x2 : Int32) (x3 : Int32) (x4 : Int32) (x5 : Int32) (bQ : Int32) (dG : Int32) (uM : Nat → Int32) (uG : Nat → Int32), (1 ≤ Int32.toInt x2 ∧ Int32.toInt x2 ≤ 255) → (-1 ≤ Int32.toInt x3 ∧ Int32.toInt x3 ≤ 7) → (0 ≤ Int32.toInt x4 ∧ Int32.toInt x4 ≤ 1000000) → (0 ≤ Int32.toInt x5 ∧ Int32.toInt x5 ≤ 7) → (0 ≤ Int32.toInt bQ ∧ Int32.toInt bQ ≤ 16) → (0 ≤ Int32.toInt dG ∧ Int32.toInt dG ≤ 0) → (∀ k : Nat, 0 ≤ Int32.toInt (uG k) ∧ Int32.toInt (uG k) ≤ 1000000) → (MVT uG oY pX aG) → (VALz aG (plc x3) x2) → (LB x2 aG) → (Int32.toInt bQ + ((pcn 16 x2 : Nat) : Int) ≤ 16) → (RtX uG oY pX aG x3 x2 x5) → (((pcn 16 x2 : Nat) : Int) ≤ n54) → (7 - Int32.toInt x5 < n61) → next x2 x3 x4 x5 bQ dG uM uG) (x2 x3 x4 x5 bQ dG : Int32) (uM uG : Nat → Int32) (h_x2 : 1 ≤ Int32.toInt x2 ∧ Int32.toInt x2 ≤ 255) (h_x3 : -1 ≤ Int32.toInt x3 ∧ Int32.toInt x3 ≤ 7) (h_x4 : 0 ≤ Int32.toInt x4 ∧ Int32.toInt x4 ≤ 1000000) (h_x5 : 0 ≤ Int32.toInt x5 ∧ Int32.toInt x5 ≤ 7) (h_m_rowMany : 0 ≤ Int32.toInt bQ ∧ Int32.toInt bQ ≤ 16) (h_m_thrown : 0 ≤ Int32.toInt dG ∧ Int32.toInt dG ≤ 0) (h_m_moves : ∀ k : Nat, 0 ≤ Int32.toInt (uG k) ∧ Int32.toInt (uG k) ≤ 1000000) (hx0 : MVT uG oY pX aG) (hx1 : VALz aG (plc x3) x2) (hx2 : LB x2 aG) (hx3 : Int32.toInt bQ + ((pcn 16 x2 : Nat) : Int) ≤ 16) (hx4 : RtX uG oY pX aG x3 x2 x5) (hn54 : ((pcn 16 x2 : Nat) : Int) ≤ n54) (hn61 : 7 - Int32.toInt x5 ≤ n61) : ws_X10_route_61 post K54 next aG rD oY pX x2 x3 x4 x5 bQ dG uM uG := by
  have l0 := li_m1
  have l1 := li_1
  have l2 := li_8
  intro v5 ev5
  have f6 := ti_shr x2 x5 (by omega)
  have hv5 := congrArg Int32.toInt ev5
  intro v7 ev7
  have f8 := ti_andr v5 1 (by omega)
  have f9 := ti_andl v5 1 (by omega)
  have hv7 := congrArg Int32.toInt ev7
  refine And.intro (fun c10 => ?_) (fun c10 => ?_)
  · skip
    have c10 := mt (fa_eq _ _).mpr c10
    refine And.intro (fun _ => ?_) (fun h9 => absurd h9 (by decide))
    have j11 := pcn_le 16 (x2)
    exact ts_X10_route_105 aG rD oY pX h_m_standings e0_m_now e1_m_now h_m_foot e0_m_told e1_m_told hc0 hc1 hpost hK54 hKn x2 x3 x4 x5 bQ dG uM uG h_x2 h_x3 h_x4 h_x5 h_m_rowMany h_m_thrown h_m_moves (by assumption) (by first | assumption | exact VALz_p (by omega) | exact VALz_i (by assumption) (by assumption) (by omega) (by omega) (by assumption) (by omega) (by omega) (by omega) | exact VALz_c (by assumption) (by assumption) (by assumption) (by assumption) (by assumption) (by assumption) (by omega)) (by first | assumption | exact LB_of (by assumption) (by omega) (by omega) (by omega) | exact LB_e (by assumption) (by assumption) | exact LB_c (LB_of (by assumption) (by omega) (by omega) (by omega))) hx3 (by first | assumption | exact RtX_h (by assumption) (by omega) (by assumption) (by assumption) (by assumption) | exact RtX_n (by assumption) (by assumption) (by assumption) (by assumption) (by assumption) (by assumption) (by assumption) (by assumption) (by omega) (by omega) (by omega) (by omega) (by omega) (by omega) h_m_foot e1_m_told) hn54 hn61
  · skip
    have c10 := (fa_eq _ _).mp c10
    refine And.intro (fun h9 => absurd h9 (by decide)) (fun _ => ?_)
    have j12 := pcn_pos x2 x5 (by assumption) (by assumption) (by omega) (by omega)
    refine t_X10_moveOf h_x3 h_x5 h_m_foot e0_m_told e1_m_told (by omega) (by omega) (fun r13 h_r13 ox14 => ?_)
    intro v15 ev15
    have f16 := ti_shl1 7 128 x5 (by decide) (by omega)
    have hv15 := congrArg Int32.toInt ev15
    intro v17 ev17
    have f19 := ti_andl x2 (v15 ^^^ (-1)) (by omega)
    have hv17 := congrArg Int32.toInt ev17
    intro v20 ev20
    have f21 := ti_shl8 x5 (by omega)
    have hv20 := congrArg Int32.toInt ev20
    intro v22 ev22
    have f23 : Int32.toInt (v20 + v17) = Int32.toInt v20 + Int32.toInt v17 := ta_add _ _ (by omega)
    rw [← ev22] at f23
    refine And.intro (t_in (by omega)) ?_
    intro v24 ev24
    have f26 := h_m_moves v22.toNatClampNeg
    have f25 : Int32.toInt (r13 + (uG v22.toNatClampNeg)) = Int32.toInt r13 + Int32.toInt (uG v22.toNatClampNeg) := ta_add _ _ (by omega)
    rw [← ev24] at f25
    refine And.intro (fun c27 => ?_) (fun c27 => ?_)
    · skip
      have c27 := mt (fa_eq _ _).mpr c27
      intro v28 ev28
      have f29 := ti_shl8 x3 (by omega)
      have hv28 := congrArg Int32.toInt ev28
      intro v30 ev30
      have f31 : Int32.toInt (v28 + x2) = Int32.toInt v28 + Int32.toInt x2 := ta_add _ _ (by omega)
      rw [← ev30] at f31
      refine And.intro (t_in (by omega)) ?_
      have f33 := h_m_moves v30.toNatClampNeg
      refine And.intro (fun c32 => ?_) (fun c32 => ?_)
      · skip
        have c32 := (fa_eq _ _).mp c32
        refine And.intro (t_in (by omega)) ?_
        intro v34 ev34
        have f35 : Int32.toInt (bQ + 1) = Int32.toInt bQ + Int32.toInt (1 : Int32) := ta_add _ _ (by omega)
        rw [← ev34] at f35
        intro v36 ev36
        have hv36 := congrArg Int32.toInt ev36
        intro v37 ev37
        have f39 := ti_andl x2 (v36 ^^^ (-1)) (by omega)
        have hv37 := congrArg Int32.toInt ev37
        have j40 := pcn_clr v37 x5 (by assumption) (by assumption) (by omega) (by assumption) (by assumption) (by omega)
        have j41 := pcn_le 16 (v37)
        exact hK54 v37 x5 x4 v34 dG (upd uM bQ.toNatClampNeg x5) uG (by omega) (by omega) h_x4 (by omega) h_m_thrown h_m_moves (by assumption) (by first | assumption | exact VALz_p (by omega) | exact VALz_i (by assumption) (by assumption) (by omega) (by omega) (by assumption) (by omega) (by omega) (by omega) | exact VALz_c (by assumption) (by assumption) (by assumption) (by assumption) (by assumption) (by assumption) (by omega)) (by first | assumption | exact LB_of (by assumption) (by omega) (by omega) (by omega) | exact LB_e (by assumption) (by assumption) | exact LB_c (LB_of (by assumption) (by omega) (by omega) (by omega))) (by omega) (by omega)
      · skip
        have c32 := mt (fa_eq _ _).mpr c32
        have j42 := pcn_le 16 (x2)
        exact ts_X10_route_105 aG rD oY pX h_m_standings e0_m_now e1_m_now h_m_foot e0_m_told e1_m_told hc0 hc1 hpost hK54 hKn x2 x3 x4 x5 bQ dG uM uG h_x2 h_x3 h_x4 h_x5 h_m_rowMany h_m_thrown h_m_moves (by assumption) (by first | assumption | exact VALz_p (by omega) | exact VALz_i (by assumption) (by assumption) (by omega) (by omega) (by assumption) (by omega) (by omega) (by omega) | exact VALz_c (by assumption) (by assumption) (by assumption) (by assumption) (by assumption) (by assumption) (by omega)) (by first | assumption | exact LB_of (by assumption) (by omega) (by omega) (by omega) | exact LB_e (by assumption) (by assumption) | exact LB_c (LB_of (by assumption) (by omega) (by omega) (by omega))) hx3 (by first | assumption | exact RtX_h (by assumption) (by omega) (by assumption) (by assumption) (by assumption) | exact RtX_n (by assumption) (by assumption) (by assumption) (by assumption) (by assumption) (by assumption) (by assumption) (by assumption) (by omega) (by omega) (by omega) (by omega) (by omega) (by omega) h_m_foot e1_m_told) hn54 hn61
    · skip
      have c27 := (fa_eq _ _).mp c27
      intro v43 ev43
      have f44 := ti_shl8 8 (by omega)
      have hv43 := congrArg Int32.toInt ev43
      intro v45 ev45
      have f46 : Int32.toInt (v43 + x2) = Int32.toInt v43 + Int32.toInt x2 := ta_add _ _ (by omega)
      rw [← ev45] at f46
      refine And.intro (t_in (by omega)) ?_
      have f48 := h_m_moves v45.toNatClampNeg
      refine And.intro (fun c47 => ?_) (fun c47 => ?_)
      · skip
        have c47 := (fa_eq _ _).mp c47
        refine And.intro (t_in (by omega)) ?_
        intro v49 ev49
        have f50 : Int32.toInt (bQ + 1) = Int32.toInt bQ + Int32.toInt (1 : Int32) := ta_add _ _ (by omega)
        rw [← ev49] at f50
        intro v51 ev51
        have hv51 := congrArg Int32.toInt ev51
        intro v52 ev52
        have f54 := ti_andl x2 (v51 ^^^ (-1)) (by omega)
        have hv52 := congrArg Int32.toInt ev52
        have j55 := pcn_clr v52 x5 (by assumption) (by assumption) (by omega) (by assumption) (by assumption) (by omega)
        have j56 := pcn_le 16 (v52)
        exact hK54 v52 x5 x4 v49 dG (upd uM bQ.toNatClampNeg x5) uG (by omega) (by omega) h_x4 (by omega) h_m_thrown h_m_moves (by assumption) (by first | assumption | exact VALz_p (by omega) | exact VALz_i (by assumption) (by assumption) (by omega) (by omega) (by assumption) (by omega) (by omega) (by omega) | exact VALz_c (by assumption) (by assumption) (by assumption) (by assumption) (by assumption) (by assumption) (by omega)) (by first | assumption | exact LB_of (by assumption) (by omega) (by omega) (by omega) | exact LB_e (by assumption) (by assumption) | exact LB_c (LB_of (by assumption) (by omega) (by omega) (by omega))) (by omega) (by omega)
      · skip
        have c47 := mt (fa_eq _ _).mpr c47
        have j57 := pcn_le 16 (x2)
        exact ts_X10_route_105 aG rD oY pX h_m_standings e0_m_now e1_m_now h_m_foot e0_m_told e1_m_told hc0 hc1 hpost hK54 hKn x2 x3 x4 x5 bQ dG uM uG h_x2 h_x3 h_x4 h_x5 h_m_rowMany h_m_thrown h_m_moves (by assumption) (by first | assumption | exact VALz_p (by omega) | exact VALz_i (by assumption) (by assumption) (by omega) (by omega) (by assumption) (by omega) (by omega) (by omega) | exact VALz_c (by assumption) (by assumption) (by assumption) (by assumption) (by assumption) (by assumption) (by omega)) (by first | assumption | exact LB_of (by assumption) (by omega) (by omega) (by omega) | exact LB_e (by assumption) (by assumption) | exact LB_c (LB_of (by assumption) (by omega) (by omega) (by omega))) hx3 (by first | assumption | exact RtX_h (by assumption) (by omega) (by assumption) (by assumption) (by assumption) | exact RtX_n (by assumption) (by assumption) (by assumption) (by assumption) (by assumption) (by assumption) (by assumption) (by assumption) (by omega) (by omega) (by omega) (by omega) (by omega) (by omega) h_m_foot e1_m_told) hn54 hn61
set_option maxHeartbeats 8000000 in
set_option maxRecDepth 200000 in
theorem tb_X10_route_61 {post : Int32 → Int32 → Int32 → (Nat → Int32) → (Nat → Int32) → Prop} {SB : Int} {K54 : Int32 → Int32 → Int32 → Int32 → Int32 → (Nat → Int32) → (Nat → Int32) → Prop} {n54 : Int} (aG : Int32) (rD oY pX : Nat → Int32) (h_m_standings : 0 ≤ Int32.toInt aG ∧ Int32.toInt aG ≤ 8) (e0_m_now : ∀ k : Nat, k = 17 → -1 ≤ Int32.toInt (rD k) ∧ Int32.toInt (rD k) ≤ SB) (e1_m_now : ∀ k : Nat, k = 19 → 0 ≤ Int32.toInt (rD k) ∧ Int32.toInt (rD k) ≤ 9) (h_m_foot : ∀ k : Nat, 0 ≤ Int32.toInt (oY k) ∧ Int32.toInt (oY k) ≤ 99) (e0_m_told : ∀ k : Nat, k = 4 → 1 ≤ Int32.toInt (pX k) ∧ Int32.toInt (pX k) ≤ 30) (e1_m_told : ∀ k : Nat, k = 3 → 0 ≤ Int32.toInt (pX k) ∧ Int32.toInt (pX k) ≤ 9) (hc0 : -1 ≤ SB ∧ SB ≤ 7) (hc1 : (Int32.toInt aG ≤ 0 ∧ SB = 0) ∨ (1 ≤ Int32.toInt aG ∧ SB = Int32.toInt aG - 1)) (hpost : ∀ (r : Int32) (m_rowMany' : Int32) (m_thrown' : Int32) (m_row' : Nat → Int32) (m_moves' : Nat → Int32), (-1 ≤ Int32.toInt r ∧ Int32.toInt r ≤ 1000000) → (0 ≤ Int32.toInt m_rowMany' ∧ Int32.toInt m_rowMany' ≤ 16) → (0 ≤ Int32.toInt m_thrown' ∧ Int32.toInt m_thrown' ≤ 0) → (∀ k : Nat, 0 ≤ Int32.toInt (m_moves' k) ∧ Int32.toInt (m_moves' k) ≤ 1000000) → post r m_rowMany' m_thrown' m_row' m_moves') (hK54 : ∀ (x2 : Int32) (x3 : Int32) (x4 : Int32) (bQ : Int32) (dG : Int32) (uM : Nat → Int32) (uG : Nat → Int32), (0 ≤ Int32.toInt x2 ∧ Int32.toInt x2 ≤ 255) → (-1 ≤ Int32.toInt x3 ∧ Int32.toInt x3 ≤ 7) → (0 ≤ Int32.toInt x4 ∧ Int32.toInt x4 ≤ 1000000) → (0 ≤ Int32.toInt bQ ∧ Int32.toInt bQ ≤ 16) → (0 ≤ Int32.toInt dG ∧ Int32.toInt dG ≤ 0) → (∀ k : Nat, 0 ≤ Int32.toInt (uG k) ∧ Int32.toInt (uG k) ≤ 1000000) → (MVT uG oY pX aG) → (VALz aG (plc x3) x2) → (LB x2 aG) → (Int32.toInt bQ + ((pcn 16 x2 : Nat) : Int) ≤ 16) → (((pcn 16 x2 : Nat) : Int) < n54) → K54 x2 x3 x4 bQ dG uM uG) : ∀ (n : Nat) (x2 x3 x4 x5 bQ dG : Int32) (uM uG : Nat → Int32), (1 ≤ Int32.toInt x2 ∧ Int32.toInt x2 ≤ 255) → (-1 ≤ Int32.toInt x3 ∧ Int32.toInt x3 ≤ 7) → (0 ≤ Int32.toInt x4 ∧ Int32.toInt x4 ≤ 1000000) → (0 ≤ Int32.toInt x5 ∧ Int32.toInt x5 ≤ 7) → (0 ≤ Int32.toInt bQ ∧ Int32.toInt bQ ≤ 16) → (0 ≤ Int32.toInt dG ∧ Int32.toInt dG ≤ 0) → (∀ k : Nat, 0 ≤ Int32.toInt (uG k) ∧ Int32.toInt (uG k) ≤ 1000000) → (MVT uG oY pX aG) → (VALz aG (plc x3) x2) → (LB x2 aG) → (Int32.toInt bQ + ((pcn 16 x2 : Nat) : Int) ≤ 16) → (RtX uG oY pX aG x3 x2 x5) → (((pcn 16 x2 : Nat) : Int) ≤ n54) → (7 - Int32.toInt x5 < (n : Int)) → wb_X10_route_61 post K54 aG rD oY pX n x2 x3 x4 x5 bQ dG uM uG := by
  intro n
  induction n with
  | zero =>
    intro x2 x3 x4 x5 bQ dG uM uG h_x2 h_x3 h_x4 h_x5 h_m_rowMany h_m_thrown h_m_moves hx0 hx1 hx2 hx3 hx4 hn54 hm
    exfalso; omega
  | succ n ih =>
    intro x2 x3 x4 x5 bQ dG uM uG h_x2 h_x3 h_x4 h_x5 h_m_rowMany h_m_thrown h_m_moves hx0 hx1 hx2 hx3 hx4 hn54 hm
    exact ts_X10_route_61 aG rD oY pX h_m_standings e0_m_now e1_m_now h_m_foot e0_m_told e1_m_told hc0 hc1 hpost hK54 ih x2 x3 x4 x5 bQ dG uM uG h_x2 h_x3 h_x4 h_x5 h_m_rowMany h_m_thrown h_m_moves hx0 hx1 hx2 hx3 hx4 hn54 (by omega)
set_option maxHeartbeats 8000000 in
set_option maxRecDepth 200000 in
theorem ts_X10_route_54 {post : Int32 → Int32 → Int32 → (Nat → Int32) → (Nat → Int32) → Prop} {SB : Int} {next : Int32 → Int32 → Int32 → Int32 → Int32 → (Nat → Int32) → (Nat → Int32) → Prop} {n54 : Int} (aG : Int32) (rD oY pX : Nat → Int32) (h_m_standings : 0 ≤ Int32.toInt aG ∧ Int32.toInt aG ≤ 8) (e0_m_now : ∀ k : Nat, k = 17 → -1 ≤ Int32.toInt (rD k) ∧ Int32.toInt (rD k) ≤ SB) (e1_m_now : ∀ k : Nat, k = 19 → 0 ≤ Int32.toInt (rD k) ∧ Int32.toInt (rD k) ≤ 9) (h_m_foot : ∀ k : Nat, 0 ≤ Int32.toInt (oY k) ∧ Int32.toInt (oY k) ≤ 99) (e0_m_told : ∀ k : Nat, k = 4 → 1 ≤ Int32.toInt (pX k) ∧ Int32.toInt (pX k) ≤ 30) (e1_m_told : ∀ k : Nat, k = 3 → 0 ≤ Int32.toInt (pX k) ∧ Int32.toInt (pX k) ≤ 9) (hc0 : -1 ≤ SB ∧ SB ≤ 7) (hc1 : (Int32.toInt aG ≤ 0 ∧ SB = 0) ∨ (1 ≤ Int32.toInt aG ∧ SB = Int32.toInt aG - 1)) (hpost : ∀ (r : Int32) (m_rowMany' : Int32) (m_thrown' : Int32) (m_row' : Nat → Int32) (m_moves' : Nat → Int32), (-1 ≤ Int32.toInt r ∧ Int32.toInt r ≤ 1000000) → (0 ≤ Int32.toInt m_rowMany' ∧ Int32.toInt m_rowMany' ≤ 16) → (0 ≤ Int32.toInt m_thrown' ∧ Int32.toInt m_thrown' ≤ 0) → (∀ k : Nat, 0 ≤ Int32.toInt (m_moves' k) ∧ Int32.toInt (m_moves' k) ≤ 1000000) → post r m_rowMany' m_thrown' m_row' m_moves') (hKn : ∀ (x2 : Int32) (x3 : Int32) (x4 : Int32) (bQ : Int32) (dG : Int32) (uM : Nat → Int32) (uG : Nat → Int32), (0 ≤ Int32.toInt x2 ∧ Int32.toInt x2 ≤ 255) → (-1 ≤ Int32.toInt x3 ∧ Int32.toInt x3 ≤ 7) → (0 ≤ Int32.toInt x4 ∧ Int32.toInt x4 ≤ 1000000) → (0 ≤ Int32.toInt bQ ∧ Int32.toInt bQ ≤ 16) → (0 ≤ Int32.toInt dG ∧ Int32.toInt dG ≤ 0) → (∀ k : Nat, 0 ≤ Int32.toInt (uG k) ∧ Int32.toInt (uG k) ≤ 1000000) → (MVT uG oY pX aG) → (VALz aG (plc x3) x2) → (LB x2 aG) → (Int32.toInt bQ + ((pcn 16 x2 : Nat) : Int) ≤ 16) → (((pcn 16 x2 : Nat) : Int) < n54) → next x2 x3 x4 bQ dG uM uG) (x2 x3 x4 bQ dG : Int32) (uM uG : Nat → Int32) (h_x2 : 0 ≤ Int32.toInt x2 ∧ Int32.toInt x2 ≤ 255) (h_x3 : -1 ≤ Int32.toInt x3 ∧ Int32.toInt x3 ≤ 7) (h_x4 : 0 ≤ Int32.toInt x4 ∧ Int32.toInt x4 ≤ 1000000) (h_m_rowMany : 0 ≤ Int32.toInt bQ ∧ Int32.toInt bQ ≤ 16) (h_m_thrown : 0 ≤ Int32.toInt dG ∧ Int32.toInt dG ≤ 0) (h_m_moves : ∀ k : Nat, 0 ≤ Int32.toInt (uG k) ∧ Int32.toInt (uG k) ≤ 1000000) (hx0 : MVT uG oY pX aG) (hx1 : VALz aG (plc x3) x2) (hx2 : LB x2 aG) (hx3 : Int32.toInt bQ + ((pcn 16 x2 : Nat) : Int) ≤ 16) (hn54 : ((pcn 16 x2 : Nat) : Int) ≤ n54) : ws_X10_route_54 post next aG rD oY pX x2 x3 x4 bQ dG uM uG := by
  have l0 := li_0
  refine And.intro (fun c58 => ?_) (fun c58 => ?_)
  · skip
    have c58 := (fa_eq _ _).mp c58
    exact hpost _ _ _ _ _ (by omega) h_m_rowMany h_m_thrown h_m_moves
  · skip
    have c58 := mt (fa_eq _ _).mpr c58
    have j59 := pcn_le 16 (x2)
    exact ⟨9, tb_X10_route_61 aG rD oY pX h_m_standings e0_m_now e1_m_now h_m_foot e0_m_told e1_m_told hc0 hc1 hpost hKn _ x2 x3 x4 0 bQ dG uM uG (by omega) h_x3 h_x4 (by omega) h_m_rowMany h_m_thrown h_m_moves (by assumption) (by first | assumption | exact VALz_p (by omega) | exact VALz_i (by assumption) (by assumption) (by omega) (by omega) (by assumption) (by omega) (by omega) (by omega) | exact VALz_c (by assumption) (by assumption) (by assumption) (by assumption) (by assumption) (by assumption) (by omega)) (by first | assumption | exact LB_of (by assumption) (by omega) (by omega) (by omega) | exact LB_e (by assumption) (by assumption) | exact LB_c (LB_of (by assumption) (by omega) (by omega) (by omega))) hx3 (by first | assumption | exact RtX_0 (by assumption) (by assumption) (by assumption) (by omega) (by assumption) (by omega) | exact RtX_s (by assumption) (by omega)) hn54 (by omega)⟩
set_option maxHeartbeats 8000000 in
set_option maxRecDepth 200000 in
theorem tb_X10_route_54 {post : Int32 → Int32 → Int32 → (Nat → Int32) → (Nat → Int32) → Prop} {SB : Int} (aG : Int32) (rD oY pX : Nat → Int32) (h_m_standings : 0 ≤ Int32.toInt aG ∧ Int32.toInt aG ≤ 8) (e0_m_now : ∀ k : Nat, k = 17 → -1 ≤ Int32.toInt (rD k) ∧ Int32.toInt (rD k) ≤ SB) (e1_m_now : ∀ k : Nat, k = 19 → 0 ≤ Int32.toInt (rD k) ∧ Int32.toInt (rD k) ≤ 9) (h_m_foot : ∀ k : Nat, 0 ≤ Int32.toInt (oY k) ∧ Int32.toInt (oY k) ≤ 99) (e0_m_told : ∀ k : Nat, k = 4 → 1 ≤ Int32.toInt (pX k) ∧ Int32.toInt (pX k) ≤ 30) (e1_m_told : ∀ k : Nat, k = 3 → 0 ≤ Int32.toInt (pX k) ∧ Int32.toInt (pX k) ≤ 9) (hc0 : -1 ≤ SB ∧ SB ≤ 7) (hc1 : (Int32.toInt aG ≤ 0 ∧ SB = 0) ∨ (1 ≤ Int32.toInt aG ∧ SB = Int32.toInt aG - 1)) (hpost : ∀ (r : Int32) (m_rowMany' : Int32) (m_thrown' : Int32) (m_row' : Nat → Int32) (m_moves' : Nat → Int32), (-1 ≤ Int32.toInt r ∧ Int32.toInt r ≤ 1000000) → (0 ≤ Int32.toInt m_rowMany' ∧ Int32.toInt m_rowMany' ≤ 16) → (0 ≤ Int32.toInt m_thrown' ∧ Int32.toInt m_thrown' ≤ 0) → (∀ k : Nat, 0 ≤ Int32.toInt (m_moves' k) ∧ Int32.toInt (m_moves' k) ≤ 1000000) → post r m_rowMany' m_thrown' m_row' m_moves') : ∀ (n : Nat) (x2 x3 x4 bQ dG : Int32) (uM uG : Nat → Int32), (0 ≤ Int32.toInt x2 ∧ Int32.toInt x2 ≤ 255) → (-1 ≤ Int32.toInt x3 ∧ Int32.toInt x3 ≤ 7) → (0 ≤ Int32.toInt x4 ∧ Int32.toInt x4 ≤ 1000000) → (0 ≤ Int32.toInt bQ ∧ Int32.toInt bQ ≤ 16) → (0 ≤ Int32.toInt dG ∧ Int32.toInt dG ≤ 0) → (∀ k : Nat, 0 ≤ Int32.toInt (uG k) ∧ Int32.toInt (uG k) ≤ 1000000) → (MVT uG oY pX aG) → (VALz aG (plc x3) x2) → (LB x2 aG) → (Int32.toInt bQ + ((pcn 16 x2 : Nat) : Int) ≤ 16) → (((pcn 16 x2 : Nat) : Int) < (n : Int)) → wb_X10_route_54 post aG rD oY pX n x2 x3 x4 bQ dG uM uG := by
  intro n
  induction n with
  | zero =>
    intro x2 x3 x4 bQ dG uM uG h_x2 h_x3 h_x4 h_m_rowMany h_m_thrown h_m_moves hx0 hx1 hx2 hx3 hm
    exfalso; omega
  | succ n ih =>
    intro x2 x3 x4 bQ dG uM uG h_x2 h_x3 h_x4 h_m_rowMany h_m_thrown h_m_moves hx0 hx1 hx2 hx3 hm
    exact ts_X10_route_54 aG rD oY pX h_m_standings e0_m_now e1_m_now h_m_foot e0_m_told e1_m_told hc0 hc1 hpost ih x2 x3 x4 bQ dG uM uG h_x2 h_x3 h_x4 h_m_rowMany h_m_thrown h_m_moves hx0 hx1 hx2 hx3 (by omega)
set_option maxHeartbeats 8000000 in
set_option maxRecDepth 200000 in
theorem t_X10_route {post : Int32 → Int32 → Int32 → (Nat → Int32) → (Nat → Int32) → Prop} {SB : Int} {p0 aG bQ dG : Int32} {rD oY pX uM uG : Nat → Int32} (h_m_standings : 0 ≤ Int32.toInt aG ∧ Int32.toInt aG ≤ 8) (h_m_rowMany : 0 ≤ Int32.toInt bQ ∧ Int32.toInt bQ ≤ 16) (h_m_thrown : 0 ≤ Int32.toInt dG ∧ Int32.toInt dG ≤ 1) (e0_m_now : ∀ k : Nat, k = 17 → -1 ≤ Int32.toInt (rD k) ∧ Int32.toInt (rD k) ≤ SB) (e1_m_now : ∀ k : Nat, k = 19 → 0 ≤ Int32.toInt (rD k) ∧ Int32.toInt (rD k) ≤ 9) (h_m_foot : ∀ k : Nat, 0 ≤ Int32.toInt (oY k) ∧ Int32.toInt (oY k) ≤ 99) (e0_m_told : ∀ k : Nat, k = 4 → 1 ≤ Int32.toInt (pX k) ∧ Int32.toInt (pX k) ≤ 30) (e1_m_told : ∀ k : Nat, k = 3 → 0 ≤ Int32.toInt (pX k) ∧ Int32.toInt (pX k) ≤ 9) (h_m_moves : ∀ k : Nat, 0 ≤ Int32.toInt (uG k) ∧ Int32.toInt (uG k) ≤ 1000000) (hc0 : -1 ≤ SB ∧ SB ≤ 7) (hc1 : (Int32.toInt aG ≤ 0 ∧ SB = 0) ∨ (1 ≤ Int32.toInt aG ∧ SB = Int32.toInt aG - 1)) (hpost : ∀ (r : Int32) (m_rowMany' : Int32) (m_thrown' : Int32) (m_row' : Nat → Int32) (m_moves' : Nat → Int32), (-1 ≤ Int32.toInt r ∧ Int32.toInt r ≤ 1000000) → (0 ≤ Int32.toInt m_rowMany' ∧ Int32.toInt m_rowMany' ≤ 16) → (0 ≤ Int32.toInt m_thrown' ∧ Int32.toInt m_thrown' ≤ 0) → (∀ k : Nat, 0 ≤ Int32.toInt (m_moves' k) ∧ Int32.toInt (m_moves' k) ≤ 1000000) → post r m_rowMany' m_thrown' m_row' m_moves') : wp_X10_route post p0 aG bQ dG rD oY pX uM uG := by
  have l0 := li_m1
  have l1 := li_0
  have l2 := li_1
  have l3 := li_17
  have l4 := li_8
  intro v60 ev60
  have f61 := ti_shl1 8 256 aG (by decide) (by omega)
  have hv60 := congrArg Int32.toInt ev60
  have f63 := tp_r p0
  refine And.intro (fun c62 => ?_) (fun c62 => ?_)
  · skip
    have c62 := (fa_lt _ _).mp c62
    refine And.intro (fun h9 => absurd h9 (by decide)) (fun _ => ?_)
    exact hpost _ _ _ _ _ (by omega) h_m_rowMany (by omega) h_m_moves
  · skip
    have c62 := mt (fa_lt _ _).mpr c62
    have f65 : Int32.toInt (v60 - 1) = Int32.toInt v60 - Int32.toInt (1 : Int32) := ta_sub _ _ (by omega)
    refine And.intro (fun c64 => ?_) (fun c64 => ?_)
    · skip
      have c64 := (fa_lt _ _).mp c64
      refine And.intro (fun h9 => absurd h9 (by decide)) (fun _ => ?_)
      exact hpost _ _ _ _ _ (by omega) h_m_rowMany (by omega) h_m_moves
    · skip
      have c64 := mt (fa_lt _ _).mpr c64
      refine And.intro (fun _ => ?_) (fun h9 => absurd h9 (by decide))
      refine t_X10_layMoves h_m_standings h_m_foot e0_m_told e1_m_told h_m_moves (fun m_moves_66 h_m_moves_66 ox67 => ?_)
      have q68 := e0_m_now (17 : Int32).toNatClampNeg (by have e9 : (17 : Int32).toNatClampNeg = (Int32.toInt (17 : Int32)).toNat := rfl; omega)
      intro v69 ev69
      have hv69 := congrArg Int32.toInt ev69
      refine And.intro (fun c71 => ?_) (fun c71 => ?_)
      · skip
        have c71 := mt (fa_eq _ _).mpr c71
        have q72 := e0_m_now (17 : Int32).toNatClampNeg (by have e9 : (17 : Int32).toNatClampNeg = (Int32.toInt (17 : Int32)).toNat := rfl; omega)
        intro v73 ev73
        have f74 := ti_shl1 7 128 (rD (17 : Int32).toNatClampNeg) (by decide) (by omega)
        have hv73 := congrArg Int32.toInt ev73
        have q75 := e0_m_now (17 : Int32).toNatClampNeg (by have e9 : (17 : Int32).toNatClampNeg = (Int32.toInt (17 : Int32)).toNat := rfl; omega)
        intro v76 ev76
        have hv76 := congrArg Int32.toInt ev76
        refine And.intro (fun c77 => ?_) (fun c77 => ?_)
        · skip
          have c77 := mt (fa_eq _ _).mpr c77
          intro v78 ev78
          have f79 := ti_shl8 v76 (by omega)
          have hv78 := congrArg Int32.toInt ev78
          intro v80 ev80
          have f83 := ti_andl p0 (v73 ^^^ (-1)) (by omega)
          have f81 : Int32.toInt (v78 + (p0 &&& (v73 ^^^ (-1)))) = Int32.toInt v78 + Int32.toInt (p0 &&& (v73 ^^^ (-1))) := ta_add _ _ (by omega)
          rw [← ev80] at f81
          refine And.intro (t_in (by omega)) ?_
          have f84 := h_m_moves_66 v80.toNatClampNeg
          have j85 := pcn_le 16 (p0 &&& (v73 ^^^ (-1)))
          exact ⟨18, tb_X10_route_54 aG rD oY pX h_m_standings e0_m_now e1_m_now h_m_foot e0_m_told e1_m_told hc0 hc1 hpost _ (p0 &&& (v73 ^^^ (-1))) v76 (m_moves_66 v80.toNatClampNeg) 0 0 uM m_moves_66 (by omega) (by omega) (by omega) (by omega) (by omega) h_m_moves_66 (by assumption) (by first | assumption | exact VALz_p (by omega) | exact VALz_i (by assumption) (by assumption) (by omega) (by omega) (by assumption) (by omega) (by omega) (by omega) | exact VALz_c (by assumption) (by assumption) (by assumption) (by assumption) (by assumption) (by assumption) (by omega)) (by first | assumption | exact LB_of (by assumption) (by omega) (by omega) (by omega) | exact LB_e (by assumption) (by assumption) | exact LB_c (LB_of (by assumption) (by omega) (by omega) (by omega))) (by omega) (by omega)⟩
        · skip
          have c77 := (fa_eq _ _).mp c77
          exfalso; omega
      · skip
        have c71 := (fa_eq _ _).mp c71
        have q86 := e0_m_now (17 : Int32).toNatClampNeg (by have e9 : (17 : Int32).toNatClampNeg = (Int32.toInt (17 : Int32)).toNat := rfl; omega)
        intro v87 ev87
        have hv87 := congrArg Int32.toInt ev87
        refine And.intro (fun c88 => ?_) (fun c88 => ?_)
        · skip
          have c88 := mt (fa_eq _ _).mpr c88
          exfalso; omega
        · skip
          have c88 := (fa_eq _ _).mp c88
          intro v89 ev89
          have f90 := ti_shl8 8 (by omega)
          have hv89 := congrArg Int32.toInt ev89
          intro v91 ev91
          have f92 : Int32.toInt (v89 + p0) = Int32.toInt v89 + Int32.toInt p0 := ta_add _ _ (by omega)
          rw [← ev91] at f92
          refine And.intro (t_in (by omega)) ?_
          have f93 := h_m_moves_66 v91.toNatClampNeg
          have j94 := pcn_le 16 (p0)
          exact ⟨18, tb_X10_route_54 aG rD oY pX h_m_standings e0_m_now e1_m_now h_m_foot e0_m_told e1_m_told hc0 hc1 hpost _ p0 v87 (m_moves_66 v91.toNatClampNeg) 0 0 uM m_moves_66 (by omega) (by omega) (by omega) (by omega) (by omega) h_m_moves_66 (by assumption) (by first | assumption | exact VALz_p (by omega) | exact VALz_i (by assumption) (by assumption) (by omega) (by omega) (by assumption) (by omega) (by omega) (by omega) | exact VALz_c (by assumption) (by assumption) (by assumption) (by assumption) (by assumption) (by assumption) (by omega)) (by first | assumption | exact LB_of (by assumption) (by omega) (by omega) (by omega) | exact LB_e (by assumption) (by assumption) | exact LB_c (LB_of (by assumption) (by omega) (by omega) (by omega))) (by omega) (by omega)⟩
set_option maxHeartbeats 8000000 in
set_option maxRecDepth 200000 in
theorem ts_X10_laySeconds_12 {post : Nat → Int32 → Int32 → Int32 → Int32 → Int32 → Int32 → Int32 → Int32 → Int32 → (Nat → Int32) → Prop} {K2 : Int32 → Nat → Int32 → Int32 → Int32 → Int32 → Int32 → Int32 → Int32 → Int32 → Int32 → (Nat → Int32) → Prop} {next : Int32 → Int32 → Nat → Int32 → Int32 → Int32 → Int32 → Int32 → Int32 → Int32 → Int32 → Int32 → (Nat → Int32) → Prop} {n12 n2 : Int} (bW aG bU : Int32) (m_x jA pY oY pR rG rQ : Nat → Int32) (h_m_fruits : 0 ≤ Int32.toInt bW ∧ Int32.toInt bW ≤ 16) (h_m_standings : 0 ≤ Int32.toInt aG ∧ Int32.toInt aG ≤ 8) (h_m_ruleSize : 0 ≤ Int32.toInt bU ∧ Int32.toInt bU ≤ 40) (h_m_x : ∀ k : Nat, 0 ≤ Int32.toInt (m_x k) ∧ Int32.toInt (m_x k) ≤ 99) (h_m_height : ∀ k : Nat, 0 ≤ Int32.toInt (jA k) ∧ Int32.toInt (jA k) ≤ 99) (h_m_worth : ∀ k : Nat, 0 ≤ Int32.toInt (pY k) ∧ Int32.toInt (pY k) ≤ 9) (h_m_foot : ∀ k : Nat, 0 ≤ Int32.toInt (oY k) ∧ Int32.toInt (oY k) ≤ 99) (h_m_fork : ∀ k : Nat, 0 ≤ Int32.toInt (pR k) ∧ Int32.toInt (pR k) ≤ 99) (h_m_text : ∀ k : Nat, -128 ≤ Int32.toInt (rG k) ∧ Int32.toInt (rG k) ≤ 127) (h_m_rule : ∀ k : Nat, -128 ≤ Int32.toInt (rQ k) ∧ Int32.toInt (rQ k) ≤ 127) (hpost : ∀ (m_read' : Nat) (m_length' : Int32) (m_top' : Int32) (m_at' : Int32) (m_wrong' : Int32) (m_isAsked' : Int32) (m_askedFruit' : Int32) (m_askedStanding' : Int32) (m_askedHook' : Int32) (m_askedApron' : Int32) (m_handSeconds' : Nat → Int32), (m_read' = 0 ∨ m_read' = 1 ∨ m_read' = 2) → (0 ≤ Int32.toInt m_length' ∧ Int32.toInt m_length' ≤ 80) → (0 ≤ Int32.toInt m_top' ∧ Int32.toInt m_top' ≤ 80) → (0 ≤ Int32.toInt m_at' ∧ Int32.toInt m_at' ≤ 80) → (-1 ≤ Int32.toInt m_wrong' ∧ Int32.toInt m_wrong' ≤ 80) → (0 ≤ Int32.toInt m_isAsked' ∧ Int32.toInt m_isAsked' ≤ 0) → (0 ≤ Int32.toInt m_askedFruit' ∧ Int32.toInt m_askedFruit' ≤ 15) → (0 ≤ Int32.toInt m_askedStanding' ∧ Int32.toInt m_askedStanding' ≤ 7) → (0 ≤ Int32.toInt m_askedHook' ∧ Int32.toInt m_askedHook' ≤ 1) → (0 ≤ Int32.toInt m_askedApron' ∧ Int32.toInt m_askedApron' ≤ 63) → (∀ k : Nat, 0 ≤ Int32.toInt (m_handSeconds' k) ∧ Int32.toInt (m_handSeconds' k) ≤ 99) → post m_read' m_length' m_top' m_at' m_wrong' m_isAsked' m_askedFruit' m_askedStanding' m_askedHook' m_askedApron' m_handSeconds') (hK2 : ∀ (x1 : Int32) (jY : Nat) (m_length : Int32) (qG : Int32) (uW : Int32) (eY : Int32) (dN : Int32) (aR : Int32) (aE : Int32) (bJ : Int32) (aW : Int32) (nU : Nat → Int32), (0 ≤ Int32.toInt x1 ∧ Int32.toInt x1 ≤ 8) → (jY = 0 ∨ jY = 1 ∨ jY = 2) → (0 ≤ Int32.toInt m_length ∧ Int32.toInt m_length ≤ 80) → (0 ≤ Int32.toInt qG ∧ Int32.toInt qG ≤ 80) → (0 ≤ Int32.toInt uW ∧ Int32.toInt uW ≤ 80) → (-1 ≤ Int32.toInt eY ∧ Int32.toInt eY ≤ 80) → (0 ≤ Int32.toInt dN ∧ Int32.toInt dN ≤ 0) → (0 ≤ Int32.toInt aR ∧ Int32.toInt aR ≤ 15) → (0 ≤ Int32.toInt aE ∧ Int32.toInt aE ≤ 7) → (0 ≤ Int32.toInt bJ ∧ Int32.toInt bJ ≤ 1) → (0 ≤ Int32.toInt aW ∧ Int32.toInt aW ≤ 63) → (∀ k : Nat, 0 ≤ Int32.toInt (nU k) ∧ Int32.toInt (nU k) ≤ 99) → (8 - Int32.toInt x1 < n2) → K2 x1 jY m_length qG uW eY dN aR aE bJ aW nU) (hKn : ∀ (x1 : Int32) (x2 : Int32) (jY : Nat) (m_length : Int32) (qG : Int32) (uW : Int32) (eY : Int32) (dN : Int32) (aR : Int32) (aE : Int32) (bJ : Int32) (aW : Int32) (nU : Nat → Int32), (0 ≤ Int32.toInt x1 ∧ Int32.toInt x1 ≤ 7) → (0 ≤ Int32.toInt x2 ∧ Int32.toInt x2 ≤ 16) → (jY = 0 ∨ jY = 1 ∨ jY = 2) → (0 ≤ Int32.toInt m_length ∧ Int32.toInt m_length ≤ 80) → (0 ≤ Int32.toInt qG ∧ Int32.toInt qG ≤ 80) → (0 ≤ Int32.toInt uW ∧ Int32.toInt uW ≤ 80) → (-1 ≤ Int32.toInt eY ∧ Int32.toInt eY ≤ 80) → (0 ≤ Int32.toInt dN ∧ Int32.toInt dN ≤ 0) → (0 ≤ Int32.toInt aR ∧ Int32.toInt aR ≤ 15) → (0 ≤ Int32.toInt aE ∧ Int32.toInt aE ≤ 7) → (0 ≤ Int32.toInt bJ ∧ Int32.toInt bJ ≤ 1) → (0 ≤ Int32.toInt aW ∧ Int32.toInt aW ≤ 63) → (∀ k : Nat, 0 ≤ Int32.toInt (nU k) ∧ Int32.toInt (nU k) ≤ 99) → (8 - Int32.toInt x1 ≤ n2) → (16 - Int32.toInt x2 < n12) → next x1 x2 jY m_length qG uW eY dN aR aE bJ aW nU) (x1 x2 : Int32) (jY : Nat) (m_length qG uW eY dN aR aE bJ aW : Int32) (nU : Nat → Int32) (h_x1 : 0 ≤ Int32.toInt x1 ∧ Int32.toInt x1 ≤ 7) (h_x2 : 0 ≤ Int32.toInt x2 ∧ Int32.toInt x2 ≤ 16) (h_m_read : jY = 0 ∨ jY = 1 ∨ jY = 2) (h_m_length : 0 ≤ Int32.toInt m_length ∧ Int32.toInt m_length ≤ 80) (h_m_top : 0 ≤ Int32.toInt qG ∧ Int32.toInt qG ≤ 80) (h_m_at : 0 ≤ Int32.toInt uW ∧ Int32.toInt uW ≤ 80) (h_m_wrong : -1 ≤ Int32.toInt eY ∧ Int32.toInt eY ≤ 80) (h_m_isAsked : 0 ≤ Int32.toInt dN ∧ Int32.toInt dN ≤ 0) (h_m_askedFruit : 0 ≤ Int32.toInt aR ∧ Int32.toInt aR ≤ 15) (h_m_askedStanding : 0 ≤ Int32.toInt aE ∧ Int32.toInt aE ≤ 7) (h_m_askedHook : 0 ≤ Int32.toInt bJ ∧ Int32.toInt bJ ≤ 1) (h_m_askedApron : 0 ≤ Int32.toInt aW ∧ Int32.toInt aW ≤ 63) (h_m_handSeconds : ∀ k : Nat, 0 ≤ Int32.toInt (nU k) ∧ Int32.toInt (nU k) ≤ 99) (hn2 : 8 - Int32.toInt x1 ≤ n2) (hn12 : 16 - Int32.toInt x2 ≤ n12) : ws_X10_laySeconds_12 post K2 next bW aG bU m_x jA pY oY pR rG rQ x1 x2 jY m_length qG uW eY dN aR aE bJ aW nU := by
  have l0 := li_0
  have l1 := li_1
  have l2 := li_16
  refine And.intro (fun c1 => ?_) (fun c1 => ?_)
  · skip
    have c1 := (fa_le _ _).mp c1
    intro v2 ev2
    have f3 : Int32.toInt (x1 + 1) = Int32.toInt x1 + Int32.toInt (1 : Int32) := ta_add _ _ (by omega)
    rw [← ev2] at f3
    exact hK2 v2 jY m_length qG uW eY dN aR aE bJ aW nU (by omega) h_m_read h_m_length h_m_top h_m_at h_m_wrong h_m_isAsked h_m_askedFruit h_m_askedStanding h_m_askedHook h_m_askedApron h_m_handSeconds (by omega)
  · skip
    have c1 := mt (fa_le _ _).mpr c1
    intro v4 ev4
    have f5 : Int32.toInt (16 * x1) = Int32.toInt x1 * 16 := ta_cmul _ _ (by decide) (by omega)
    rw [← ev4] at f5
    intro v6 ev6
    have f7 : Int32.toInt (v4 + x2) = Int32.toInt v4 + Int32.toInt x2 := ta_add _ _ (by omega)
    rw [← ev6] at f7
    refine t_X10_secondsOf (by omega) h_x1 (by omega) (by omega) h_m_read h_m_length h_m_top h_m_at h_m_wrong h_m_ruleSize h_m_isAsked h_m_askedFruit h_m_askedStanding h_m_askedHook h_m_askedApron h_m_x h_m_height h_m_worth h_m_foot h_m_fork h_m_text h_m_rule (fun r18 m_read_8 m_length_9 m_top_10 aGk aAQ aJW aEG aB7 aF7 aEH h_r18 h_m_read_8 h_m_length_9 h_m_top_10 h_m_at_11 h_m_wrong_12 h_m_isAsked_13 h_m_askedFruit_14 h_m_askedStanding_15 h_m_askedHook_16 h_m_askedApron_17 => ?_)
    refine And.intro (t_in (by omega)) ?_
    have a19 : ∀ k : Nat, 0 ≤ Int32.toInt ((upd nU v6.toNatClampNeg r18) k) ∧ Int32.toInt ((upd nU v6.toNatClampNeg r18) k) ≤ 99 := t_upd (fun k => by have q9 := h_m_handSeconds k; omega) (by omega)
    intro v20 ev20
    have f21 : Int32.toInt (x2 + 1) = Int32.toInt x2 + Int32.toInt (1 : Int32) := ta_add _ _ (by omega)
    rw [← ev20] at f21
    exact hKn x1 v20 m_read_8 m_length_9 m_top_10 aGk aAQ aJW aEG aB7 aF7 aEH (upd nU v6.toNatClampNeg r18) h_x1 (by omega) h_m_read_8 h_m_length_9 h_m_top_10 h_m_at_11 h_m_wrong_12 h_m_isAsked_13 h_m_askedFruit_14 h_m_askedStanding_15 h_m_askedHook_16 h_m_askedApron_17 (fun k => by have q9 := a19 k; omega) hn2 (by omega)
set_option maxHeartbeats 8000000 in
set_option maxRecDepth 200000 in
theorem tb_X10_laySeconds_12 {post : Nat → Int32 → Int32 → Int32 → Int32 → Int32 → Int32 → Int32 → Int32 → Int32 → (Nat → Int32) → Prop} {K2 : Int32 → Nat → Int32 → Int32 → Int32 → Int32 → Int32 → Int32 → Int32 → Int32 → Int32 → (Nat → Int32) → Prop} {n2 : Int} (bW aG bU : Int32) (m_x jA pY oY pR rG rQ : Nat → Int32) (h_m_fruits : 0 ≤ Int32.toInt bW ∧ Int32.toInt bW ≤ 16) (h_m_standings : 0 ≤ Int32.toInt aG ∧ Int32.toInt aG ≤ 8) (h_m_ruleSize : 0 ≤ Int32.toInt bU ∧ Int32.toInt bU ≤ 40) (h_m_x : ∀ k : Nat, 0 ≤ Int32.toInt (m_x k) ∧ Int32.toInt (m_x k) ≤ 99) (h_m_height : ∀ k : Nat, 0 ≤ Int32.toInt (jA k) ∧ Int32.toInt (jA k) ≤ 99) (h_m_worth : ∀ k : Nat, 0 ≤ Int32.toInt (pY k) ∧ Int32.toInt (pY k) ≤ 9) (h_m_foot : ∀ k : Nat, 0 ≤ Int32.toInt (oY k) ∧ Int32.toInt (oY k) ≤ 99) (h_m_fork : ∀ k : Nat, 0 ≤ Int32.toInt (pR k) ∧ Int32.toInt (pR k) ≤ 99) (h_m_text : ∀ k : Nat, -128 ≤ Int32.toInt (rG k) ∧ Int32.toInt (rG k) ≤ 127) (h_m_rule : ∀ k : Nat, -128 ≤ Int32.toInt (rQ k) ∧ Int32.toInt (rQ k) ≤ 127) (hpost : ∀ (m_read' : Nat) (m_length' : Int32) (m_top' : Int32) (m_at' : Int32) (m_wrong' : Int32) (m_isAsked' : Int32) (m_askedFruit' : Int32) (m_askedStanding' : Int32) (m_askedHook' : Int32) (m_askedApron' : Int32) (m_handSeconds' : Nat → Int32), (m_read' = 0 ∨ m_read' = 1 ∨ m_read' = 2) → (0 ≤ Int32.toInt m_length' ∧ Int32.toInt m_length' ≤ 80) → (0 ≤ Int32.toInt m_top' ∧ Int32.toInt m_top' ≤ 80) → (0 ≤ Int32.toInt m_at' ∧ Int32.toInt m_at' ≤ 80) → (-1 ≤ Int32.toInt m_wrong' ∧ Int32.toInt m_wrong' ≤ 80) → (0 ≤ Int32.toInt m_isAsked' ∧ Int32.toInt m_isAsked' ≤ 0) → (0 ≤ Int32.toInt m_askedFruit' ∧ Int32.toInt m_askedFruit' ≤ 15) → (0 ≤ Int32.toInt m_askedStanding' ∧ Int32.toInt m_askedStanding' ≤ 7) → (0 ≤ Int32.toInt m_askedHook' ∧ Int32.toInt m_askedHook' ≤ 1) → (0 ≤ Int32.toInt m_askedApron' ∧ Int32.toInt m_askedApron' ≤ 63) → (∀ k : Nat, 0 ≤ Int32.toInt (m_handSeconds' k) ∧ Int32.toInt (m_handSeconds' k) ≤ 99) → post m_read' m_length' m_top' m_at' m_wrong' m_isAsked' m_askedFruit' m_askedStanding' m_askedHook' m_askedApron' m_handSeconds') (hK2 : ∀ (x1 : Int32) (jY : Nat) (m_length : Int32) (qG : Int32) (uW : Int32) (eY : Int32) (dN : Int32) (aR : Int32) (aE : Int32) (bJ : Int32) (aW : Int32) (nU : Nat → Int32), (0 ≤ Int32.toInt x1 ∧ Int32.toInt x1 ≤ 8) → (jY = 0 ∨ jY = 1 ∨ jY = 2) → (0 ≤ Int32.toInt m_length ∧ Int32.toInt m_length ≤ 80) → (0 ≤ Int32.toInt qG ∧ Int32.toInt qG ≤ 80) → (0 ≤ Int32.toInt uW ∧ Int32.toInt uW ≤ 80) → (-1 ≤ Int32.toInt eY ∧ Int32.toInt eY ≤ 80) → (0 ≤ Int32.toInt dN ∧ Int32.toInt dN ≤ 0) → (0 ≤ Int32.toInt aR ∧ Int32.toInt aR ≤ 15) → (0 ≤ Int32.toInt aE ∧ Int32.toInt aE ≤ 7) → (0 ≤ Int32.toInt bJ ∧ Int32.toInt bJ ≤ 1) → (0 ≤ Int32.toInt aW ∧ Int32.toInt aW ≤ 63) → (∀ k : Nat, 0 ≤ Int32.toInt (nU k) ∧ Int32.toInt (nU k) ≤ 99) → (8 - Int32.toInt x1 < n2) → K2 x1 jY m_length qG uW eY dN aR aE bJ aW nU) : ∀ (n : Nat) (x1 x2 : Int32) (jY : Nat) (m_length qG uW eY dN aR aE bJ aW : Int32) (nU : Nat → Int32), (0 ≤ Int32.toInt x1 ∧ Int32.toInt x1 ≤ 7) → (0 ≤ Int32.toInt x2 ∧ Int32.toInt x2 ≤ 16) → (jY = 0 ∨ jY = 1 ∨ jY = 2) → (0 ≤ Int32.toInt m_length ∧ Int32.toInt m_length ≤ 80) → (0 ≤ Int32.toInt qG ∧ Int32.toInt qG ≤ 80) → (0 ≤ Int32.toInt uW ∧ Int32.toInt uW ≤ 80) → (-1 ≤ Int32.toInt eY ∧ Int32.toInt eY ≤ 80) → (0 ≤ Int32.toInt dN ∧ Int32.toInt dN ≤ 0) → (0 ≤ Int32.toInt aR ∧ Int32.toInt aR ≤ 15) → (0 ≤ Int32.toInt aE ∧ Int32.toInt aE ≤ 7) → (0 ≤ Int32.toInt bJ ∧ Int32.toInt bJ ≤ 1) → (0 ≤ Int32.toInt aW ∧ Int32.toInt aW ≤ 63) → (∀ k : Nat, 0 ≤ Int32.toInt (nU k) ∧ Int32.toInt (nU k) ≤ 99) → (8 - Int32.toInt x1 ≤ n2) → (16 - Int32.toInt x2 < (n : Int)) → wb_X10_laySeconds_12 post K2 bW aG bU m_x jA pY oY pR rG rQ n x1 x2 jY m_length qG uW eY dN aR aE bJ aW nU := by
  intro n
  induction n with
  | zero =>
    intro x1 x2 jY m_length qG uW eY dN aR aE bJ aW nU h_x1 h_x2 h_m_read h_m_length h_m_top h_m_at h_m_wrong h_m_isAsked h_m_askedFruit h_m_askedStanding h_m_askedHook h_m_askedApron h_m_handSeconds hn2 hm
    exfalso; omega
  | succ n ih =>
    intro x1 x2 jY m_length qG uW eY dN aR aE bJ aW nU h_x1 h_x2 h_m_read h_m_length h_m_top h_m_at h_m_wrong h_m_isAsked h_m_askedFruit h_m_askedStanding h_m_askedHook h_m_askedApron h_m_handSeconds hn2 hm
    exact ts_X10_laySeconds_12 bW aG bU m_x jA pY oY pR rG rQ h_m_fruits h_m_standings h_m_ruleSize h_m_x h_m_height h_m_worth h_m_foot h_m_fork h_m_text h_m_rule hpost hK2 ih x1 x2 jY m_length qG uW eY dN aR aE bJ aW nU h_x1 h_x2 h_m_read h_m_length h_m_top h_m_at h_m_wrong h_m_isAsked h_m_askedFruit h_m_askedStanding h_m_askedHook h_m_askedApron h_m_handSeconds hn2 (by omega)
set_option maxHeartbeats 8000000 in
set_option maxRecDepth 200000 in
theorem ts_X10_laySeconds_2 {post : Nat → Int32 → Int32 → Int32 → Int32 → Int32 → Int32 → Int32 → Int32 → Int32 → (Nat → Int32) → Prop} {next : Int32 → Nat → Int32 → Int32 → Int32 → Int32 → Int32 → Int32 → Int32 → Int32 → Int32 → (Nat → Int32) → Prop} {n2 : Int} (bW aG bU : Int32) (m_x jA pY oY pR rG rQ : Nat → Int32) (h_m_fruits : 0 ≤ Int32.toInt bW ∧ Int32.toInt bW ≤ 16) (h_m_standings : 0 ≤ Int32.toInt aG ∧ Int32.toInt aG ≤ 8) (h_m_ruleSize : 0 ≤ Int32.toInt bU ∧ Int32.toInt bU ≤ 40) (h_m_x : ∀ k : Nat, 0 ≤ Int32.toInt (m_x k) ∧ Int32.toInt (m_x k) ≤ 99) (h_m_height : ∀ k : Nat, 0 ≤ Int32.toInt (jA k) ∧ Int32.toInt (jA k) ≤ 99) (h_m_worth : ∀ k : Nat, 0 ≤ Int32.toInt (pY k) ∧ Int32.toInt (pY k) ≤ 9) (h_m_foot : ∀ k : Nat, 0 ≤ Int32.toInt (oY k) ∧ Int32.toInt (oY k) ≤ 99) (h_m_fork : ∀ k : Nat, 0 ≤ Int32.toInt (pR k) ∧ Int32.toInt (pR k) ≤ 99) (h_m_text : ∀ k : Nat, -128 ≤ Int32.toInt (rG k) ∧ Int32.toInt (rG k) ≤ 127) (h_m_rule : ∀ k : Nat, -128 ≤ Int32.toInt (rQ k) ∧ Int32.toInt (rQ k) ≤ 127) (hpost : ∀ (m_read' : Nat) (m_length' : Int32) (m_top' : Int32) (m_at' : Int32) (m_wrong' : Int32) (m_isAsked' : Int32) (m_askedFruit' : Int32) (m_askedStanding' : Int32) (m_askedHook' : Int32) (m_askedApron' : Int32) (m_handSeconds' : Nat → Int32), (m_read' = 0 ∨ m_read' = 1 ∨ m_read' = 2) → (0 ≤ Int32.toInt m_length' ∧ Int32.toInt m_length' ≤ 80) → (0 ≤ Int32.toInt m_top' ∧ Int32.toInt m_top' ≤ 80) → (0 ≤ Int32.toInt m_at' ∧ Int32.toInt m_at' ≤ 80) → (-1 ≤ Int32.toInt m_wrong' ∧ Int32.toInt m_wrong' ≤ 80) → (0 ≤ Int32.toInt m_isAsked' ∧ Int32.toInt m_isAsked' ≤ 0) → (0 ≤ Int32.toInt m_askedFruit' ∧ Int32.toInt m_askedFruit' ≤ 15) → (0 ≤ Int32.toInt m_askedStanding' ∧ Int32.toInt m_askedStanding' ≤ 7) → (0 ≤ Int32.toInt m_askedHook' ∧ Int32.toInt m_askedHook' ≤ 1) → (0 ≤ Int32.toInt m_askedApron' ∧ Int32.toInt m_askedApron' ≤ 63) → (∀ k : Nat, 0 ≤ Int32.toInt (m_handSeconds' k) ∧ Int32.toInt (m_handSeconds' k) ≤ 99) → post m_read' m_length' m_top' m_at' m_wrong' m_isAsked' m_askedFruit' m_askedStanding' m_askedHook' m_askedApron' m_handSeconds') (hKn : ∀ (x1 : Int32) (jY : Nat) (m_length : Int32) (qG : Int32) (uW : Int32) (eY : Int32) (dN : Int32) (aR : Int32) (aE : Int32) (bJ : Int32) (aW : Int32) (nU : Nat → Int32), (0 ≤ Int32.toInt x1 ∧ Int32.toInt x1 ≤ 8) → (jY = 0 ∨ jY = 1 ∨ jY = 2) → (0 ≤ Int32.toInt m_length ∧ Int32.toInt m_length ≤ 80) → (0 ≤ Int32.toInt qG ∧ Int32.toInt qG ≤ 80) → (0 ≤ Int32.toInt uW ∧ Int32.toInt uW ≤ 80) → (-1 ≤ Int32.toInt eY ∧ Int32.toInt eY ≤ 80) → (0 ≤ Int32.toInt dN ∧ Int32.toInt dN ≤ 0) → (0 ≤ Int32.toInt aR ∧ Int32.toInt aR ≤ 15) → (0 ≤ Int32.toInt aE ∧ Int32.toInt aE ≤ 7) → (0 ≤ Int32.toInt bJ ∧ Int32.toInt bJ ≤ 1) → (0 ≤ Int32.toInt aW ∧ Int32.toInt aW ≤ 63) → (∀ k : Nat, 0 ≤ Int32.toInt (nU k) ∧ Int32.toInt (nU k) ≤ 99) → (8 - Int32.toInt x1 < n2) → next x1 jY m_length qG uW eY dN aR aE bJ aW nU) (x1 : Int32) (jY : Nat) (m_length qG uW eY dN aR aE bJ aW : Int32) (nU : Nat → Int32) (h_x1 : 0 ≤ Int32.toInt x1 ∧ Int32.toInt x1 ≤ 8) (h_m_read : jY = 0 ∨ jY = 1 ∨ jY = 2) (h_m_length : 0 ≤ Int32.toInt m_length ∧ Int32.toInt m_length ≤ 80) (h_m_top : 0 ≤ Int32.toInt qG ∧ Int32.toInt qG ≤ 80) (h_m_at : 0 ≤ Int32.toInt uW ∧ Int32.toInt uW ≤ 80) (h_m_wrong : -1 ≤ Int32.toInt eY ∧ Int32.toInt eY ≤ 80) (h_m_isAsked : 0 ≤ Int32.toInt dN ∧ Int32.toInt dN ≤ 0) (h_m_askedFruit : 0 ≤ Int32.toInt aR ∧ Int32.toInt aR ≤ 15) (h_m_askedStanding : 0 ≤ Int32.toInt aE ∧ Int32.toInt aE ≤ 7) (h_m_askedHook : 0 ≤ Int32.toInt bJ ∧ Int32.toInt bJ ≤ 1) (h_m_askedApron : 0 ≤ Int32.toInt aW ∧ Int32.toInt aW ≤ 63) (h_m_handSeconds : ∀ k : Nat, 0 ≤ Int32.toInt (nU k) ∧ Int32.toInt (nU k) ≤ 99) (hn2 : 8 - Int32.toInt x1 ≤ n2) : ws_X10_laySeconds_2 post next bW aG bU m_x jA pY oY pR rG rQ x1 jY m_length qG uW eY dN aR aE bJ aW nU := by
  have l0 := li_0
  refine And.intro (fun c22 => ?_) (fun c22 => ?_)
  · skip
    have c22 := (fa_le _ _).mp c22
    exact hpost _ _ _ _ _ _ _ _ _ _ _ h_m_read h_m_length h_m_top h_m_at h_m_wrong h_m_isAsked h_m_askedFruit h_m_askedStanding h_m_askedHook h_m_askedApron h_m_handSeconds
  · skip
    have c22 := mt (fa_le _ _).mpr c22
    exact ⟨18, tb_X10_laySeconds_12 bW aG bU m_x jA pY oY pR rG rQ h_m_fruits h_m_standings h_m_ruleSize h_m_x h_m_height h_m_worth h_m_foot h_m_fork h_m_text h_m_rule hpost hKn _ x1 0 jY m_length qG uW eY dN aR aE bJ aW nU (by omega) (by omega) h_m_read h_m_length h_m_top h_m_at h_m_wrong h_m_isAsked h_m_askedFruit h_m_askedStanding h_m_askedHook h_m_askedApron h_m_handSeconds hn2 (by omega)⟩
set_option maxHeartbeats 8000000 in
set_option maxRecDepth 200000 in
theorem tb_X10_laySeconds_2 {post : Nat → Int32 → Int32 → Int32 → Int32 → Int32 → Int32 → Int32 → Int32 → Int32 → (Nat → Int32) → Prop} (bW aG bU : Int32) (m_x jA pY oY pR rG rQ : Nat → Int32) (h_m_fruits : 0 ≤ Int32.toInt bW ∧ Int32.toInt bW ≤ 16) (h_m_standings : 0 ≤ Int32.toInt aG ∧ Int32.toInt aG ≤ 8) (h_m_ruleSize : 0 ≤ Int32.toInt bU ∧ Int32.toInt bU ≤ 40) (h_m_x : ∀ k : Nat, 0 ≤ Int32.toInt (m_x k) ∧ Int32.toInt (m_x k) ≤ 99) (h_m_height : ∀ k : Nat, 0 ≤ Int32.toInt (jA k) ∧ Int32.toInt (jA k) ≤ 99) (h_m_worth : ∀ k : Nat, 0 ≤ Int32.toInt (pY k) ∧ Int32.toInt (pY k) ≤ 9) (h_m_foot : ∀ k : Nat, 0 ≤ Int32.toInt (oY k) ∧ Int32.toInt (oY k) ≤ 99) (h_m_fork : ∀ k : Nat, 0 ≤ Int32.toInt (pR k) ∧ Int32.toInt (pR k) ≤ 99) (h_m_text : ∀ k : Nat, -128 ≤ Int32.toInt (rG k) ∧ Int32.toInt (rG k) ≤ 127) (h_m_rule : ∀ k : Nat, -128 ≤ Int32.toInt (rQ k) ∧ Int32.toInt (rQ k) ≤ 127) (hpost : ∀ (m_read' : Nat) (m_length' : Int32) (m_top' : Int32) (m_at' : Int32) (m_wrong' : Int32) (m_isAsked' : Int32) (m_askedFruit' : Int32) (m_askedStanding' : Int32) (m_askedHook' : Int32) (m_askedApron' : Int32) (m_handSeconds' : Nat → Int32), (m_read' = 0 ∨ m_read' = 1 ∨ m_read' = 2) → (0 ≤ Int32.toInt m_length' ∧ Int32.toInt m_length' ≤ 80) → (0 ≤ Int32.toInt m_top' ∧ Int32.toInt m_top' ≤ 80) → (0 ≤ Int32.toInt m_at' ∧ Int32.toInt m_at' ≤ 80) → (-1 ≤ Int32.toInt m_wrong' ∧ Int32.toInt m_wrong' ≤ 80) → (0 ≤ Int32.toInt m_isAsked' ∧ Int32.toInt m_isAsked' ≤ 0) → (0 ≤ Int32.toInt m_askedFruit' ∧ Int32.toInt m_askedFruit' ≤ 15) → (0 ≤ Int32.toInt m_askedStanding' ∧ Int32.toInt m_askedStanding' ≤ 7) → (0 ≤ Int32.toInt m_askedHook' ∧ Int32.toInt m_askedHook' ≤ 1) → (0 ≤ Int32.toInt m_askedApron' ∧ Int32.toInt m_askedApron' ≤ 63) → (∀ k : Nat, 0 ≤ Int32.toInt (m_handSeconds' k) ∧ Int32.toInt (m_handSeconds' k) ≤ 99) → post m_read' m_length' m_top' m_at' m_wrong' m_isAsked' m_askedFruit' m_askedStanding' m_askedHook' m_askedApron' m_handSeconds') : ∀ (n : Nat) (x1 : Int32) (jY : Nat) (m_length qG uW eY dN aR aE bJ aW : Int32) (nU : Nat → Int32), (0 ≤ Int32.toInt x1 ∧ Int32.toInt x1 ≤ 8) → (jY = 0 ∨ jY = 1 ∨ jY = 2) → (0 ≤ Int32.toInt m_length ∧ Int32.toInt m_length ≤ 80) → (0 ≤ Int32.toInt qG ∧ Int32.toInt qG ≤ 80) → (0 ≤ Int32.toInt uW ∧ Int32.toInt uW ≤ 80) → (-1 ≤ Int32.toInt eY ∧ Int32.toInt eY ≤ 80) → (0 ≤ Int32.toInt dN ∧ Int32.toInt dN ≤ 0) → (0 ≤ Int32.toInt aR ∧ Int32.toInt aR ≤ 15) → (0 ≤ Int32.toInt aE ∧ Int32.toInt aE ≤ 7) → (0 ≤ Int32.toInt bJ ∧ Int32.toInt bJ ≤ 1) → (0 ≤ Int32.toInt aW ∧ Int32.toInt aW ≤ 63) → (∀ k : Nat, 0 ≤ Int32.toInt (nU k) ∧ Int32.toInt (nU k) ≤ 99) → (8 - Int32.toInt x1 < (n : Int)) → wb_X10_laySeconds_2 post bW aG bU m_x jA pY oY pR rG rQ n x1 jY m_length qG uW eY dN aR aE bJ aW nU := by
  intro n
  induction n with
  | zero =>
    intro x1 jY m_length qG uW eY dN aR aE bJ aW nU h_x1 h_m_read h_m_length h_m_top h_m_at h_m_wrong h_m_isAsked h_m_askedFruit h_m_askedStanding h_m_askedHook h_m_askedApron h_m_handSeconds hm
    exfalso; omega
  | succ n ih =>
    intro x1 jY m_length qG uW eY dN aR aE bJ aW nU h_x1 h_m_read h_m_length h_m_top h_m_at h_m_wrong h_m_isAsked h_m_askedFruit h_m_askedStanding h_m_askedHook h_m_askedApron h_m_handSeconds hm
    exact ts_X10_laySeconds_2 bW aG bU m_x jA pY oY pR rG rQ h_m_fruits h_m_standings h_m_ruleSize h_m_x h_m_height h_m_worth h_m_foot h_m_fork h_m_text h_m_rule hpost ih x1 jY m_length qG uW eY dN aR aE bJ aW nU h_x1 h_m_read h_m_length h_m_top h_m_at h_m_wrong h_m_isAsked h_m_askedFruit h_m_askedStanding h_m_askedHook h_m_askedApron h_m_handSeconds (by omega)
set_option maxHeartbeats 8000000 in
set_option maxRecDepth 200000 in
theorem t_X10_laySeconds {post : Nat → Int32 → Int32 → Int32 → Int32 → Int32 → Int32 → Int32 → Int32 → Int32 → (Nat → Int32) → Prop} {bW aG : Int32} {jY : Nat} {m_length qG uW eY bU dN aR aE bJ aW : Int32} {m_x jA pY oY pR rG rQ nU : Nat → Int32} (h_m_fruits : 0 ≤ Int32.toInt bW ∧ Int32.toInt bW ≤ 16) (h_m_standings : 0 ≤ Int32.toInt aG ∧ Int32.toInt aG ≤ 8) (h_m_read : jY = 0 ∨ jY = 1 ∨ jY = 2) (h_m_length : 0 ≤ Int32.toInt m_length ∧ Int32.toInt m_length ≤ 80) (h_m_top : 0 ≤ Int32.toInt qG ∧ Int32.toInt qG ≤ 80) (h_m_at : 0 ≤ Int32.toInt uW ∧ Int32.toInt uW ≤ 80) (h_m_wrong : -1 ≤ Int32.toInt eY ∧ Int32.toInt eY ≤ 80) (h_m_ruleSize : 0 ≤ Int32.toInt bU ∧ Int32.toInt bU ≤ 40) (h_m_isAsked : 0 ≤ Int32.toInt dN ∧ Int32.toInt dN ≤ 0) (h_m_askedFruit : 0 ≤ Int32.toInt aR ∧ Int32.toInt aR ≤ 15) (h_m_askedStanding : 0 ≤ Int32.toInt aE ∧ Int32.toInt aE ≤ 7) (h_m_askedHook : 0 ≤ Int32.toInt bJ ∧ Int32.toInt bJ ≤ 1) (h_m_askedApron : 0 ≤ Int32.toInt aW ∧ Int32.toInt aW ≤ 63) (h_m_x : ∀ k : Nat, 0 ≤ Int32.toInt (m_x k) ∧ Int32.toInt (m_x k) ≤ 99) (h_m_height : ∀ k : Nat, 0 ≤ Int32.toInt (jA k) ∧ Int32.toInt (jA k) ≤ 99) (h_m_worth : ∀ k : Nat, 0 ≤ Int32.toInt (pY k) ∧ Int32.toInt (pY k) ≤ 9) (h_m_foot : ∀ k : Nat, 0 ≤ Int32.toInt (oY k) ∧ Int32.toInt (oY k) ≤ 99) (h_m_fork : ∀ k : Nat, 0 ≤ Int32.toInt (pR k) ∧ Int32.toInt (pR k) ≤ 99) (h_m_text : ∀ k : Nat, -128 ≤ Int32.toInt (rG k) ∧ Int32.toInt (rG k) ≤ 127) (h_m_rule : ∀ k : Nat, -128 ≤ Int32.toInt (rQ k) ∧ Int32.toInt (rQ k) ≤ 127) (h_m_handSeconds : ∀ k : Nat, 0 ≤ Int32.toInt (nU k) ∧ Int32.toInt (nU k) ≤ 99) (hpost : ∀ (m_read' : Nat) (m_length' : Int32) (m_top' : Int32) (m_at' : Int32) (m_wrong' : Int32) (m_isAsked' : Int32) (m_askedFruit' : Int32) (m_askedStanding' : Int32) (m_askedHook' : Int32) (m_askedApron' : Int32) (m_handSeconds' : Nat → Int32), (m_read' = 0 ∨ m_read' = 1 ∨ m_read' = 2) → (0 ≤ Int32.toInt m_length' ∧ Int32.toInt m_length' ≤ 80) → (0 ≤ Int32.toInt m_top' ∧ Int32.toInt m_top' ≤ 80) → (0 ≤ Int32.toInt m_at' ∧ Int32.toInt m_at' ≤ 80) → (-1 ≤ Int32.toInt m_wrong' ∧ Int32.toInt m_wrong' ≤ 80) → (0 ≤ Int32.toInt m_isAsked' ∧ Int32.toInt m_isAsked' ≤ 0) → (0 ≤ Int32.toInt m_askedFruit' ∧ Int32.toInt m_askedFruit' ≤ 15) → (0 ≤ Int32.toInt m_askedStanding' ∧ Int32.toInt m_askedStanding' ≤ 7) → (0 ≤ Int32.toInt m_askedHook' ∧ Int32.toInt m_askedHook' ≤ 1) → (0 ≤ Int32.toInt m_askedApron' ∧ Int32.toInt m_askedApron' ≤ 63) → (∀ k : Nat, 0 ≤ Int32.toInt (m_handSeconds' k) ∧ Int32.toInt (m_handSeconds' k) ≤ 99) → post m_read' m_length' m_top' m_at' m_wrong' m_isAsked' m_askedFruit' m_askedStanding' m_askedHook' m_askedApron' m_handSeconds') : wp_X10_laySeconds post bW aG jY m_length qG uW eY bU dN aR aE bJ aW m_x jA pY oY pR rG rQ nU := by
  have l0 := li_0
  exact ⟨10, tb_X10_laySeconds_2 bW aG bU m_x jA pY oY pR rG rQ h_m_fruits h_m_standings h_m_ruleSize h_m_x h_m_height h_m_worth h_m_foot h_m_fork h_m_text h_m_rule hpost _ 0 jY m_length qG uW eY dN aR aE bJ aW nU (by omega) h_m_read h_m_length h_m_top h_m_at h_m_wrong h_m_isAsked h_m_askedFruit h_m_askedStanding h_m_askedHook h_m_askedApron h_m_handSeconds (by omega)⟩
set_option maxHeartbeats 8000000 in
set_option maxRecDepth 200000 in
theorem ts_X10_workOf_202 {post : Int32 → Int32 → Int32 → Int32 → (Nat → Int32) → Prop} {SB : Int} {next : Int32 → Int32 → Int32 → Int32 → (Nat → Int32) → Prop} {n202 : Int} (bW aG dU : Int32) (rD pR pX tD uG nU : Nat → Int32) (h_m_fruits : 0 ≤ Int32.toInt bW ∧ Int32.toInt bW ≤ 16) (h_m_standings : 0 ≤ Int32.toInt aG ∧ Int32.toInt aG ≤ 8) (h_m_wanted : 0 ≤ Int32.toInt dU ∧ Int32.toInt dU ≤ 65535) (e0_m_now : ∀ k : Nat, k = 17 → -1 ≤ Int32.toInt (rD k) ∧ Int32.toInt (rD k) ≤ SB) (e1_m_now : ∀ k : Nat, k = 19 → 0 ≤ Int32.toInt (rD k) ∧ Int32.toInt (rD k) ≤ 9) (h_m_fork : ∀ k : Nat, 0 ≤ Int32.toInt (pR k) ∧ Int32.toInt (pR k) ≤ 99) (e0_m_told : ∀ k : Nat, k = 4 → 1 ≤ Int32.toInt (pX k) ∧ Int32.toInt (pX k) ≤ 30) (e1_m_told : ∀ k : Nat, k = 3 → 0 ≤ Int32.toInt (pX k) ∧ Int32.toInt (pX k) ≤ 9) (h_m_hand : ∀ k : Nat, 0 ≤ Int32.toInt (tD k) ∧ Int32.toInt (tD k) ≤ 65535) (h_m_moves : ∀ k : Nat, 0 ≤ Int32.toInt (uG k) ∧ Int32.toInt (uG k) ≤ 1000000) (h_m_handSeconds : ∀ k : Nat, 0 ≤ Int32.toInt (nU k) ∧ Int32.toInt (nU k) ≤ 99) (hc0 : -1 ≤ SB ∧ SB ≤ 7) (hc1 : (Int32.toInt aG ≤ 0 ∧ SB = 0) ∨ (1 ≤ Int32.toInt aG ∧ SB = Int32.toInt aG - 1)) (hpost : ∀ (r : Int32) (m_workMoves' : Int32) (m_workPicks' : Int32) (m_workDowns' : Int32) (m_load' : Nat → Int32), (0 ≤ Int32.toInt m_workMoves' ∧ Int32.toInt m_workMoves' ≤ 1000000) → post r m_workMoves' m_workPicks' m_workDowns' m_load') (hKn : ∀ (x2 : Int32) (bL : Int32) (bR : Int32) (bO : Int32) (vW : Nat → Int32), (0 ≤ Int32.toInt x2 ∧ Int32.toInt x2 ≤ 8) → (0 ≤ Int32.toInt bL ∧ Int32.toInt bL ≤ 1000000) → (8 - Int32.toInt x2 < n202) → next x2 bL bR bO vW) (x2 bL bR bO : Int32) (vW : Nat → Int32) (h_x2 : 0 ≤ Int32.toInt x2 ∧ Int32.toInt x2 ≤ 8) (h_m_workMoves : 0 ≤ Int32.toInt bL ∧ Int32.toInt bL ≤ 1000000) (hn202 : 8 - Int32.toInt x2 ≤ n202) : ws_X10_workOf_202 post next bW aG dU rD pR pX tD uG nU x2 bL bR bO vW := by
  have l0 := li_0
  have l1 := li_1
  have l2 := li_4
  have l3 := li_9
  refine And.intro (fun c1 => ?_) (fun c1 => ?_)
  · skip
    have c1 := (fa_le _ _).mp c1
    intro v2 ev2
    have hv2 := congrArg Int32.toInt ev2
    exact hpost _ _ _ _ _ h_m_workMoves
  · skip
    have c1 := mt (fa_le _ _).mpr c1
    refine And.intro (t_in (by omega)) ?_
    intro v4 ev4
    have hv4 := congrArg Int32.toInt ev4
    have q6 := e0_m_told (4 : Int32).toNatClampNeg (by have e9 : (4 : Int32).toNatClampNeg = (Int32.toInt (4 : Int32)).toNat := rfl; omega)
    intro v7 ev7
    have hv7 := congrArg Int32.toInt ev7
    intro v9 ev9
    have hv9 := congrArg Int32.toInt ev9
    have q11 := e0_m_told (4 : Int32).toNatClampNeg (by have e9 : (4 : Int32).toNatClampNeg = (Int32.toInt (4 : Int32)).toNat := rfl; omega)
    refine And.intro (mt (fa_eq _ _).mp (by omega)) ?_
    intro v13 ev13
    refine And.intro (t_in (by omega)) ?_
    intro v14 ev14
    have f15 := h_m_fork x2.toNatClampNeg
    have hv14 := congrArg Int32.toInt ev14
    intro v16 ev16
    have f17 : Int32.toInt (v14 + 9) = Int32.toInt v14 + Int32.toInt (9 : Int32) := ta_add _ _ (by omega)
    rw [← ev16] at f17
    intro v18 ev18
    have hv18 := congrArg Int32.toInt ev18
    intro v20 ev20
    have f21 : Int32.toInt (x2 + 1) = Int32.toInt x2 + Int32.toInt (1 : Int32) := ta_add _ _ (by omega)
    rw [← ev20] at f21
    have f22 := tp_r bR
    have f23 := tp_r v18
    exact hKn v20 bL bR v18 vW (by omega) h_m_workMoves (by omega)
set_option maxHeartbeats 8000000 in
set_option maxRecDepth 200000 in
theorem tb_X10_workOf_202 {post : Int32 → Int32 → Int32 → Int32 → (Nat → Int32) → Prop} {SB : Int} (bW aG dU : Int32) (rD pR pX tD uG nU : Nat → Int32) (h_m_fruits : 0 ≤ Int32.toInt bW ∧ Int32.toInt bW ≤ 16) (h_m_standings : 0 ≤ Int32.toInt aG ∧ Int32.toInt aG ≤ 8) (h_m_wanted : 0 ≤ Int32.toInt dU ∧ Int32.toInt dU ≤ 65535) (e0_m_now : ∀ k : Nat, k = 17 → -1 ≤ Int32.toInt (rD k) ∧ Int32.toInt (rD k) ≤ SB) (e1_m_now : ∀ k : Nat, k = 19 → 0 ≤ Int32.toInt (rD k) ∧ Int32.toInt (rD k) ≤ 9) (h_m_fork : ∀ k : Nat, 0 ≤ Int32.toInt (pR k) ∧ Int32.toInt (pR k) ≤ 99) (e0_m_told : ∀ k : Nat, k = 4 → 1 ≤ Int32.toInt (pX k) ∧ Int32.toInt (pX k) ≤ 30) (e1_m_told : ∀ k : Nat, k = 3 → 0 ≤ Int32.toInt (pX k) ∧ Int32.toInt (pX k) ≤ 9) (h_m_hand : ∀ k : Nat, 0 ≤ Int32.toInt (tD k) ∧ Int32.toInt (tD k) ≤ 65535) (h_m_moves : ∀ k : Nat, 0 ≤ Int32.toInt (uG k) ∧ Int32.toInt (uG k) ≤ 1000000) (h_m_handSeconds : ∀ k : Nat, 0 ≤ Int32.toInt (nU k) ∧ Int32.toInt (nU k) ≤ 99) (hc0 : -1 ≤ SB ∧ SB ≤ 7) (hc1 : (Int32.toInt aG ≤ 0 ∧ SB = 0) ∨ (1 ≤ Int32.toInt aG ∧ SB = Int32.toInt aG - 1)) (hpost : ∀ (r : Int32) (m_workMoves' : Int32) (m_workPicks' : Int32) (m_workDowns' : Int32) (m_load' : Nat → Int32), (0 ≤ Int32.toInt m_workMoves' ∧ Int32.toInt m_workMoves' ≤ 1000000) → post r m_workMoves' m_workPicks' m_workDowns' m_load') : ∀ (n : Nat) (x2 bL bR bO : Int32) (vW : Nat → Int32), (0 ≤ Int32.toInt x2 ∧ Int32.toInt x2 ≤ 8) → (0 ≤ Int32.toInt bL ∧ Int32.toInt bL ≤ 1000000) → (8 - Int32.toInt x2 < (n : Int)) → wb_X10_workOf_202 post bW aG dU rD pR pX tD uG nU n x2 bL bR bO vW := by
  intro n
  induction n with
  | zero =>
    intro x2 bL bR bO vW h_x2 h_m_workMoves hm
    exfalso; omega
  | succ n ih =>
    intro x2 bL bR bO vW h_x2 h_m_workMoves hm
    exact ts_X10_workOf_202 bW aG dU rD pR pX tD uG nU h_m_fruits h_m_standings h_m_wanted e0_m_now e1_m_now h_m_fork e0_m_told e1_m_told h_m_hand h_m_moves h_m_handSeconds hc0 hc1 hpost ih x2 bL bR bO vW h_x2 h_m_workMoves (by omega)
set_option maxHeartbeats 8000000 in
set_option maxRecDepth 200000 in
theorem ts_X10_workOf_194 {post : Int32 → Int32 → Int32 → Int32 → (Nat → Int32) → Prop} {SB : Int} {K57 : Int32 → Int32 → Int32 → Int32 → Int32 → (Nat → Int32) → Prop} {n57 : Int} (bW aG dU : Int32) (rD pR pX tD uG nU : Nat → Int32) (h_m_fruits : 0 ≤ Int32.toInt bW ∧ Int32.toInt bW ≤ 16) (h_m_standings : 0 ≤ Int32.toInt aG ∧ Int32.toInt aG ≤ 8) (h_m_wanted : 0 ≤ Int32.toInt dU ∧ Int32.toInt dU ≤ 65535) (e0_m_now : ∀ k : Nat, k = 17 → -1 ≤ Int32.toInt (rD k) ∧ Int32.toInt (rD k) ≤ SB) (e1_m_now : ∀ k : Nat, k = 19 → 0 ≤ Int32.toInt (rD k) ∧ Int32.toInt (rD k) ≤ 9) (h_m_fork : ∀ k : Nat, 0 ≤ Int32.toInt (pR k) ∧ Int32.toInt (pR k) ≤ 99) (e0_m_told : ∀ k : Nat, k = 4 → 1 ≤ Int32.toInt (pX k) ∧ Int32.toInt (pX k) ≤ 30) (e1_m_told : ∀ k : Nat, k = 3 → 0 ≤ Int32.toInt (pX k) ∧ Int32.toInt (pX k) ≤ 9) (h_m_hand : ∀ k : Nat, 0 ≤ Int32.toInt (tD k) ∧ Int32.toInt (tD k) ≤ 65535) (h_m_moves : ∀ k : Nat, 0 ≤ Int32.toInt (uG k) ∧ Int32.toInt (uG k) ≤ 1000000) (h_m_handSeconds : ∀ k : Nat, 0 ≤ Int32.toInt (nU k) ∧ Int32.toInt (nU k) ≤ 99) (hc0 : -1 ≤ SB ∧ SB ≤ 7) (hc1 : (Int32.toInt aG ≤ 0 ∧ SB = 0) ∨ (1 ≤ Int32.toInt aG ∧ SB = Int32.toInt aG - 1)) (hpost : ∀ (r : Int32) (m_workMoves' : Int32) (m_workPicks' : Int32) (m_workDowns' : Int32) (m_load' : Nat → Int32), (0 ≤ Int32.toInt m_workMoves' ∧ Int32.toInt m_workMoves' ≤ 1000000) → post r m_workMoves' m_workPicks' m_workDowns' m_load') (hK57 : ∀ (x1 : Int32) (x2 : Int32) (bL : Int32) (bR : Int32) (bO : Int32) (vW : Nat → Int32), (0 ≤ Int32.toInt x1 ∧ Int32.toInt x1 ≤ 255) → (0 ≤ Int32.toInt x2 ∧ Int32.toInt x2 ≤ 16) → (0 ≤ Int32.toInt bL ∧ Int32.toInt bL ≤ 1000000) → (0 ≤ Int32.toInt bO ∧ Int32.toInt bO ≤ 0) → (16 - Int32.toInt x2 < n57) → K57 x1 x2 bL bR bO vW) (x1 x2 bL bR bO : Int32) (vW : Nat → Int32) (h_x1 : 0 ≤ Int32.toInt x1 ∧ Int32.toInt x1 ≤ 255) (h_x2 : 0 ≤ Int32.toInt x2 ∧ Int32.toInt x2 ≤ 15) (h_m_workMoves : 0 ≤ Int32.toInt bL ∧ Int32.toInt bL ≤ 1000000) (h_m_workDowns : 0 ≤ Int32.toInt bO ∧ Int32.toInt bO ≤ 0) (hn57 : 16 - Int32.toInt x2 ≤ n57) : ws_X10_workOf_194 post K57 bW aG dU rD pR pX tD uG nU x1 x2 bL bR bO vW := by
  have l0 := li_1
  intro v24 ev24
  have f25 : Int32.toInt (x2 + 1) = Int32.toInt x2 + Int32.toInt (1 : Int32) := ta_add _ _ (by omega)
  rw [← ev24] at f25
  have f26 := tp_r bR
  exact hK57 x1 v24 bL bR bO vW h_x1 (by omega) h_m_workMoves h_m_workDowns (by omega)
set_option maxHeartbeats 8000000 in
set_option maxRecDepth 200000 in
theorem ts_X10_workOf_150 {post : Int32 → Int32 → Int32 → Int32 → (Nat → Int32) → Prop} {SB : Int} {K57 : Int32 → Int32 → Int32 → Int32 → Int32 → (Nat → Int32) → Prop} {K84 : Int32 → Int32 → Int32 → Int32 → Int32 → Int32 → Int32 → (Nat → Int32) → Prop} {n57 n84 : Int} (bW aG dU : Int32) (rD pR pX tD uG nU : Nat → Int32) (h_m_fruits : 0 ≤ Int32.toInt bW ∧ Int32.toInt bW ≤ 16) (h_m_standings : 0 ≤ Int32.toInt aG ∧ Int32.toInt aG ≤ 8) (h_m_wanted : 0 ≤ Int32.toInt dU ∧ Int32.toInt dU ≤ 65535) (e0_m_now : ∀ k : Nat, k = 17 → -1 ≤ Int32.toInt (rD k) ∧ Int32.toInt (rD k) ≤ SB) (e1_m_now : ∀ k : Nat, k = 19 → 0 ≤ Int32.toInt (rD k) ∧ Int32.toInt (rD k) ≤ 9) (h_m_fork : ∀ k : Nat, 0 ≤ Int32.toInt (pR k) ∧ Int32.toInt (pR k) ≤ 99) (e0_m_told : ∀ k : Nat, k = 4 → 1 ≤ Int32.toInt (pX k) ∧ Int32.toInt (pX k) ≤ 30) (e1_m_told : ∀ k : Nat, k = 3 → 0 ≤ Int32.toInt (pX k) ∧ Int32.toInt (pX k) ≤ 9) (h_m_hand : ∀ k : Nat, 0 ≤ Int32.toInt (tD k) ∧ Int32.toInt (tD k) ≤ 65535) (h_m_moves : ∀ k : Nat, 0 ≤ Int32.toInt (uG k) ∧ Int32.toInt (uG k) ≤ 1000000) (h_m_handSeconds : ∀ k : Nat, 0 ≤ Int32.toInt (nU k) ∧ Int32.toInt (nU k) ≤ 99) (hc0 : -1 ≤ SB ∧ SB ≤ 7) (hc1 : (Int32.toInt aG ≤ 0 ∧ SB = 0) ∨ (1 ≤ Int32.toInt aG ∧ SB = Int32.toInt aG - 1)) (hpost : ∀ (r : Int32) (m_workMoves' : Int32) (m_workPicks' : Int32) (m_workDowns' : Int32) (m_load' : Nat → Int32), (0 ≤ Int32.toInt m_workMoves' ∧ Int32.toInt m_workMoves' ≤ 1000000) → post r m_workMoves' m_workPicks' m_workDowns' m_load') (hK57 : ∀ (x1 : Int32) (x2 : Int32) (bL : Int32) (bR : Int32) (bO : Int32) (vW : Nat → Int32), (0 ≤ Int32.toInt x1 ∧ Int32.toInt x1 ≤ 255) → (0 ≤ Int32.toInt x2 ∧ Int32.toInt x2 ≤ 16) → (0 ≤ Int32.toInt bL ∧ Int32.toInt bL ≤ 1000000) → (0 ≤ Int32.toInt bO ∧ Int32.toInt bO ≤ 0) → (16 - Int32.toInt x2 < n57) → K57 x1 x2 bL bR bO vW) (hK84 : ∀ (x1 : Int32) (x2 : Int32) (x3 : Int32) (x4 : Int32) (bL : Int32) (bR : Int32) (bO : Int32) (vW : Nat → Int32), (0 ≤ Int32.toInt x1 ∧ Int32.toInt x1 ≤ 255) → (0 ≤ Int32.toInt x2 ∧ Int32.toInt x2 ≤ 15) → (-1 ≤ Int32.toInt x3 ∧ Int32.toInt x3 ≤ 7) → (0 ≤ Int32.toInt x4 ∧ Int32.toInt x4 ≤ 8) → (0 ≤ Int32.toInt bL ∧ Int32.toInt bL ≤ 1000000) → (0 ≤ Int32.toInt bO ∧ Int32.toInt bO ≤ 0) → (16 - Int32.toInt x2 ≤ n57) → (8 - Int32.toInt x4 < n84) → K84 x1 x2 x3 x4 bL bR bO vW) (x1 x2 x3 x4 bL bR bO : Int32) (vW : Nat → Int32) (h_x1 : 0 ≤ Int32.toInt x1 ∧ Int32.toInt x1 ≤ 255) (h_x2 : 0 ≤ Int32.toInt x2 ∧ Int32.toInt x2 ≤ 15) (h_x3 : -1 ≤ Int32.toInt x3 ∧ Int32.toInt x3 ≤ 7) (h_x4 : 0 ≤ Int32.toInt x4 ∧ Int32.toInt x4 ≤ 7) (h_m_workMoves : 0 ≤ Int32.toInt bL ∧ Int32.toInt bL ≤ 1000000) (h_m_workDowns : 0 ≤ Int32.toInt bO ∧ Int32.toInt bO ≤ 0) (hn57 : 16 - Int32.toInt x2 ≤ n57) (hn84 : 8 - Int32.toInt x4 ≤ n84) : ws_X10_workOf_150 post K57 K84 bW aG dU rD pR pX tD uG nU x1 x2 x3 x4 bL bR bO vW := by
  have l0 := li_1
  intro v27 ev27
  have f28 : Int32.toInt (x4 + 1) = Int32.toInt x4 + Int32.toInt (1 : Int32) := ta_add _ _ (by omega)
  rw [← ev27] at f28
  have f29 := tp_r bR
  exact hK84 x1 x2 x3 v27 bL bR bO vW h_x1 h_x2 h_x3 (by omega) h_m_workMoves h_m_workDowns hn57 (by omega)
set_option maxHeartbeats 8000000 in
set_option maxRecDepth 200000 in
theorem ts_X10_workOf_147 {post : Int32 → Int32 → Int32 → Int32 → (Nat → Int32) → Prop} {SB : Int} {K57 : Int32 → Int32 → Int32 → Int32 → Int32 → (Nat → Int32) → Prop} {K84 : Int32 → Int32 → Int32 → Int32 → Int32 → Int32 → Int32 → (Nat → Int32) → Prop} {n57 n84 : Int} (bW aG dU : Int32) (rD pR pX tD uG nU : Nat → Int32) (h_m_fruits : 0 ≤ Int32.toInt bW ∧ Int32.toInt bW ≤ 16) (h_m_standings : 0 ≤ Int32.toInt aG ∧ Int32.toInt aG ≤ 8) (h_m_wanted : 0 ≤ Int32.toInt dU ∧ Int32.toInt dU ≤ 65535) (e0_m_now : ∀ k : Nat, k = 17 → -1 ≤ Int32.toInt (rD k) ∧ Int32.toInt (rD k) ≤ SB) (e1_m_now : ∀ k : Nat, k = 19 → 0 ≤ Int32.toInt (rD k) ∧ Int32.toInt (rD k) ≤ 9) (h_m_fork : ∀ k : Nat, 0 ≤ Int32.toInt (pR k) ∧ Int32.toInt (pR k) ≤ 99) (e0_m_told : ∀ k : Nat, k = 4 → 1 ≤ Int32.toInt (pX k) ∧ Int32.toInt (pX k) ≤ 30) (e1_m_told : ∀ k : Nat, k = 3 → 0 ≤ Int32.toInt (pX k) ∧ Int32.toInt (pX k) ≤ 9) (h_m_hand : ∀ k : Nat, 0 ≤ Int32.toInt (tD k) ∧ Int32.toInt (tD k) ≤ 65535) (h_m_moves : ∀ k : Nat, 0 ≤ Int32.toInt (uG k) ∧ Int32.toInt (uG k) ≤ 1000000) (h_m_handSeconds : ∀ k : Nat, 0 ≤ Int32.toInt (nU k) ∧ Int32.toInt (nU k) ≤ 99) (hc0 : -1 ≤ SB ∧ SB ≤ 7) (hc1 : (Int32.toInt aG ≤ 0 ∧ SB = 0) ∨ (1 ≤ Int32.toInt aG ∧ SB = Int32.toInt aG - 1)) (hpost : ∀ (r : Int32) (m_workMoves' : Int32) (m_workPicks' : Int32) (m_workDowns' : Int32) (m_load' : Nat → Int32), (0 ≤ Int32.toInt m_workMoves' ∧ Int32.toInt m_workMoves' ≤ 1000000) → post r m_workMoves' m_workPicks' m_workDowns' m_load') (hK57 : ∀ (x1 : Int32) (x2 : Int32) (bL : Int32) (bR : Int32) (bO : Int32) (vW : Nat → Int32), (0 ≤ Int32.toInt x1 ∧ Int32.toInt x1 ≤ 255) → (0 ≤ Int32.toInt x2 ∧ Int32.toInt x2 ≤ 16) → (0 ≤ Int32.toInt bL ∧ Int32.toInt bL ≤ 1000000) → (0 ≤ Int32.toInt bO ∧ Int32.toInt bO ≤ 0) → (16 - Int32.toInt x2 < n57) → K57 x1 x2 bL bR bO vW) (hK84 : ∀ (x1 : Int32) (x2 : Int32) (x3 : Int32) (x4 : Int32) (bL : Int32) (bR : Int32) (bO : Int32) (vW : Nat → Int32), (0 ≤ Int32.toInt x1 ∧ Int32.toInt x1 ≤ 255) → (0 ≤ Int32.toInt x2 ∧ Int32.toInt x2 ≤ 15) → (-1 ≤ Int32.toInt x3 ∧ Int32.toInt x3 ≤ 7) → (0 ≤ Int32.toInt x4 ∧ Int32.toInt x4 ≤ 8) → (0 ≤ Int32.toInt bL ∧ Int32.toInt bL ≤ 1000000) → (0 ≤ Int32.toInt bO ∧ Int32.toInt bO ≤ 0) → (16 - Int32.toInt x2 ≤ n57) → (8 - Int32.toInt x4 < n84) → K84 x1 x2 x3 x4 bL bR bO vW) (x1 x2 x4 bL bR bO : Int32) (vW : Nat → Int32) (h_x1 : 0 ≤ Int32.toInt x1 ∧ Int32.toInt x1 ≤ 255) (h_x2 : 0 ≤ Int32.toInt x2 ∧ Int32.toInt x2 ≤ 15) (h_x4 : 0 ≤ Int32.toInt x4 ∧ Int32.toInt x4 ≤ 7) (h_m_workMoves : 0 ≤ Int32.toInt bL ∧ Int32.toInt bL ≤ 1000000) (h_m_workDowns : 0 ≤ Int32.toInt bO ∧ Int32.toInt bO ≤ 0) (hn57 : 16 - Int32.toInt x2 ≤ n57) (hn84 : 8 - Int32.toInt x4 ≤ n84) : ws_X10_workOf_147 post K57 K84 bW aG dU rD pR pX tD uG nU x1 x2 x4 bL bR bO vW := by
  have f30 := tp_r bR
  exact ts_X10_workOf_150 bW aG dU rD pR pX tD uG nU h_m_fruits h_m_standings h_m_wanted e0_m_now e1_m_now h_m_fork e0_m_told e1_m_told h_m_hand h_m_moves h_m_handSeconds hc0 hc1 hpost hK57 hK84 x1 x2 x4 x4 bL bR bO vW h_x1 h_x2 (by omega) h_x4 h_m_workMoves h_m_workDowns hn57 hn84
set_option maxHeartbeats 8000000 in
set_option maxRecDepth 200000 in
theorem ts_X10_workOf_84 {post : Int32 → Int32 → Int32 → Int32 → (Nat → Int32) → Prop} {SB : Int} {K57 : Int32 → Int32 → Int32 → Int32 → Int32 → (Nat → Int32) → Prop} {next : Int32 → Int32 → Int32 → Int32 → Int32 → Int32 → Int32 → (Nat → Int32) → Prop} {n84 n57 : Int} (bW aG dU : Int32) (rD pR pX tD uG nU : Nat → Int32) (h_m_fruits : 0 ≤ Int32.toInt bW ∧ Int32.toInt bW ≤ 16) (h_m_standings : 0 ≤ Int32.toInt aG ∧ Int32.toInt aG ≤ 8) (h_m_wanted : 0 ≤ Int32.toInt dU ∧ Int32.toInt dU ≤ 65535) (e0_m_now : ∀ k : Nat, k = 17 → -1 ≤ Int32.toInt (rD k) ∧ Int32.toInt (rD k) ≤ SB) (e1_m_now : ∀ k : Nat, k = 19 → 0 ≤ Int32.toInt (rD k) ∧ Int32.toInt (rD k) ≤ 9) (h_m_fork : ∀ k : Nat, 0 ≤ Int32.toInt (pR k) ∧ Int32.toInt (pR k) ≤ 99) (e0_m_told : ∀ k : Nat, k = 4 → 1 ≤ Int32.toInt (pX k) ∧ Int32.toInt (pX k) ≤ 30) (e1_m_told : ∀ k : Nat, k = 3 → 0 ≤ Int32.toInt (pX k) ∧ Int32.toInt (pX k) ≤ 9) (h_m_hand : ∀ k : Nat, 0 ≤ Int32.toInt (tD k) ∧ Int32.toInt (tD k) ≤ 65535) (h_m_moves : ∀ k : Nat, 0 ≤ Int32.toInt (uG k) ∧ Int32.toInt (uG k) ≤ 1000000) (h_m_handSeconds : ∀ k : Nat, 0 ≤ Int32.toInt (nU k) ∧ Int32.toInt (nU k) ≤ 99) (hc0 : -1 ≤ SB ∧ SB ≤ 7) (hc1 : (Int32.toInt aG ≤ 0 ∧ SB = 0) ∨ (1 ≤ Int32.toInt aG ∧ SB = Int32.toInt aG - 1)) (hpost : ∀ (r : Int32) (m_workMoves' : Int32) (m_workPicks' : Int32) (m_workDowns' : Int32) (m_load' : Nat → Int32), (0 ≤ Int32.toInt m_workMoves' ∧ Int32.toInt m_workMoves' ≤ 1000000) → post r m_workMoves' m_workPicks' m_workDowns' m_load') (hK57 : ∀ (x1 : Int32) (x2 : Int32) (bL : Int32) (bR : Int32) (bO : Int32) (vW : Nat → Int32), (0 ≤ Int32.toInt x1 ∧ Int32.toInt x1 ≤ 255) → (0 ≤ Int32.toInt x2 ∧ Int32.toInt x2 ≤ 16) → (0 ≤ Int32.toInt bL ∧ Int32.toInt bL ≤ 1000000) → (0 ≤ Int32.toInt bO ∧ Int32.toInt bO ≤ 0) → (16 - Int32.toInt x2 < n57) → K57 x1 x2 bL bR bO vW) (hKn : ∀ (x1 : Int32) (x2 : Int32) (x3 : Int32) (x4 : Int32) (bL : Int32) (bR : Int32) (bO : Int32) (vW : Nat → Int32), (0 ≤ Int32.toInt x1 ∧ Int32.toInt x1 ≤ 255) → (0 ≤ Int32.toInt x2 ∧ Int32.toInt x2 ≤ 15) → (-1 ≤ Int32.toInt x3 ∧ Int32.toInt x3 ≤ 7) → (0 ≤ Int32.toInt x4 ∧ Int32.toInt x4 ≤ 8) → (0 ≤ Int32.toInt bL ∧ Int32.toInt bL ≤ 1000000) → (0 ≤ Int32.toInt bO ∧ Int32.toInt bO ≤ 0) → (16 - Int32.toInt x2 ≤ n57) → (8 - Int32.toInt x4 < n84) → next x1 x2 x3 x4 bL bR bO vW) (x1 x2 x3 x4 bL bR bO : Int32) (vW : Nat → Int32) (h_x1 : 0 ≤ Int32.toInt x1 ∧ Int32.toInt x1 ≤ 255) (h_x2 : 0 ≤ Int32.toInt x2 ∧ Int32.toInt x2 ≤ 15) (h_x3 : -1 ≤ Int32.toInt x3 ∧ Int32.toInt x3 ≤ 7) (h_x4 : 0 ≤ Int32.toInt x4 ∧ Int32.toInt x4 ≤ 8) (h_m_workMoves : 0 ≤ Int32.toInt bL ∧ Int32.toInt bL ≤ 1000000) (h_m_workDowns : 0 ≤ Int32.toInt bO ∧ Int32.toInt bO ≤ 0) (hn57 : 16 - Int32.toInt x2 ≤ n57) (hn84 : 8 - Int32.toInt x4 ≤ n84) : ws_X10_workOf_84 post K57 next bW aG dU rD pR pX tD uG nU x1 x2 x3 x4 bL bR bO vW := by
  have l0 := li_m1
  have l1 := li_1
  have l2 := li_16
  refine And.intro (fun c31 => ?_) (fun c31 => ?_)
  · skip
    have c31 := (fa_le _ _).mp c31
    refine And.intro (fun c32 => ?_) (fun c32 => ?_)
    · skip
      have c32 := mt (fa_eq _ _).mpr c32
      intro v33 ev33
      have f34 : Int32.toInt (16 * x3) = Int32.toInt x3 * 16 := ta_cmul _ _ (by decide) (by omega)
      rw [← ev33] at f34
      intro v35 ev35
      have f36 : Int32.toInt (v33 + x2) = Int32.toInt v33 + Int32.toInt x2 := ta_add _ _ (by omega)
      rw [← ev35] at f36
      refine And.intro (t_in (by omega)) ?_
      intro v37 ev37
      have hv37 := congrArg Int32.toInt ev37
      refine And.intro (t_in (by omega)) ?_
      intro v39 ev39
      have hv39 := congrArg Int32.toInt ev39
      intro v41 ev41
      have hv41 := congrArg Int32.toInt ev41
      refine And.intro (t_in (by omega)) ?_
      have f43 := tp_r v37
      exact ts_X10_workOf_194 bW aG dU rD pR pX tD uG nU h_m_fruits h_m_standings h_m_wanted e0_m_now e1_m_now h_m_fork e0_m_told e1_m_told h_m_hand h_m_moves h_m_handSeconds hc0 hc1 hpost hK57 x1 x2 bL v37 bO (upd vW x3.toNatClampNeg v41) h_x1 h_x2 h_m_workMoves h_m_workDowns hn57
    · skip
      have c32 := (fa_eq _ _).mp c32
      have f44 := tp_r bR
      exact ts_X10_workOf_194 bW aG dU rD pR pX tD uG nU h_m_fruits h_m_standings h_m_wanted e0_m_now e1_m_now h_m_fork e0_m_told e1_m_told h_m_hand h_m_moves h_m_handSeconds hc0 hc1 hpost hK57 x1 x2 bL bR bO vW h_x1 h_x2 h_m_workMoves h_m_workDowns hn57
  · skip
    have c31 := mt (fa_le _ _).mpr c31
    intro v45 ev45
    have f46 := ti_shr x1 x4 (by omega)
    have hv45 := congrArg Int32.toInt ev45
    intro v47 ev47
    have f48 := ti_andr v45 1 (by omega)
    have f49 := ti_andl v45 1 (by omega)
    have hv47 := congrArg Int32.toInt ev47
    refine And.intro (fun c50 => ?_) (fun c50 => ?_)
    · skip
      have c50 := mt (fa_eq _ _).mpr c50
      refine And.intro (fun _ => ?_) (fun h9 => absurd h9 (by decide))
      have f51 := tp_r bR
      exact ts_X10_workOf_150 bW aG dU rD pR pX tD uG nU h_m_fruits h_m_standings h_m_wanted e0_m_now e1_m_now h_m_fork e0_m_told e1_m_told h_m_hand h_m_moves h_m_handSeconds hc0 hc1 hpost hK57 hKn x1 x2 x3 x4 bL bR bO vW h_x1 h_x2 h_x3 (by omega) h_m_workMoves h_m_workDowns hn57 hn84
    · skip
      have c50 := (fa_eq _ _).mp c50
      refine And.intro (fun h9 => absurd h9 (by decide)) (fun _ => ?_)
      refine And.intro (t_in (by omega)) ?_
      intro v52 ev52
      have f53 := h_m_hand x4.toNatClampNeg
      have hv52 := congrArg Int32.toInt ev52
      intro v54 ev54
      have f55 := ti_shr v52 x2 (by omega)
      have hv54 := congrArg Int32.toInt ev54
      intro v56 ev56
      have f57 := ti_andr v54 1 (by omega)
      have f58 := ti_andl v54 1 (by omega)
      have hv56 := congrArg Int32.toInt ev56
      refine And.intro (fun c59 => ?_) (fun c59 => ?_)
      · skip
        have c59 := mt (fa_eq _ _).mpr c59
        refine And.intro (fun _ => ?_) (fun h9 => absurd h9 (by decide))
        have f60 := tp_r bR
        exact ts_X10_workOf_150 bW aG dU rD pR pX tD uG nU h_m_fruits h_m_standings h_m_wanted e0_m_now e1_m_now h_m_fork e0_m_told e1_m_told h_m_hand h_m_moves h_m_handSeconds hc0 hc1 hpost hK57 hKn x1 x2 x3 x4 bL bR bO vW h_x1 h_x2 h_x3 (by omega) h_m_workMoves h_m_workDowns hn57 hn84
      · skip
        have c59 := (fa_eq _ _).mp c59
        refine And.intro (fun h9 => absurd h9 (by decide)) (fun _ => ?_)
        refine And.intro (fun c61 => ?_) (fun c61 => ?_)
        · skip
          have c61 := (fa_eq _ _).mp c61
          have f62 := tp_r bR
          exact ts_X10_workOf_147 bW aG dU rD pR pX tD uG nU h_m_fruits h_m_standings h_m_wanted e0_m_now e1_m_now h_m_fork e0_m_told e1_m_told h_m_hand h_m_moves h_m_handSeconds hc0 hc1 hpost hK57 hKn x1 x2 x4 bL bR bO vW h_x1 h_x2 (by omega) h_m_workMoves h_m_workDowns hn57 hn84
        · skip
          have c61 := mt (fa_eq _ _).mpr c61
          intro v63 ev63
          have f64 : Int32.toInt (16 * x4) = Int32.toInt x4 * 16 := ta_cmul _ _ (by decide) (by omega)
          rw [← ev63] at f64
          intro v65 ev65
          have f66 : Int32.toInt (v63 + x2) = Int32.toInt v63 + Int32.toInt x2 := ta_add _ _ (by omega)
          rw [← ev65] at f66
          refine And.intro (t_in (by omega)) ?_
          intro v67 ev67
          have f68 := h_m_handSeconds v65.toNatClampNeg
          have hv67 := congrArg Int32.toInt ev67
          intro v69 ev69
          have f70 : Int32.toInt (16 * x3) = Int32.toInt x3 * 16 := ta_cmul _ _ (by decide) (by omega)
          rw [← ev69] at f70
          intro v71 ev71
          have f72 : Int32.toInt (v69 + x2) = Int32.toInt v69 + Int32.toInt x2 := ta_add _ _ (by omega)
          rw [← ev71] at f72
          refine And.intro (t_in (by omega)) ?_
          have f74 := h_m_handSeconds v71.toNatClampNeg
          refine And.intro (fun c73 => ?_) (fun c73 => ?_)
          · skip
            have c73 := (fa_le _ _).mp c73
            have f75 := tp_r bR
            exact ts_X10_workOf_150 bW aG dU rD pR pX tD uG nU h_m_fruits h_m_standings h_m_wanted e0_m_now e1_m_now h_m_fork e0_m_told e1_m_told h_m_hand h_m_moves h_m_handSeconds hc0 hc1 hpost hK57 hKn x1 x2 x3 x4 bL bR bO vW h_x1 h_x2 h_x3 (by omega) h_m_workMoves h_m_workDowns hn57 hn84
          · skip
            have c73 := mt (fa_le _ _).mpr c73
            have f76 := tp_r bR
            exact ts_X10_workOf_147 bW aG dU rD pR pX tD uG nU h_m_fruits h_m_standings h_m_wanted e0_m_now e1_m_now h_m_fork e0_m_told e1_m_told h_m_hand h_m_moves h_m_handSeconds hc0 hc1 hpost hK57 hKn x1 x2 x4 bL bR bO vW h_x1 h_x2 (by omega) h_m_workMoves h_m_workDowns hn57 hn84
set_option maxHeartbeats 8000000 in
set_option maxRecDepth 200000 in
theorem tb_X10_workOf_84 {post : Int32 → Int32 → Int32 → Int32 → (Nat → Int32) → Prop} {SB : Int} {K57 : Int32 → Int32 → Int32 → Int32 → Int32 → (Nat → Int32) → Prop} {n57 : Int} (bW aG dU : Int32) (rD pR pX tD uG nU : Nat → Int32) (h_m_fruits : 0 ≤ Int32.toInt bW ∧ Int32.toInt bW ≤ 16) (h_m_standings : 0 ≤ Int32.toInt aG ∧ Int32.toInt aG ≤ 8) (h_m_wanted : 0 ≤ Int32.toInt dU ∧ Int32.toInt dU ≤ 65535) (e0_m_now : ∀ k : Nat, k = 17 → -1 ≤ Int32.toInt (rD k) ∧ Int32.toInt (rD k) ≤ SB) (e1_m_now : ∀ k : Nat, k = 19 → 0 ≤ Int32.toInt (rD k) ∧ Int32.toInt (rD k) ≤ 9) (h_m_fork : ∀ k : Nat, 0 ≤ Int32.toInt (pR k) ∧ Int32.toInt (pR k) ≤ 99) (e0_m_told : ∀ k : Nat, k = 4 → 1 ≤ Int32.toInt (pX k) ∧ Int32.toInt (pX k) ≤ 30) (e1_m_told : ∀ k : Nat, k = 3 → 0 ≤ Int32.toInt (pX k) ∧ Int32.toInt (pX k) ≤ 9) (h_m_hand : ∀ k : Nat, 0 ≤ Int32.toInt (tD k) ∧ Int32.toInt (tD k) ≤ 65535) (h_m_moves : ∀ k : Nat, 0 ≤ Int32.toInt (uG k) ∧ Int32.toInt (uG k) ≤ 1000000) (h_m_handSeconds : ∀ k : Nat, 0 ≤ Int32.toInt (nU k) ∧ Int32.toInt (nU k) ≤ 99) (hc0 : -1 ≤ SB ∧ SB ≤ 7) (hc1 : (Int32.toInt aG ≤ 0 ∧ SB = 0) ∨ (1 ≤ Int32.toInt aG ∧ SB = Int32.toInt aG - 1)) (hpost : ∀ (r : Int32) (m_workMoves' : Int32) (m_workPicks' : Int32) (m_workDowns' : Int32) (m_load' : Nat → Int32), (0 ≤ Int32.toInt m_workMoves' ∧ Int32.toInt m_workMoves' ≤ 1000000) → post r m_workMoves' m_workPicks' m_workDowns' m_load') (hK57 : ∀ (x1 : Int32) (x2 : Int32) (bL : Int32) (bR : Int32) (bO : Int32) (vW : Nat → Int32), (0 ≤ Int32.toInt x1 ∧ Int32.toInt x1 ≤ 255) → (0 ≤ Int32.toInt x2 ∧ Int32.toInt x2 ≤ 16) → (0 ≤ Int32.toInt bL ∧ Int32.toInt bL ≤ 1000000) → (0 ≤ Int32.toInt bO ∧ Int32.toInt bO ≤ 0) → (16 - Int32.toInt x2 < n57) → K57 x1 x2 bL bR bO vW) : ∀ (n : Nat) (x1 x2 x3 x4 bL bR bO : Int32) (vW : Nat → Int32), (0 ≤ Int32.toInt x1 ∧ Int32.toInt x1 ≤ 255) → (0 ≤ Int32.toInt x2 ∧ Int32.toInt x2 ≤ 15) → (-1 ≤ Int32.toInt x3 ∧ Int32.toInt x3 ≤ 7) → (0 ≤ Int32.toInt x4 ∧ Int32.toInt x4 ≤ 8) → (0 ≤ Int32.toInt bL ∧ Int32.toInt bL ≤ 1000000) → (0 ≤ Int32.toInt bO ∧ Int32.toInt bO ≤ 0) → (16 - Int32.toInt x2 ≤ n57) → (8 - Int32.toInt x4 < (n : Int)) → wb_X10_workOf_84 post K57 bW aG dU rD pR pX tD uG nU n x1 x2 x3 x4 bL bR bO vW := by
  intro n
  induction n with
  | zero =>
    intro x1 x2 x3 x4 bL bR bO vW h_x1 h_x2 h_x3 h_x4 h_m_workMoves h_m_workDowns hn57 hm
    exfalso; omega
  | succ n ih =>
    intro x1 x2 x3 x4 bL bR bO vW h_x1 h_x2 h_x3 h_x4 h_m_workMoves h_m_workDowns hn57 hm
    exact ts_X10_workOf_84 bW aG dU rD pR pX tD uG nU h_m_fruits h_m_standings h_m_wanted e0_m_now e1_m_now h_m_fork e0_m_told e1_m_told h_m_hand h_m_moves h_m_handSeconds hc0 hc1 hpost hK57 ih x1 x2 x3 x4 bL bR bO vW h_x1 h_x2 h_x3 h_x4 h_m_workMoves h_m_workDowns hn57 (by omega)
set_option maxHeartbeats 8000000 in
set_option maxRecDepth 200000 in
theorem ts_X10_workOf_57 {post : Int32 → Int32 → Int32 → Int32 → (Nat → Int32) → Prop} {SB : Int} {next : Int32 → Int32 → Int32 → Int32 → Int32 → (Nat → Int32) → Prop} {n57 : Int} (bW aG dU : Int32) (rD pR pX tD uG nU : Nat → Int32) (h_m_fruits : 0 ≤ Int32.toInt bW ∧ Int32.toInt bW ≤ 16) (h_m_standings : 0 ≤ Int32.toInt aG ∧ Int32.toInt aG ≤ 8) (h_m_wanted : 0 ≤ Int32.toInt dU ∧ Int32.toInt dU ≤ 65535) (e0_m_now : ∀ k : Nat, k = 17 → -1 ≤ Int32.toInt (rD k) ∧ Int32.toInt (rD k) ≤ SB) (e1_m_now : ∀ k : Nat, k = 19 → 0 ≤ Int32.toInt (rD k) ∧ Int32.toInt (rD k) ≤ 9) (h_m_fork : ∀ k : Nat, 0 ≤ Int32.toInt (pR k) ∧ Int32.toInt (pR k) ≤ 99) (e0_m_told : ∀ k : Nat, k = 4 → 1 ≤ Int32.toInt (pX k) ∧ Int32.toInt (pX k) ≤ 30) (e1_m_told : ∀ k : Nat, k = 3 → 0 ≤ Int32.toInt (pX k) ∧ Int32.toInt (pX k) ≤ 9) (h_m_hand : ∀ k : Nat, 0 ≤ Int32.toInt (tD k) ∧ Int32.toInt (tD k) ≤ 65535) (h_m_moves : ∀ k : Nat, 0 ≤ Int32.toInt (uG k) ∧ Int32.toInt (uG k) ≤ 1000000) (h_m_handSeconds : ∀ k : Nat, 0 ≤ Int32.toInt (nU k) ∧ Int32.toInt (nU k) ≤ 99) (hc0 : -1 ≤ SB ∧ SB ≤ 7) (hc1 : (Int32.toInt aG ≤ 0 ∧ SB = 0) ∨ (1 ≤ Int32.toInt aG ∧ SB = Int32.toInt aG - 1)) (hpost : ∀ (r : Int32) (m_workMoves' : Int32) (m_workPicks' : Int32) (m_workDowns' : Int32) (m_load' : Nat → Int32), (0 ≤ Int32.toInt m_workMoves' ∧ Int32.toInt m_workMoves' ≤ 1000000) → post r m_workMoves' m_workPicks' m_workDowns' m_load') (hKn : ∀ (x1 : Int32) (x2 : Int32) (bL : Int32) (bR : Int32) (bO : Int32) (vW : Nat → Int32), (0 ≤ Int32.toInt x1 ∧ Int32.toInt x1 ≤ 255) → (0 ≤ Int32.toInt x2 ∧ Int32.toInt x2 ≤ 16) → (0 ≤ Int32.toInt bL ∧ Int32.toInt bL ≤ 1000000) → (0 ≤ Int32.toInt bO ∧ Int32.toInt bO ≤ 0) → (16 - Int32.toInt x2 < n57) → next x1 x2 bL bR bO vW) (x1 x2 bL bR bO : Int32) (vW : Nat → Int32) (h_x1 : 0 ≤ Int32.toInt x1 ∧ Int32.toInt x1 ≤ 255) (h_x2 : 0 ≤ Int32.toInt x2 ∧ Int32.toInt x2 ≤ 16) (h_m_workMoves : 0 ≤ Int32.toInt bL ∧ Int32.toInt bL ≤ 1000000) (h_m_workDowns : 0 ≤ Int32.toInt bO ∧ Int32.toInt bO ≤ 0) (hn57 : 16 - Int32.toInt x2 ≤ n57) : ws_X10_workOf_57 post next bW aG dU rD pR pX tD uG nU x1 x2 bL bR bO vW := by
  have l0 := li_m1
  have l1 := li_0
  have l2 := li_1
  refine And.intro (fun c77 => ?_) (fun c77 => ?_)
  · skip
    have c77 := (fa_le _ _).mp c77
    have f78 := tp_r bR
    exact ⟨10, tb_X10_workOf_202 bW aG dU rD pR pX tD uG nU h_m_fruits h_m_standings h_m_wanted e0_m_now e1_m_now h_m_fork e0_m_told e1_m_told h_m_hand h_m_moves h_m_handSeconds hc0 hc1 hpost _ 0 bL bR bO vW (by omega) h_m_workMoves (by omega)⟩
  · skip
    have c77 := mt (fa_le _ _).mpr c77
    intro v79 ev79
    have f80 := ti_shr dU x2 (by omega)
    have hv79 := congrArg Int32.toInt ev79
    intro v81 ev81
    have f82 := ti_andr v79 1 (by omega)
    have f83 := ti_andl v79 1 (by omega)
    have hv81 := congrArg Int32.toInt ev81
    refine And.intro (fun c84 => ?_) (fun c84 => ?_)
    · skip
      have c84 := mt (fa_eq _ _).mpr c84
      refine And.intro (fun h9 => absurd h9 (by decide)) (fun _ => ?_)
      have f85 := tp_r bR
      exact ts_X10_workOf_194 bW aG dU rD pR pX tD uG nU h_m_fruits h_m_standings h_m_wanted e0_m_now e1_m_now h_m_fork e0_m_told e1_m_told h_m_hand h_m_moves h_m_handSeconds hc0 hc1 hpost hKn x1 x2 bL bR bO vW h_x1 (by omega) h_m_workMoves h_m_workDowns hn57
    · skip
      have c84 := (fa_eq _ _).mp c84
      refine And.intro (fun _ => ?_) (fun h9 => absurd h9 (by decide))
      have f86 := tp_r bR
      exact ⟨10, tb_X10_workOf_84 bW aG dU rD pR pX tD uG nU h_m_fruits h_m_standings h_m_wanted e0_m_now e1_m_now h_m_fork e0_m_told e1_m_told h_m_hand h_m_moves h_m_handSeconds hc0 hc1 hpost hKn _ x1 x2 (-1) 0 bL bR bO vW h_x1 (by omega) (by omega) (by omega) h_m_workMoves h_m_workDowns hn57 (by omega)⟩
set_option maxHeartbeats 8000000 in
set_option maxRecDepth 200000 in
theorem tb_X10_workOf_57 {post : Int32 → Int32 → Int32 → Int32 → (Nat → Int32) → Prop} {SB : Int} (bW aG dU : Int32) (rD pR pX tD uG nU : Nat → Int32) (h_m_fruits : 0 ≤ Int32.toInt bW ∧ Int32.toInt bW ≤ 16) (h_m_standings : 0 ≤ Int32.toInt aG ∧ Int32.toInt aG ≤ 8) (h_m_wanted : 0 ≤ Int32.toInt dU ∧ Int32.toInt dU ≤ 65535) (e0_m_now : ∀ k : Nat, k = 17 → -1 ≤ Int32.toInt (rD k) ∧ Int32.toInt (rD k) ≤ SB) (e1_m_now : ∀ k : Nat, k = 19 → 0 ≤ Int32.toInt (rD k) ∧ Int32.toInt (rD k) ≤ 9) (h_m_fork : ∀ k : Nat, 0 ≤ Int32.toInt (pR k) ∧ Int32.toInt (pR k) ≤ 99) (e0_m_told : ∀ k : Nat, k = 4 → 1 ≤ Int32.toInt (pX k) ∧ Int32.toInt (pX k) ≤ 30) (e1_m_told : ∀ k : Nat, k = 3 → 0 ≤ Int32.toInt (pX k) ∧ Int32.toInt (pX k) ≤ 9) (h_m_hand : ∀ k : Nat, 0 ≤ Int32.toInt (tD k) ∧ Int32.toInt (tD k) ≤ 65535) (h_m_moves : ∀ k : Nat, 0 ≤ Int32.toInt (uG k) ∧ Int32.toInt (uG k) ≤ 1000000) (h_m_handSeconds : ∀ k : Nat, 0 ≤ Int32.toInt (nU k) ∧ Int32.toInt (nU k) ≤ 99) (hc0 : -1 ≤ SB ∧ SB ≤ 7) (hc1 : (Int32.toInt aG ≤ 0 ∧ SB = 0) ∨ (1 ≤ Int32.toInt aG ∧ SB = Int32.toInt aG - 1)) (hpost : ∀ (r : Int32) (m_workMoves' : Int32) (m_workPicks' : Int32) (m_workDowns' : Int32) (m_load' : Nat → Int32), (0 ≤ Int32.toInt m_workMoves' ∧ Int32.toInt m_workMoves' ≤ 1000000) → post r m_workMoves' m_workPicks' m_workDowns' m_load') : ∀ (n : Nat) (x1 x2 bL bR bO : Int32) (vW : Nat → Int32), (0 ≤ Int32.toInt x1 ∧ Int32.toInt x1 ≤ 255) → (0 ≤ Int32.toInt x2 ∧ Int32.toInt x2 ≤ 16) → (0 ≤ Int32.toInt bL ∧ Int32.toInt bL ≤ 1000000) → (0 ≤ Int32.toInt bO ∧ Int32.toInt bO ≤ 0) → (16 - Int32.toInt x2 < (n : Int)) → wb_X10_workOf_57 post bW aG dU rD pR pX tD uG nU n x1 x2 bL bR bO vW := by
  intro n
  induction n with
  | zero =>
    intro x1 x2 bL bR bO vW h_x1 h_x2 h_m_workMoves h_m_workDowns hm
    exfalso; omega
  | succ n ih =>
    intro x1 x2 bL bR bO vW h_x1 h_x2 h_m_workMoves h_m_workDowns hm
    exact ts_X10_workOf_57 bW aG dU rD pR pX tD uG nU h_m_fruits h_m_standings h_m_wanted e0_m_now e1_m_now h_m_fork e0_m_told e1_m_told h_m_hand h_m_moves h_m_handSeconds hc0 hc1 hpost ih x1 x2 bL bR bO vW h_x1 h_x2 h_m_workMoves h_m_workDowns (by omega)
set_option maxHeartbeats 8000000 in
set_option maxRecDepth 200000 in
theorem ts_X10_workOf_36 {post : Int32 → Int32 → Int32 → Int32 → (Nat → Int32) → Prop} {SB : Int} {next : Int32 → Int32 → Int32 → Int32 → Int32 → (Nat → Int32) → Prop} {n36 : Int} (bW aG dU : Int32) (rD pR pX tD uG nU : Nat → Int32) (h_m_fruits : 0 ≤ Int32.toInt bW ∧ Int32.toInt bW ≤ 16) (h_m_standings : 0 ≤ Int32.toInt aG ∧ Int32.toInt aG ≤ 8) (h_m_wanted : 0 ≤ Int32.toInt dU ∧ Int32.toInt dU ≤ 65535) (e0_m_now : ∀ k : Nat, k = 17 → -1 ≤ Int32.toInt (rD k) ∧ Int32.toInt (rD k) ≤ SB) (e1_m_now : ∀ k : Nat, k = 19 → 0 ≤ Int32.toInt (rD k) ∧ Int32.toInt (rD k) ≤ 9) (h_m_fork : ∀ k : Nat, 0 ≤ Int32.toInt (pR k) ∧ Int32.toInt (pR k) ≤ 99) (e0_m_told : ∀ k : Nat, k = 4 → 1 ≤ Int32.toInt (pX k) ∧ Int32.toInt (pX k) ≤ 30) (e1_m_told : ∀ k : Nat, k = 3 → 0 ≤ Int32.toInt (pX k) ∧ Int32.toInt (pX k) ≤ 9) (h_m_hand : ∀ k : Nat, 0 ≤ Int32.toInt (tD k) ∧ Int32.toInt (tD k) ≤ 65535) (h_m_moves : ∀ k : Nat, 0 ≤ Int32.toInt (uG k) ∧ Int32.toInt (uG k) ≤ 1000000) (h_m_handSeconds : ∀ k : Nat, 0 ≤ Int32.toInt (nU k) ∧ Int32.toInt (nU k) ≤ 99) (hc0 : -1 ≤ SB ∧ SB ≤ 7) (hc1 : (Int32.toInt aG ≤ 0 ∧ SB = 0) ∨ (1 ≤ Int32.toInt aG ∧ SB = Int32.toInt aG - 1)) (hpost : ∀ (r : Int32) (m_workMoves' : Int32) (m_workPicks' : Int32) (m_workDowns' : Int32) (m_load' : Nat → Int32), (0 ≤ Int32.toInt m_workMoves' ∧ Int32.toInt m_workMoves' ≤ 1000000) → post r m_workMoves' m_workPicks' m_workDowns' m_load') (hKn : ∀ (x1 : Int32) (x2 : Int32) (bL : Int32) (bR : Int32) (bO : Int32) (vW : Nat → Int32), (0 ≤ Int32.toInt x1 ∧ Int32.toInt x1 ≤ 255) → (0 ≤ Int32.toInt x2 ∧ Int32.toInt x2 ≤ 8) → (0 ≤ Int32.toInt bL ∧ Int32.toInt bL ≤ 1000000) → (0 ≤ Int32.toInt bR ∧ Int32.toInt bR ≤ 0) → (0 ≤ Int32.toInt bO ∧ Int32.toInt bO ≤ 0) → (8 - Int32.toInt x2 < n36) → next x1 x2 bL bR bO vW) (x1 x2 bL bR bO : Int32) (vW : Nat → Int32) (h_x1 : 0 ≤ Int32.toInt x1 ∧ Int32.toInt x1 ≤ 255) (h_x2 : 0 ≤ Int32.toInt x2 ∧ Int32.toInt x2 ≤ 8) (h_m_workMoves : 0 ≤ Int32.toInt bL ∧ Int32.toInt bL ≤ 1000000) (h_m_workPicks : 0 ≤ Int32.toInt bR ∧ Int32.toInt bR ≤ 0) (h_m_workDowns : 0 ≤ Int32.toInt bO ∧ Int32.toInt bO ≤ 0) (hn36 : 8 - Int32.toInt x2 ≤ n36) : ws_X10_workOf_36 post next bW aG dU rD pR pX tD uG nU x1 x2 bL bR bO vW := by
  have l0 := li_0
  have l1 := li_1
  have l2 := li_8
  refine And.intro (fun c87 => ?_) (fun c87 => ?_)
  · skip
    have c87 := (fa_le _ _).mp c87
    exact ⟨18, tb_X10_workOf_57 bW aG dU rD pR pX tD uG nU h_m_fruits h_m_standings h_m_wanted e0_m_now e1_m_now h_m_fork e0_m_told e1_m_told h_m_hand h_m_moves h_m_handSeconds hc0 hc1 hpost _ x1 0 bL bR bO vW h_x1 (by omega) h_m_workMoves h_m_workDowns (by omega)⟩
  · skip
    have c87 := mt (fa_le _ _).mpr c87
    refine And.intro (t_in (by omega)) ?_
    intro v88 ev88
    have f89 : Int32.toInt (x2 + 1) = Int32.toInt x2 + Int32.toInt (1 : Int32) := ta_add _ _ (by omega)
    rw [← ev88] at f89
    exact hKn x1 v88 bL bR bO (upd vW x2.toNatClampNeg 0) h_x1 (by omega) h_m_workMoves h_m_workPicks h_m_workDowns (by omega)
set_option maxHeartbeats 8000000 in
set_option maxRecDepth 200000 in
theorem tb_X10_workOf_36 {post : Int32 → Int32 → Int32 → Int32 → (Nat → Int32) → Prop} {SB : Int} (bW aG dU : Int32) (rD pR pX tD uG nU : Nat → Int32) (h_m_fruits : 0 ≤ Int32.toInt bW ∧ Int32.toInt bW ≤ 16) (h_m_standings : 0 ≤ Int32.toInt aG ∧ Int32.toInt aG ≤ 8) (h_m_wanted : 0 ≤ Int32.toInt dU ∧ Int32.toInt dU ≤ 65535) (e0_m_now : ∀ k : Nat, k = 17 → -1 ≤ Int32.toInt (rD k) ∧ Int32.toInt (rD k) ≤ SB) (e1_m_now : ∀ k : Nat, k = 19 → 0 ≤ Int32.toInt (rD k) ∧ Int32.toInt (rD k) ≤ 9) (h_m_fork : ∀ k : Nat, 0 ≤ Int32.toInt (pR k) ∧ Int32.toInt (pR k) ≤ 99) (e0_m_told : ∀ k : Nat, k = 4 → 1 ≤ Int32.toInt (pX k) ∧ Int32.toInt (pX k) ≤ 30) (e1_m_told : ∀ k : Nat, k = 3 → 0 ≤ Int32.toInt (pX k) ∧ Int32.toInt (pX k) ≤ 9) (h_m_hand : ∀ k : Nat, 0 ≤ Int32.toInt (tD k) ∧ Int32.toInt (tD k) ≤ 65535) (h_m_moves : ∀ k : Nat, 0 ≤ Int32.toInt (uG k) ∧ Int32.toInt (uG k) ≤ 1000000) (h_m_handSeconds : ∀ k : Nat, 0 ≤ Int32.toInt (nU k) ∧ Int32.toInt (nU k) ≤ 99) (hc0 : -1 ≤ SB ∧ SB ≤ 7) (hc1 : (Int32.toInt aG ≤ 0 ∧ SB = 0) ∨ (1 ≤ Int32.toInt aG ∧ SB = Int32.toInt aG - 1)) (hpost : ∀ (r : Int32) (m_workMoves' : Int32) (m_workPicks' : Int32) (m_workDowns' : Int32) (m_load' : Nat → Int32), (0 ≤ Int32.toInt m_workMoves' ∧ Int32.toInt m_workMoves' ≤ 1000000) → post r m_workMoves' m_workPicks' m_workDowns' m_load') : ∀ (n : Nat) (x1 x2 bL bR bO : Int32) (vW : Nat → Int32), (0 ≤ Int32.toInt x1 ∧ Int32.toInt x1 ≤ 255) → (0 ≤ Int32.toInt x2 ∧ Int32.toInt x2 ≤ 8) → (0 ≤ Int32.toInt bL ∧ Int32.toInt bL ≤ 1000000) → (0 ≤ Int32.toInt bR ∧ Int32.toInt bR ≤ 0) → (0 ≤ Int32.toInt bO ∧ Int32.toInt bO ≤ 0) → (8 - Int32.toInt x2 < (n : Int)) → wb_X10_workOf_36 post bW aG dU rD pR pX tD uG nU n x1 x2 bL bR bO vW := by
  intro n
  induction n with
  | zero =>
    intro x1 x2 bL bR bO vW h_x1 h_x2 h_m_workMoves h_m_workPicks h_m_workDowns hm
    exfalso; omega
  | succ n ih =>
    intro x1 x2 bL bR bO vW h_x1 h_x2 h_m_workMoves h_m_workPicks h_m_workDowns hm
    exact ts_X10_workOf_36 bW aG dU rD pR pX tD uG nU h_m_fruits h_m_standings h_m_wanted e0_m_now e1_m_now h_m_fork e0_m_told e1_m_told h_m_hand h_m_moves h_m_handSeconds hc0 hc1 hpost ih x1 x2 bL bR bO vW h_x1 h_x2 h_m_workMoves h_m_workPicks h_m_workDowns (by omega)
set_option maxHeartbeats 8000000 in
set_option maxRecDepth 200000 in
theorem t_X10_workOf {post : Int32 → Int32 → Int32 → Int32 → (Nat → Int32) → Prop} {SB : Int} {p0 bW aG dU bL bR bO : Int32} {rD pR pX tD uG nU vW : Nat → Int32} (h_p0 : 0 ≤ Int32.toInt p0 ∧ Int32.toInt p0 ≤ 255) (h_m_fruits : 0 ≤ Int32.toInt bW ∧ Int32.toInt bW ≤ 16) (h_m_standings : 0 ≤ Int32.toInt aG ∧ Int32.toInt aG ≤ 8) (h_m_wanted : 0 ≤ Int32.toInt dU ∧ Int32.toInt dU ≤ 65535) (h_m_workMoves : 0 ≤ Int32.toInt bL ∧ Int32.toInt bL ≤ 1000000) (e0_m_now : ∀ k : Nat, k = 17 → -1 ≤ Int32.toInt (rD k) ∧ Int32.toInt (rD k) ≤ SB) (e1_m_now : ∀ k : Nat, k = 19 → 0 ≤ Int32.toInt (rD k) ∧ Int32.toInt (rD k) ≤ 9) (h_m_fork : ∀ k : Nat, 0 ≤ Int32.toInt (pR k) ∧ Int32.toInt (pR k) ≤ 99) (e0_m_told : ∀ k : Nat, k = 4 → 1 ≤ Int32.toInt (pX k) ∧ Int32.toInt (pX k) ≤ 30) (e1_m_told : ∀ k : Nat, k = 3 → 0 ≤ Int32.toInt (pX k) ∧ Int32.toInt (pX k) ≤ 9) (h_m_hand : ∀ k : Nat, 0 ≤ Int32.toInt (tD k) ∧ Int32.toInt (tD k) ≤ 65535) (h_m_moves : ∀ k : Nat, 0 ≤ Int32.toInt (uG k) ∧ Int32.toInt (uG k) ≤ 1000000) (h_m_handSeconds : ∀ k : Nat, 0 ≤ Int32.toInt (nU k) ∧ Int32.toInt (nU k) ≤ 99) (hc0 : -1 ≤ SB ∧ SB ≤ 7) (hc1 : (Int32.toInt aG ≤ 0 ∧ SB = 0) ∨ (1 ≤ Int32.toInt aG ∧ SB = Int32.toInt aG - 1)) (hpost : ∀ (r : Int32) (m_workMoves' : Int32) (m_workPicks' : Int32) (m_workDowns' : Int32) (m_load' : Nat → Int32), (0 ≤ Int32.toInt m_workMoves' ∧ Int32.toInt m_workMoves' ≤ 1000000) → post r m_workMoves' m_workPicks' m_workDowns' m_load') : wp_X10_workOf post p0 bW aG dU bL bR bO rD pR pX tD uG nU vW := by
  have l0 := li_m1
  have l1 := li_0
  have l2 := li_17
  have l3 := li_8
  have q90 := e0_m_now (17 : Int32).toNatClampNeg (by have e9 : (17 : Int32).toNatClampNeg = (Int32.toInt (17 : Int32)).toNat := rfl; omega)
  intro v91 ev91
  have hv91 := congrArg Int32.toInt ev91
  refine And.intro (fun c93 => ?_) (fun c93 => ?_)
  · skip
    have c93 := mt (fa_eq _ _).mpr c93
    have q94 := e0_m_now (17 : Int32).toNatClampNeg (by have e9 : (17 : Int32).toNatClampNeg = (Int32.toInt (17 : Int32)).toNat := rfl; omega)
    intro v95 ev95
    have hv95 := congrArg Int32.toInt ev95
    refine And.intro (fun c96 => ?_) (fun c96 => ?_)
    · skip
      have c96 := mt (fa_eq _ _).mpr c96
      have q97 := e0_m_now (17 : Int32).toNatClampNeg (by have e9 : (17 : Int32).toNatClampNeg = (Int32.toInt (17 : Int32)).toNat := rfl; omega)
      intro v98 ev98
      have f99 := ti_shl1 7 128 (rD (17 : Int32).toNatClampNeg) (by decide) (by omega)
      have hv98 := congrArg Int32.toInt ev98
      intro v100 ev100
      have f101 := ti_shl8 v91 (by omega)
      have hv100 := congrArg Int32.toInt ev100
      intro v102 ev102
      have f105 := ti_andl p0 (v98 ^^^ (-1)) (by omega)
      have f103 : Int32.toInt (v100 + (p0 &&& (v98 ^^^ (-1)))) = Int32.toInt v100 + Int32.toInt (p0 &&& (v98 ^^^ (-1))) := ta_add _ _ (by omega)
      rw [← ev102] at f103
      refine And.intro (t_in (by omega)) ?_
      have f106 := h_m_moves v102.toNatClampNeg
      exact ⟨10, tb_X10_workOf_36 bW aG dU rD pR pX tD uG nU h_m_fruits h_m_standings h_m_wanted e0_m_now e1_m_now h_m_fork e0_m_told e1_m_told h_m_hand h_m_moves h_m_handSeconds hc0 hc1 hpost _ p0 0 (uG v102.toNatClampNeg) 0 0 vW h_p0 (by omega) (by omega) (by omega) (by omega) (by omega)⟩
    · skip
      have c96 := (fa_eq _ _).mp c96
      exfalso; omega
  · skip
    have c93 := (fa_eq _ _).mp c93
    have q107 := e0_m_now (17 : Int32).toNatClampNeg (by have e9 : (17 : Int32).toNatClampNeg = (Int32.toInt (17 : Int32)).toNat := rfl; omega)
    intro v108 ev108
    have hv108 := congrArg Int32.toInt ev108
    refine And.intro (fun c109 => ?_) (fun c109 => ?_)
    · skip
      have c109 := mt (fa_eq _ _).mpr c109
      exfalso; omega
    · skip
      have c109 := (fa_eq _ _).mp c109
      intro v110 ev110
      have f111 := ti_shl8 8 (by omega)
      have hv110 := congrArg Int32.toInt ev110
      intro v112 ev112
      have f113 : Int32.toInt (v110 + p0) = Int32.toInt v110 + Int32.toInt p0 := ta_add _ _ (by omega)
      rw [← ev112] at f113
      refine And.intro (t_in (by omega)) ?_
      have f114 := h_m_moves v112.toNatClampNeg
      exact ⟨10, tb_X10_workOf_36 bW aG dU rD pR pX tD uG nU h_m_fruits h_m_standings h_m_wanted e0_m_now e1_m_now h_m_fork e0_m_told e1_m_told h_m_hand h_m_moves h_m_handSeconds hc0 hc1 hpost _ p0 0 (uG v112.toNatClampNeg) 0 0 vW h_p0 (by omega) (by omega) (by omega) (by omega) (by omega)⟩
set_option maxHeartbeats 8000000 in
set_option maxRecDepth 200000 in
theorem t_X10_work {post : Int32 → Int32 → Int32 → Nat → Int32 → Int32 → Int32 → Int32 → Int32 → Int32 → Int32 → Int32 → Int32 → Int32 → Int32 → Int32 → Int32 → (Nat → Int32) → (Nat → Int32) → (Nat → Int32) → (Nat → Int32) → (Nat → Int32) → Prop} {SB : Int} {p0 bW aG bQ dG : Int32} {jY : Nat} {m_length qG uW eY bU dN aR aE bJ aW dU bL bR bO : Int32} {rD m_x jA pY rW oY pR pX rG uM rQ tD uG nU vW : Nat → Int32} (h_m_fruits : 0 ≤ Int32.toInt bW ∧ Int32.toInt bW ≤ 16) (h_m_standings : 0 ≤ Int32.toInt aG ∧ Int32.toInt aG ≤ 8) (h_m_rowMany : 0 ≤ Int32.toInt bQ ∧ Int32.toInt bQ ≤ 16) (h_m_thrown : 0 ≤ Int32.toInt dG ∧ Int32.toInt dG ≤ 1) (h_m_read : jY = 0 ∨ jY = 1 ∨ jY = 2) (h_m_length : 0 ≤ Int32.toInt m_length ∧ Int32.toInt m_length ≤ 80) (h_m_top : 0 ≤ Int32.toInt qG ∧ Int32.toInt qG ≤ 80) (h_m_at : 0 ≤ Int32.toInt uW ∧ Int32.toInt uW ≤ 80) (h_m_wrong : -1 ≤ Int32.toInt eY ∧ Int32.toInt eY ≤ 80) (h_m_ruleSize : 0 ≤ Int32.toInt bU ∧ Int32.toInt bU ≤ 40) (h_m_isAsked : 0 ≤ Int32.toInt dN ∧ Int32.toInt dN ≤ 0) (h_m_askedFruit : 0 ≤ Int32.toInt aR ∧ Int32.toInt aR ≤ 15) (h_m_askedStanding : 0 ≤ Int32.toInt aE ∧ Int32.toInt aE ≤ 7) (h_m_askedHook : 0 ≤ Int32.toInt bJ ∧ Int32.toInt bJ ≤ 1) (h_m_askedApron : 0 ≤ Int32.toInt aW ∧ Int32.toInt aW ≤ 63) (h_m_wanted : 0 ≤ Int32.toInt dU ∧ Int32.toInt dU ≤ 65535) (h_m_workMoves : 0 ≤ Int32.toInt bL ∧ Int32.toInt bL ≤ 1000000) (e0_m_now : ∀ k : Nat, k = 17 → -1 ≤ Int32.toInt (rD k) ∧ Int32.toInt (rD k) ≤ SB) (e1_m_now : ∀ k : Nat, k = 19 → 0 ≤ Int32.toInt (rD k) ∧ Int32.toInt (rD k) ≤ 9) (h_m_x : ∀ k : Nat, 0 ≤ Int32.toInt (m_x k) ∧ Int32.toInt (m_x k) ≤ 99) (h_m_height : ∀ k : Nat, 0 ≤ Int32.toInt (jA k) ∧ Int32.toInt (jA k) ≤ 99) (h_m_worth : ∀ k : Nat, 0 ≤ Int32.toInt (pY k) ∧ Int32.toInt (pY k) ≤ 9) (h_m_ripe : ∀ k : Nat, 0 ≤ Int32.toInt (rW k) ∧ Int32.toInt (rW k) ≤ 9) (h_m_foot : ∀ k : Nat, 0 ≤ Int32.toInt (oY k) ∧ Int32.toInt (oY k) ≤ 99) (h_m_fork : ∀ k : Nat, 0 ≤ Int32.toInt (pR k) ∧ Int32.toInt (pR k) ≤ 99) (e0_m_told : ∀ k : Nat, k = 4 → 1 ≤ Int32.toInt (pX k) ∧ Int32.toInt (pX k) ≤ 30) (e1_m_told : ∀ k : Nat, k = 3 → 0 ≤ Int32.toInt (pX k) ∧ Int32.toInt (pX k) ≤ 9) (h_m_text : ∀ k : Nat, -128 ≤ Int32.toInt (rG k) ∧ Int32.toInt (rG k) ≤ 127) (h_m_rule : ∀ k : Nat, -128 ≤ Int32.toInt (rQ k) ∧ Int32.toInt (rQ k) ≤ 127) (h_m_hand : ∀ k : Nat, 0 ≤ Int32.toInt (tD k) ∧ Int32.toInt (tD k) ≤ 65535) (h_m_moves : ∀ k : Nat, 0 ≤ Int32.toInt (uG k) ∧ Int32.toInt (uG k) ≤ 1000000) (h_m_handSeconds : ∀ k : Nat, 0 ≤ Int32.toInt (nU k) ∧ Int32.toInt (nU k) ≤ 99) (hc0 : -1 ≤ SB ∧ SB ≤ 7) (hc1 : (Int32.toInt aG ≤ 0 ∧ SB = 0) ∨ (1 ≤ Int32.toInt aG ∧ SB = Int32.toInt aG - 1)) (hpost : ∀ (r : Int32) (m_rowMany' : Int32) (m_thrown' : Int32) (m_read' : Nat) (m_length' : Int32) (m_top' : Int32) (m_at' : Int32) (m_wrong' : Int32) (m_isAsked' : Int32) (m_askedFruit' : Int32) (m_askedStanding' : Int32) (m_askedHook' : Int32) (m_askedApron' : Int32) (m_wanted' : Int32) (m_workMoves' : Int32) (m_workPicks' : Int32) (m_workDowns' : Int32) (m_row' : Nat → Int32) (m_hand' : Nat → Int32) (m_moves' : Nat → Int32) (m_handSeconds' : Nat → Int32) (m_load' : Nat → Int32), (0 ≤ Int32.toInt m_rowMany' ∧ Int32.toInt m_rowMany' ≤ 16) → (0 ≤ Int32.toInt m_thrown' ∧ Int32.toInt m_thrown' ≤ 0) → (m_read' = 0 ∨ m_read' = 1 ∨ m_read' = 2) → (0 ≤ Int32.toInt m_length' ∧ Int32.toInt m_length' ≤ 80) → (0 ≤ Int32.toInt m_top' ∧ Int32.toInt m_top' ≤ 80) → (0 ≤ Int32.toInt m_at' ∧ Int32.toInt m_at' ≤ 80) → (-1 ≤ Int32.toInt m_wrong' ∧ Int32.toInt m_wrong' ≤ 80) → (0 ≤ Int32.toInt m_isAsked' ∧ Int32.toInt m_isAsked' ≤ 0) → (0 ≤ Int32.toInt m_askedFruit' ∧ Int32.toInt m_askedFruit' ≤ 15) → (0 ≤ Int32.toInt m_askedStanding' ∧ Int32.toInt m_askedStanding' ≤ 7) → (0 ≤ Int32.toInt m_askedHook' ∧ Int32.toInt m_askedHook' ≤ 1) → (0 ≤ Int32.toInt m_askedApron' ∧ Int32.toInt m_askedApron' ≤ 63) → (0 ≤ Int32.toInt m_wanted' ∧ Int32.toInt m_wanted' ≤ 65535) → (0 ≤ Int32.toInt m_workMoves' ∧ Int32.toInt m_workMoves' ≤ 1000000) → (∀ k : Nat, 0 ≤ Int32.toInt (m_hand' k) ∧ Int32.toInt (m_hand' k) ≤ 65535) → (∀ k : Nat, 0 ≤ Int32.toInt (m_moves' k) ∧ Int32.toInt (m_moves' k) ≤ 1000000) → (∀ k : Nat, 0 ≤ Int32.toInt (m_handSeconds' k) ∧ Int32.toInt (m_handSeconds' k) ≤ 99) → post r m_rowMany' m_thrown' m_read' m_length' m_top' m_at' m_wrong' m_isAsked' m_askedFruit' m_askedStanding' m_askedHook' m_askedApron' m_wanted' m_workMoves' m_workPicks' m_workDowns' m_row' m_hand' m_moves' m_handSeconds' m_load') : wp_X10_work post p0 bW aG bQ dG jY m_length qG uW eY bU dN aR aE bJ aW dU bL bR bO rD m_x jA pY rW oY pR pX rG uM rQ tD uG nU vW := by
  have l0 := li_0
  have l1 := li_1
  have l2 := li_18
  intro v1 ev1
  have f2 := ti_shl1 8 256 aG (by decide) (by omega)
  have hv1 := congrArg Int32.toInt ev1
  have f4 := tp_r p0
  refine And.intro (fun c3 => ?_) (fun c3 => ?_)
  · skip
    have c3 := (fa_lt _ _).mp c3
    refine And.intro (fun h9 => absurd h9 (by decide)) (fun _ => ?_)
    exact hpost _ _ _ _ _ _ _ _ _ _ _ _ _ _ _ _ _ _ _ _ _ _ h_m_rowMany (by omega) h_m_read h_m_length h_m_top h_m_at h_m_wrong h_m_isAsked h_m_askedFruit h_m_askedStanding h_m_askedHook h_m_askedApron h_m_wanted h_m_workMoves h_m_hand h_m_moves h_m_handSeconds
  · skip
    have c3 := mt (fa_lt _ _).mpr c3
    have f6 : Int32.toInt (v1 - 1) = Int32.toInt v1 - Int32.toInt (1 : Int32) := ta_sub _ _ (by omega)
    refine And.intro (fun c5 => ?_) (fun c5 => ?_)
    · skip
      have c5 := (fa_lt _ _).mp c5
      refine And.intro (fun h9 => absurd h9 (by decide)) (fun _ => ?_)
      exact hpost _ _ _ _ _ _ _ _ _ _ _ _ _ _ _ _ _ _ _ _ _ _ h_m_rowMany (by omega) h_m_read h_m_length h_m_top h_m_at h_m_wrong h_m_isAsked h_m_askedFruit h_m_askedStanding h_m_askedHook h_m_askedApron h_m_wanted h_m_workMoves h_m_hand h_m_moves h_m_handSeconds
    · skip
      have c5 := mt (fa_lt _ _).mpr c5
      refine And.intro (fun _ => ?_) (fun h9 => absurd h9 (by decide))
      intro v7 ev7
      have hv7 := congrArg Int32.toInt ev7
      refine t_X10_layHands_ h_m_fruits h_m_standings h_m_wanted e0_m_now e1_m_now h_m_x h_m_height h_m_ripe h_m_foot h_m_fork e0_m_told e1_m_told h_m_hand (by omega) (by omega) (fun m_wanted_9 m_hand_10 h_m_wanted_9 h_m_hand_10 => ?_)
      refine t_X10_layMoves h_m_standings h_m_foot e0_m_told e1_m_told h_m_moves (fun m_moves_11 h_m_moves_11 ox12 => ?_)
      refine t_X10_laySeconds h_m_fruits h_m_standings h_m_read h_m_length h_m_top h_m_at h_m_wrong h_m_ruleSize h_m_isAsked h_m_askedFruit h_m_askedStanding h_m_askedHook h_m_askedApron h_m_x h_m_height h_m_worth h_m_foot h_m_fork h_m_text h_m_rule h_m_handSeconds (fun m_read_13 m_length_14 m_top_15 m_at_16 m_wrong_17 m_isAsked_18 m_askedFruit_19 m_askedStanding_20 m_askedHook_21 m_askedApron_22 m_handSeconds_23 h_m_read_13 h_m_length_14 h_m_top_15 h_m_at_16 h_m_wrong_17 h_m_isAsked_18 h_m_askedFruit_19 h_m_askedStanding_20 h_m_askedHook_21 h_m_askedApron_22 h_m_handSeconds_23 => ?_)
      refine t_X10_workOf (by omega) h_m_fruits h_m_standings h_m_wanted_9 h_m_workMoves e0_m_now e1_m_now h_m_fork e0_m_told e1_m_told h_m_hand_10 h_m_moves_11 h_m_handSeconds_23 (by omega) (by omega) (fun r28 m_workMoves_24 m_workPicks_25 m_workDowns_26 m_load_27 h_m_workMoves_24 => ?_)
      refine And.intro (t_in (by omega)) ?_
      intro v29 ev29
      have f30 : Int32.toInt (0 + 1) = Int32.toInt (0 : Int32) + Int32.toInt (1 : Int32) := ta_add _ _ (by omega)
      rw [← ev29] at f30
      refine And.intro (t_in (by omega)) ?_
      intro v31 ev31
      have f32 : Int32.toInt (v29 + 1) = Int32.toInt v29 + Int32.toInt (1 : Int32) := ta_add _ _ (by omega)
      rw [← ev31] at f32
      refine And.intro (t_in (by omega)) ?_
      intro v33 ev33
      have f34 : Int32.toInt (v31 + 1) = Int32.toInt v31 + Int32.toInt (1 : Int32) := ta_add _ _ (by omega)
      rw [← ev33] at f34
      exact hpost _ _ _ _ _ _ _ _ _ _ _ _ _ _ _ _ _ _ _ _ _ _ (by omega) (by omega) h_m_read_13 h_m_length_14 h_m_top_15 h_m_at_16 h_m_wrong_17 h_m_isAsked_18 h_m_askedFruit_19 h_m_askedStanding_20 h_m_askedHook_21 h_m_askedApron_22 h_m_wanted_9 h_m_workMoves_24 h_m_hand_10 h_m_moves_11 h_m_handSeconds_23
set_option maxHeartbeats 8000000 in
set_option maxRecDepth 200000 in
theorem ts_X10_soonest_89 {post : Int32 → Int32 → Int32 → Nat → Int32 → Int32 → Int32 → Int32 → Int32 → Int32 → Int32 → Int32 → Int32 → Int32 → Int32 → Int32 → Int32 → (Nat → Int32) → (Nat → Int32) → (Nat → Int32) → (Nat → Int32) → (Nat → Int32) → Prop} {SB : Int} {K25 : Int32 → Int32 → Int32 → Int32 → Int32 → Nat → Int32 → Int32 → Int32 → Int32 → Int32 → Int32 → Int32 → Int32 → Int32 → Int32 → Int32 → Int32 → Int32 → (Nat → Int32) → (Nat → Int32) → (Nat → Int32) → (Nat → Int32) → (Nat → Int32) → Prop} {n25 : Int} (bW aG bU : Int32) (rD m_x jA pY rW oY pR pX rG rQ : Nat → Int32) (h_m_fruits : 0 ≤ Int32.toInt bW ∧ Int32.toInt bW ≤ 16) (h_m_standings : 0 ≤ Int32.toInt aG ∧ Int32.toInt aG ≤ 8) (h_m_ruleSize : 0 ≤ Int32.toInt bU ∧ Int32.toInt bU ≤ 40) (e0_m_now : ∀ k : Nat, k = 17 → -1 ≤ Int32.toInt (rD k) ∧ Int32.toInt (rD k) ≤ SB) (e1_m_now : ∀ k : Nat, k = 19 → 0 ≤ Int32.toInt (rD k) ∧ Int32.toInt (rD k) ≤ 9) (h_m_x : ∀ k : Nat, 0 ≤ Int32.toInt (m_x k) ∧ Int32.toInt (m_x k) ≤ 99) (h_m_height : ∀ k : Nat, 0 ≤ Int32.toInt (jA k) ∧ Int32.toInt (jA k) ≤ 99) (h_m_worth : ∀ k : Nat, 0 ≤ Int32.toInt (pY k) ∧ Int32.toInt (pY k) ≤ 9) (h_m_ripe : ∀ k : Nat, 0 ≤ Int32.toInt (rW k) ∧ Int32.toInt (rW k) ≤ 9) (h_m_foot : ∀ k : Nat, 0 ≤ Int32.toInt (oY k) ∧ Int32.toInt (oY k) ≤ 99) (h_m_fork : ∀ k : Nat, 0 ≤ Int32.toInt (pR k) ∧ Int32.toInt (pR k) ≤ 99) (e0_m_told : ∀ k : Nat, k = 4 → 1 ≤ Int32.toInt (pX k) ∧ Int32.toInt (pX k) ≤ 30) (e1_m_told : ∀ k : Nat, k = 3 → 0 ≤ Int32.toInt (pX k) ∧ Int32.toInt (pX k) ≤ 9) (h_m_text : ∀ k : Nat, -128 ≤ Int32.toInt (rG k) ∧ Int32.toInt (rG k) ≤ 127) (h_m_rule : ∀ k : Nat, -128 ≤ Int32.toInt (rQ k) ∧ Int32.toInt (rQ k) ≤ 127) (hc0 : -1 ≤ SB ∧ SB ≤ 7) (hc1 : (Int32.toInt aG ≤ 0 ∧ SB = 0) ∨ (1 ≤ Int32.toInt aG ∧ SB = Int32.toInt aG - 1)) (hpost : ∀ (r : Int32) (m_rowMany' : Int32) (m_thrown' : Int32) (m_read' : Nat) (m_length' : Int32) (m_top' : Int32) (m_at' : Int32) (m_wrong' : Int32) (m_isAsked' : Int32) (m_askedFruit' : Int32) (m_askedStanding' : Int32) (m_askedHook' : Int32) (m_askedApron' : Int32) (m_wanted' : Int32) (m_workMoves' : Int32) (m_workPicks' : Int32) (m_workDowns' : Int32) (m_row' : Nat → Int32) (m_hand' : Nat → Int32) (m_moves' : Nat → Int32) (m_handSeconds' : Nat → Int32) (m_load' : Nat → Int32), (-2147483648 ≤ Int32.toInt r ∧ Int32.toInt r ≤ 1000000) → (1 ≤ Int32.toInt m_rowMany' ∧ Int32.toInt m_rowMany' ≤ 1) → (0 ≤ Int32.toInt m_thrown' ∧ Int32.toInt m_thrown' ≤ 0) → (m_read' = 0 ∨ m_read' = 1 ∨ m_read' = 2) → (0 ≤ Int32.toInt m_length' ∧ Int32.toInt m_length' ≤ 80) → (0 ≤ Int32.toInt m_top' ∧ Int32.toInt m_top' ≤ 80) → (0 ≤ Int32.toInt m_at' ∧ Int32.toInt m_at' ≤ 80) → (-1 ≤ Int32.toInt m_wrong' ∧ Int32.toInt m_wrong' ≤ 80) → (0 ≤ Int32.toInt m_isAsked' ∧ Int32.toInt m_isAsked' ≤ 0) → (0 ≤ Int32.toInt m_askedFruit' ∧ Int32.toInt m_askedFruit' ≤ 15) → (0 ≤ Int32.toInt m_askedStanding' ∧ Int32.toInt m_askedStanding' ≤ 7) → (0 ≤ Int32.toInt m_askedHook' ∧ Int32.toInt m_askedHook' ≤ 1) → (0 ≤ Int32.toInt m_askedApron' ∧ Int32.toInt m_askedApron' ≤ 63) → (0 ≤ Int32.toInt m_wanted' ∧ Int32.toInt m_wanted' ≤ 65535) → (0 ≤ Int32.toInt m_workMoves' ∧ Int32.toInt m_workMoves' ≤ 1000000) → (∀ k : Nat, 0 ≤ Int32.toInt (m_hand' k) ∧ Int32.toInt (m_hand' k) ≤ 65535) → (∀ k : Nat, 0 ≤ Int32.toInt (m_moves' k) ∧ Int32.toInt (m_moves' k) ≤ 1000000) → (∀ k : Nat, 0 ≤ Int32.toInt (m_handSeconds' k) ∧ Int32.toInt (m_handSeconds' k) ≤ 99) → post r m_rowMany' m_thrown' m_read' m_length' m_top' m_at' m_wrong' m_isAsked' m_askedFruit' m_askedStanding' m_askedHook' m_askedApron' m_wanted' m_workMoves' m_workPicks' m_workDowns' m_row' m_hand' m_moves' m_handSeconds' m_load') (hK25 : ∀ (x1 : Int32) (x2 : Int32) (x3 : Int32) (bQ : Int32) (dG : Int32) (jY : Nat) (m_length : Int32) (qG : Int32) (uW : Int32) (eY : Int32) (dN : Int32) (aR : Int32) (aE : Int32) (bJ : Int32) (aW : Int32) (dU : Int32) (bL : Int32) (bR : Int32) (bO : Int32) (uM : Nat → Int32) (tD : Nat → Int32) (uG : Nat → Int32) (nU : Nat → Int32) (vW : Nat → Int32), (-1 ≤ Int32.toInt x1 ∧ Int32.toInt x1 ≤ 255) → (-2147483648 ≤ Int32.toInt x2 ∧ Int32.toInt x2 ≤ 1000000) → (0 ≤ Int32.toInt x3 ∧ Int32.toInt x3 ≤ 256) → (0 ≤ Int32.toInt bQ ∧ Int32.toInt bQ ≤ 16) → (0 ≤ Int32.toInt dG ∧ Int32.toInt dG ≤ 0) → (jY = 0 ∨ jY = 1 ∨ jY = 2) → (0 ≤ Int32.toInt m_length ∧ Int32.toInt m_length ≤ 80) → (0 ≤ Int32.toInt qG ∧ Int32.toInt qG ≤ 80) → (0 ≤ Int32.toInt uW ∧ Int32.toInt uW ≤ 80) → (-1 ≤ Int32.toInt eY ∧ Int32.toInt eY ≤ 80) → (0 ≤ Int32.toInt dN ∧ Int32.toInt dN ≤ 0) → (0 ≤ Int32.toInt aR ∧ Int32.toInt aR ≤ 15) → (0 ≤ Int32.toInt aE ∧ Int32.toInt aE ≤ 7) → (0 ≤ Int32.toInt bJ ∧ Int32.toInt bJ ≤ 1) → (0 ≤ Int32.toInt aW ∧ Int32.toInt aW ≤ 63) → (0 ≤ Int32.toInt dU ∧ Int32.toInt dU ≤ 65535) → (0 ≤ Int32.toInt bL ∧ Int32.toInt bL ≤ 1000000) → (∀ k : Nat, 0 ≤ Int32.toInt (tD k) ∧ Int32.toInt (tD k) ≤ 65535) → (∀ k : Nat, 0 ≤ Int32.toInt (uG k) ∧ Int32.toInt (uG k) ≤ 1000000) → (∀ k : Nat, 0 ≤ Int32.toInt (nU k) ∧ Int32.toInt (nU k) ≤ 99) → (256 - Int32.toInt x3 < n25) → K25 x1 x2 x3 bQ dG jY m_length qG uW eY dN aR aE bJ aW dU bL bR bO uM tD uG nU vW) (x1 x2 x3 bQ dG : Int32) (jY : Nat) (m_length qG uW eY dN aR aE bJ aW dU bL bR bO : Int32) (uM tD uG nU vW : Nat → Int32) (h_x1 : -1 ≤ Int32.toInt x1 ∧ Int32.toInt x1 ≤ 255) (h_x2 : -2147483648 ≤ Int32.toInt x2 ∧ Int32.toInt x2 ≤ 1000000) (h_x3 : 0 ≤ Int32.toInt x3 ∧ Int32.toInt x3 ≤ 255) (h_m_rowMany : 0 ≤ Int32.toInt bQ ∧ Int32.toInt bQ ≤ 16) (h_m_thrown : 0 ≤ Int32.toInt dG ∧ Int32.toInt dG ≤ 0) (h_m_read : jY = 0 ∨ jY = 1 ∨ jY = 2) (h_m_length : 0 ≤ Int32.toInt m_length ∧ Int32.toInt m_length ≤ 80) (h_m_top : 0 ≤ Int32.toInt qG ∧ Int32.toInt qG ≤ 80) (h_m_at : 0 ≤ Int32.toInt uW ∧ Int32.toInt uW ≤ 80) (h_m_wrong : -1 ≤ Int32.toInt eY ∧ Int32.toInt eY ≤ 80) (h_m_isAsked : 0 ≤ Int32.toInt dN ∧ Int32.toInt dN ≤ 0) (h_m_askedFruit : 0 ≤ Int32.toInt aR ∧ Int32.toInt aR ≤ 15) (h_m_askedStanding : 0 ≤ Int32.toInt aE ∧ Int32.toInt aE ≤ 7) (h_m_askedHook : 0 ≤ Int32.toInt bJ ∧ Int32.toInt bJ ≤ 1) (h_m_askedApron : 0 ≤ Int32.toInt aW ∧ Int32.toInt aW ≤ 63) (h_m_wanted : 0 ≤ Int32.toInt dU ∧ Int32.toInt dU ≤ 65535) (h_m_workMoves : 0 ≤ Int32.toInt bL ∧ Int32.toInt bL ≤ 1000000) (h_m_hand : ∀ k : Nat, 0 ≤ Int32.toInt (tD k) ∧ Int32.toInt (tD k) ≤ 65535) (h_m_moves : ∀ k : Nat, 0 ≤ Int32.toInt (uG k) ∧ Int32.toInt (uG k) ≤ 1000000) (h_m_handSeconds : ∀ k : Nat, 0 ≤ Int32.toInt (nU k) ∧ Int32.toInt (nU k) ≤ 99) (hn25 : 256 - Int32.toInt x3 ≤ n25) : ws_X10_soonest_89 post K25 bW aG bU rD m_x jA pY rW oY pR pX rG rQ x1 x2 x3 bQ dG jY m_length qG uW eY dN aR aE bJ aW dU bL bR bO uM tD uG nU vW := by
  have l0 := li_1
  intro v1 ev1
  have f2 : Int32.toInt (x3 + 1) = Int32.toInt x3 + Int32.toInt (1 : Int32) := ta_add _ _ (by omega)
  rw [← ev1] at f2
  have f3 := tp_r x2
  have f4 := tp_r bR
  have f5 := tp_r bO
  exact hK25 x1 x2 v1 bQ dG jY m_length qG uW eY dN aR aE bJ aW dU bL bR bO uM tD uG nU vW h_x1 h_x2 (by omega) h_m_rowMany h_m_thrown h_m_read h_m_length h_m_top h_m_at h_m_wrong h_m_isAsked h_m_askedFruit h_m_askedStanding h_m_askedHook h_m_askedApron h_m_wanted h_m_workMoves h_m_hand h_m_moves h_m_handSeconds (by omega)
set_option maxHeartbeats 8000000 in
set_option maxRecDepth 200000 in
theorem ts_X10_soonest_84 {post : Int32 → Int32 → Int32 → Nat → Int32 → Int32 → Int32 → Int32 → Int32 → Int32 → Int32 → Int32 → Int32 → Int32 → Int32 → Int32 → Int32 → (Nat → Int32) → (Nat → Int32) → (Nat → Int32) → (Nat → Int32) → (Nat → Int32) → Prop} {SB : Int} {K25 : Int32 → Int32 → Int32 → Int32 → Int32 → Nat → Int32 → Int32 → Int32 → Int32 → Int32 → Int32 → Int32 → Int32 → Int32 → Int32 → Int32 → Int32 → Int32 → (Nat → Int32) → (Nat → Int32) → (Nat → Int32) → (Nat → Int32) → (Nat → Int32) → Prop} {n25 : Int} (bW aG bU : Int32) (rD m_x jA pY rW oY pR pX rG rQ : Nat → Int32) (h_m_fruits : 0 ≤ Int32.toInt bW ∧ Int32.toInt bW ≤ 16) (h_m_standings : 0 ≤ Int32.toInt aG ∧ Int32.toInt aG ≤ 8) (h_m_ruleSize : 0 ≤ Int32.toInt bU ∧ Int32.toInt bU ≤ 40) (e0_m_now : ∀ k : Nat, k = 17 → -1 ≤ Int32.toInt (rD k) ∧ Int32.toInt (rD k) ≤ SB) (e1_m_now : ∀ k : Nat, k = 19 → 0 ≤ Int32.toInt (rD k) ∧ Int32.toInt (rD k) ≤ 9) (h_m_x : ∀ k : Nat, 0 ≤ Int32.toInt (m_x k) ∧ Int32.toInt (m_x k) ≤ 99) (h_m_height : ∀ k : Nat, 0 ≤ Int32.toInt (jA k) ∧ Int32.toInt (jA k) ≤ 99) (h_m_worth : ∀ k : Nat, 0 ≤ Int32.toInt (pY k) ∧ Int32.toInt (pY k) ≤ 9) (h_m_ripe : ∀ k : Nat, 0 ≤ Int32.toInt (rW k) ∧ Int32.toInt (rW k) ≤ 9) (h_m_foot : ∀ k : Nat, 0 ≤ Int32.toInt (oY k) ∧ Int32.toInt (oY k) ≤ 99) (h_m_fork : ∀ k : Nat, 0 ≤ Int32.toInt (pR k) ∧ Int32.toInt (pR k) ≤ 99) (e0_m_told : ∀ k : Nat, k = 4 → 1 ≤ Int32.toInt (pX k) ∧ Int32.toInt (pX k) ≤ 30) (e1_m_told : ∀ k : Nat, k = 3 → 0 ≤ Int32.toInt (pX k) ∧ Int32.toInt (pX k) ≤ 9) (h_m_text : ∀ k : Nat, -128 ≤ Int32.toInt (rG k) ∧ Int32.toInt (rG k) ≤ 127) (h_m_rule : ∀ k : Nat, -128 ≤ Int32.toInt (rQ k) ∧ Int32.toInt (rQ k) ≤ 127) (hc0 : -1 ≤ SB ∧ SB ≤ 7) (hc1 : (Int32.toInt aG ≤ 0 ∧ SB = 0) ∨ (1 ≤ Int32.toInt aG ∧ SB = Int32.toInt aG - 1)) (hpost : ∀ (r : Int32) (m_rowMany' : Int32) (m_thrown' : Int32) (m_read' : Nat) (m_length' : Int32) (m_top' : Int32) (m_at' : Int32) (m_wrong' : Int32) (m_isAsked' : Int32) (m_askedFruit' : Int32) (m_askedStanding' : Int32) (m_askedHook' : Int32) (m_askedApron' : Int32) (m_wanted' : Int32) (m_workMoves' : Int32) (m_workPicks' : Int32) (m_workDowns' : Int32) (m_row' : Nat → Int32) (m_hand' : Nat → Int32) (m_moves' : Nat → Int32) (m_handSeconds' : Nat → Int32) (m_load' : Nat → Int32), (-2147483648 ≤ Int32.toInt r ∧ Int32.toInt r ≤ 1000000) → (1 ≤ Int32.toInt m_rowMany' ∧ Int32.toInt m_rowMany' ≤ 1) → (0 ≤ Int32.toInt m_thrown' ∧ Int32.toInt m_thrown' ≤ 0) → (m_read' = 0 ∨ m_read' = 1 ∨ m_read' = 2) → (0 ≤ Int32.toInt m_length' ∧ Int32.toInt m_length' ≤ 80) → (0 ≤ Int32.toInt m_top' ∧ Int32.toInt m_top' ≤ 80) → (0 ≤ Int32.toInt m_at' ∧ Int32.toInt m_at' ≤ 80) → (-1 ≤ Int32.toInt m_wrong' ∧ Int32.toInt m_wrong' ≤ 80) → (0 ≤ Int32.toInt m_isAsked' ∧ Int32.toInt m_isAsked' ≤ 0) → (0 ≤ Int32.toInt m_askedFruit' ∧ Int32.toInt m_askedFruit' ≤ 15) → (0 ≤ Int32.toInt m_askedStanding' ∧ Int32.toInt m_askedStanding' ≤ 7) → (0 ≤ Int32.toInt m_askedHook' ∧ Int32.toInt m_askedHook' ≤ 1) → (0 ≤ Int32.toInt m_askedApron' ∧ Int32.toInt m_askedApron' ≤ 63) → (0 ≤ Int32.toInt m_wanted' ∧ Int32.toInt m_wanted' ≤ 65535) → (0 ≤ Int32.toInt m_workMoves' ∧ Int32.toInt m_workMoves' ≤ 1000000) → (∀ k : Nat, 0 ≤ Int32.toInt (m_hand' k) ∧ Int32.toInt (m_hand' k) ≤ 65535) → (∀ k : Nat, 0 ≤ Int32.toInt (m_moves' k) ∧ Int32.toInt (m_moves' k) ≤ 1000000) → (∀ k : Nat, 0 ≤ Int32.toInt (m_handSeconds' k) ∧ Int32.toInt (m_handSeconds' k) ≤ 99) → post r m_rowMany' m_thrown' m_read' m_length' m_top' m_at' m_wrong' m_isAsked' m_askedFruit' m_askedStanding' m_askedHook' m_askedApron' m_wanted' m_workMoves' m_workPicks' m_workDowns' m_row' m_hand' m_moves' m_handSeconds' m_load') (hK25 : ∀ (x1 : Int32) (x2 : Int32) (x3 : Int32) (bQ : Int32) (dG : Int32) (jY : Nat) (m_length : Int32) (qG : Int32) (uW : Int32) (eY : Int32) (dN : Int32) (aR : Int32) (aE : Int32) (bJ : Int32) (aW : Int32) (dU : Int32) (bL : Int32) (bR : Int32) (bO : Int32) (uM : Nat → Int32) (tD : Nat → Int32) (uG : Nat → Int32) (nU : Nat → Int32) (vW : Nat → Int32), (-1 ≤ Int32.toInt x1 ∧ Int32.toInt x1 ≤ 255) → (-2147483648 ≤ Int32.toInt x2 ∧ Int32.toInt x2 ≤ 1000000) → (0 ≤ Int32.toInt x3 ∧ Int32.toInt x3 ≤ 256) → (0 ≤ Int32.toInt bQ ∧ Int32.toInt bQ ≤ 16) → (0 ≤ Int32.toInt dG ∧ Int32.toInt dG ≤ 0) → (jY = 0 ∨ jY = 1 ∨ jY = 2) → (0 ≤ Int32.toInt m_length ∧ Int32.toInt m_length ≤ 80) → (0 ≤ Int32.toInt qG ∧ Int32.toInt qG ≤ 80) → (0 ≤ Int32.toInt uW ∧ Int32.toInt uW ≤ 80) → (-1 ≤ Int32.toInt eY ∧ Int32.toInt eY ≤ 80) → (0 ≤ Int32.toInt dN ∧ Int32.toInt dN ≤ 0) → (0 ≤ Int32.toInt aR ∧ Int32.toInt aR ≤ 15) → (0 ≤ Int32.toInt aE ∧ Int32.toInt aE ≤ 7) → (0 ≤ Int32.toInt bJ ∧ Int32.toInt bJ ≤ 1) → (0 ≤ Int32.toInt aW ∧ Int32.toInt aW ≤ 63) → (0 ≤ Int32.toInt dU ∧ Int32.toInt dU ≤ 65535) → (0 ≤ Int32.toInt bL ∧ Int32.toInt bL ≤ 1000000) → (∀ k : Nat, 0 ≤ Int32.toInt (tD k) ∧ Int32.toInt (tD k) ≤ 65535) → (∀ k : Nat, 0 ≤ Int32.toInt (uG k) ∧ Int32.toInt (uG k) ≤ 1000000) → (∀ k : Nat, 0 ≤ Int32.toInt (nU k) ∧ Int32.toInt (nU k) ≤ 99) → (256 - Int32.toInt x3 < n25) → K25 x1 x2 x3 bQ dG jY m_length qG uW eY dN aR aE bJ aW dU bL bR bO uM tD uG nU vW) (x3 x4 bQ dG : Int32) (jY : Nat) (m_length qG uW eY dN aR aE bJ aW dU bL bR bO : Int32) (uM tD uG nU vW : Nat → Int32) (h_x3 : 0 ≤ Int32.toInt x3 ∧ Int32.toInt x3 ≤ 255) (h_x4 : -2147483648 ≤ Int32.toInt x4 ∧ Int32.toInt x4 ≤ 1000000) (h_m_rowMany : 0 ≤ Int32.toInt bQ ∧ Int32.toInt bQ ≤ 16) (h_m_thrown : 0 ≤ Int32.toInt dG ∧ Int32.toInt dG ≤ 0) (h_m_read : jY = 0 ∨ jY = 1 ∨ jY = 2) (h_m_length : 0 ≤ Int32.toInt m_length ∧ Int32.toInt m_length ≤ 80) (h_m_top : 0 ≤ Int32.toInt qG ∧ Int32.toInt qG ≤ 80) (h_m_at : 0 ≤ Int32.toInt uW ∧ Int32.toInt uW ≤ 80) (h_m_wrong : -1 ≤ Int32.toInt eY ∧ Int32.toInt eY ≤ 80) (h_m_isAsked : 0 ≤ Int32.toInt dN ∧ Int32.toInt dN ≤ 0) (h_m_askedFruit : 0 ≤ Int32.toInt aR ∧ Int32.toInt aR ≤ 15) (h_m_askedStanding : 0 ≤ Int32.toInt aE ∧ Int32.toInt aE ≤ 7) (h_m_askedHook : 0 ≤ Int32.toInt bJ ∧ Int32.toInt bJ ≤ 1) (h_m_askedApron : 0 ≤ Int32.toInt aW ∧ Int32.toInt aW ≤ 63) (h_m_wanted : 0 ≤ Int32.toInt dU ∧ Int32.toInt dU ≤ 65535) (h_m_workMoves : 0 ≤ Int32.toInt bL ∧ Int32.toInt bL ≤ 1000000) (h_m_hand : ∀ k : Nat, 0 ≤ Int32.toInt (tD k) ∧ Int32.toInt (tD k) ≤ 65535) (h_m_moves : ∀ k : Nat, 0 ≤ Int32.toInt (uG k) ∧ Int32.toInt (uG k) ≤ 1000000) (h_m_handSeconds : ∀ k : Nat, 0 ≤ Int32.toInt (nU k) ∧ Int32.toInt (nU k) ≤ 99) (hn25 : 256 - Int32.toInt x3 ≤ n25) : ws_X10_soonest_84 post K25 bW aG bU rD m_x jA pY rW oY pR pX rG rQ x3 x4 bQ dG jY m_length qG uW eY dN aR aE bJ aW dU bL bR bO uM tD uG nU vW := by
  have f6 := tp_r x4
  have f7 := tp_r bR
  have f8 := tp_r bO
  exact ts_X10_soonest_89 bW aG bU rD m_x jA pY rW oY pR pX rG rQ h_m_fruits h_m_standings h_m_ruleSize e0_m_now e1_m_now h_m_x h_m_height h_m_worth h_m_ripe h_m_foot h_m_fork e0_m_told e1_m_told h_m_text h_m_rule hc0 hc1 hpost hK25 x3 x4 x3 bQ dG jY m_length qG uW eY dN aR aE bJ aW dU bL bR bO uM tD uG nU vW (by omega) h_x4 h_x3 h_m_rowMany h_m_thrown h_m_read h_m_length h_m_top h_m_at h_m_wrong h_m_isAsked h_m_askedFruit h_m_askedStanding h_m_askedHook h_m_askedApron h_m_wanted h_m_workMoves h_m_hand h_m_moves h_m_handSeconds hn25
set_option maxHeartbeats 8000000 in
set_option maxRecDepth 200000 in
theorem ts_X10_soonest_25 {post : Int32 → Int32 → Int32 → Nat → Int32 → Int32 → Int32 → Int32 → Int32 → Int32 → Int32 → Int32 → Int32 → Int32 → Int32 → Int32 → Int32 → (Nat → Int32) → (Nat → Int32) → (Nat → Int32) → (Nat → Int32) → (Nat → Int32) → Prop} {SB : Int} {next : Int32 → Int32 → Int32 → Int32 → Int32 → Nat → Int32 → Int32 → Int32 → Int32 → Int32 → Int32 → Int32 → Int32 → Int32 → Int32 → Int32 → Int32 → Int32 → (Nat → Int32) → (Nat → Int32) → (Nat → Int32) → (Nat → Int32) → (Nat → Int32) → Prop} {n25 : Int} (bW aG bU : Int32) (rD m_x jA pY rW oY pR pX rG rQ : Nat → Int32) (h_m_fruits : 0 ≤ Int32.toInt bW ∧ Int32.toInt bW ≤ 16) (h_m_standings : 0 ≤ Int32.toInt aG ∧ Int32.toInt aG ≤ 8) (h_m_ruleSize : 0 ≤ Int32.toInt bU ∧ Int32.toInt bU ≤ 40) (e0_m_now : ∀ k : Nat, k = 17 → -1 ≤ Int32.toInt (rD k) ∧ Int32.toInt (rD k) ≤ SB) (e1_m_now : ∀ k : Nat, k = 19 → 0 ≤ Int32.toInt (rD k) ∧ Int32.toInt (rD k) ≤ 9) (h_m_x : ∀ k : Nat, 0 ≤ Int32.toInt (m_x k) ∧ Int32.toInt (m_x k) ≤ 99) (h_m_height : ∀ k : Nat, 0 ≤ Int32.toInt (jA k) ∧ Int32.toInt (jA k) ≤ 99) (h_m_worth : ∀ k : Nat, 0 ≤ Int32.toInt (pY k) ∧ Int32.toInt (pY k) ≤ 9) (h_m_ripe : ∀ k : Nat, 0 ≤ Int32.toInt (rW k) ∧ Int32.toInt (rW k) ≤ 9) (h_m_foot : ∀ k : Nat, 0 ≤ Int32.toInt (oY k) ∧ Int32.toInt (oY k) ≤ 99) (h_m_fork : ∀ k : Nat, 0 ≤ Int32.toInt (pR k) ∧ Int32.toInt (pR k) ≤ 99) (e0_m_told : ∀ k : Nat, k = 4 → 1 ≤ Int32.toInt (pX k) ∧ Int32.toInt (pX k) ≤ 30) (e1_m_told : ∀ k : Nat, k = 3 → 0 ≤ Int32.toInt (pX k) ∧ Int32.toInt (pX k) ≤ 9) (h_m_text : ∀ k : Nat, -128 ≤ Int32.toInt (rG k) ∧ Int32.toInt (rG k) ≤ 127) (h_m_rule : ∀ k : Nat, -128 ≤ Int32.toInt (rQ k) ∧ Int32.toInt (rQ k) ≤ 127) (hc0 : -1 ≤ SB ∧ SB ≤ 7) (hc1 : (Int32.toInt aG ≤ 0 ∧ SB = 0) ∨ (1 ≤ Int32.toInt aG ∧ SB = Int32.toInt aG - 1)) (hpost : ∀ (r : Int32) (m_rowMany' : Int32) (m_thrown' : Int32) (m_read' : Nat) (m_length' : Int32) (m_top' : Int32) (m_at' : Int32) (m_wrong' : Int32) (m_isAsked' : Int32) (m_askedFruit' : Int32) (m_askedStanding' : Int32) (m_askedHook' : Int32) (m_askedApron' : Int32) (m_wanted' : Int32) (m_workMoves' : Int32) (m_workPicks' : Int32) (m_workDowns' : Int32) (m_row' : Nat → Int32) (m_hand' : Nat → Int32) (m_moves' : Nat → Int32) (m_handSeconds' : Nat → Int32) (m_load' : Nat → Int32), (-2147483648 ≤ Int32.toInt r ∧ Int32.toInt r ≤ 1000000) → (1 ≤ Int32.toInt m_rowMany' ∧ Int32.toInt m_rowMany' ≤ 1) → (0 ≤ Int32.toInt m_thrown' ∧ Int32.toInt m_thrown' ≤ 0) → (m_read' = 0 ∨ m_read' = 1 ∨ m_read' = 2) → (0 ≤ Int32.toInt m_length' ∧ Int32.toInt m_length' ≤ 80) → (0 ≤ Int32.toInt m_top' ∧ Int32.toInt m_top' ≤ 80) → (0 ≤ Int32.toInt m_at' ∧ Int32.toInt m_at' ≤ 80) → (-1 ≤ Int32.toInt m_wrong' ∧ Int32.toInt m_wrong' ≤ 80) → (0 ≤ Int32.toInt m_isAsked' ∧ Int32.toInt m_isAsked' ≤ 0) → (0 ≤ Int32.toInt m_askedFruit' ∧ Int32.toInt m_askedFruit' ≤ 15) → (0 ≤ Int32.toInt m_askedStanding' ∧ Int32.toInt m_askedStanding' ≤ 7) → (0 ≤ Int32.toInt m_askedHook' ∧ Int32.toInt m_askedHook' ≤ 1) → (0 ≤ Int32.toInt m_askedApron' ∧ Int32.toInt m_askedApron' ≤ 63) → (0 ≤ Int32.toInt m_wanted' ∧ Int32.toInt m_wanted' ≤ 65535) → (0 ≤ Int32.toInt m_workMoves' ∧ Int32.toInt m_workMoves' ≤ 1000000) → (∀ k : Nat, 0 ≤ Int32.toInt (m_hand' k) ∧ Int32.toInt (m_hand' k) ≤ 65535) → (∀ k : Nat, 0 ≤ Int32.toInt (m_moves' k) ∧ Int32.toInt (m_moves' k) ≤ 1000000) → (∀ k : Nat, 0 ≤ Int32.toInt (m_handSeconds' k) ∧ Int32.toInt (m_handSeconds' k) ≤ 99) → post r m_rowMany' m_thrown' m_read' m_length' m_top' m_at' m_wrong' m_isAsked' m_askedFruit' m_askedStanding' m_askedHook' m_askedApron' m_wanted' m_workMoves' m_workPicks' m_workDowns' m_row' m_hand' m_moves' m_handSeconds' m_load') (hKn : ∀ (x1 : Int32) (x2 : Int32) (x3 : Int32) (bQ : Int32) (dG : Int32) (jY : Nat) (m_length : Int32) (qG : Int32) (uW : Int32) (eY : Int32) (dN : Int32) (aR : Int32) (aE : Int32) (bJ : Int32) (aW : Int32) (dU : Int32) (bL : Int32) (bR : Int32) (bO : Int32) (uM : Nat → Int32) (tD : Nat → Int32) (uG : Nat → Int32) (nU : Nat → Int32) (vW : Nat → Int32), (-1 ≤ Int32.toInt x1 ∧ Int32.toInt x1 ≤ 255) → (-2147483648 ≤ Int32.toInt x2 ∧ Int32.toInt x2 ≤ 1000000) → (0 ≤ Int32.toInt x3 ∧ Int32.toInt x3 ≤ 256) → (0 ≤ Int32.toInt bQ ∧ Int32.toInt bQ ≤ 16) → (0 ≤ Int32.toInt dG ∧ Int32.toInt dG ≤ 0) → (jY = 0 ∨ jY = 1 ∨ jY = 2) → (0 ≤ Int32.toInt m_length ∧ Int32.toInt m_length ≤ 80) → (0 ≤ Int32.toInt qG ∧ Int32.toInt qG ≤ 80) → (0 ≤ Int32.toInt uW ∧ Int32.toInt uW ≤ 80) → (-1 ≤ Int32.toInt eY ∧ Int32.toInt eY ≤ 80) → (0 ≤ Int32.toInt dN ∧ Int32.toInt dN ≤ 0) → (0 ≤ Int32.toInt aR ∧ Int32.toInt aR ≤ 15) → (0 ≤ Int32.toInt aE ∧ Int32.toInt aE ≤ 7) → (0 ≤ Int32.toInt bJ ∧ Int32.toInt bJ ≤ 1) → (0 ≤ Int32.toInt aW ∧ Int32.toInt aW ≤ 63) → (0 ≤ Int32.toInt dU ∧ Int32.toInt dU ≤ 65535) → (0 ≤ Int32.toInt bL ∧ Int32.toInt bL ≤ 1000000) → (∀ k : Nat, 0 ≤ Int32.toInt (tD k) ∧ Int32.toInt (tD k) ≤ 65535) → (∀ k : Nat, 0 ≤ Int32.toInt (uG k) ∧ Int32.toInt (uG k) ≤ 1000000) → (∀ k : Nat, 0 ≤ Int32.toInt (nU k) ∧ Int32.toInt (nU k) ≤ 99) → (256 - Int32.toInt x3 < n25) → next x1 x2 x3 bQ dG jY m_length qG uW eY dN aR aE bJ aW dU bL bR bO uM tD uG nU vW) (x1 x2 x3 bQ dG : Int32) (jY : Nat) (m_length qG uW eY dN aR aE bJ aW dU bL bR bO : Int32) (uM tD uG nU vW : Nat → Int32) (h_x1 : -1 ≤ Int32.toInt x1 ∧ Int32.toInt x1 ≤ 255) (h_x2 : -2147483648 ≤ Int32.toInt x2 ∧ Int32.toInt x2 ≤ 1000000) (h_x3 : 0 ≤ Int32.toInt x3 ∧ Int32.toInt x3 ≤ 256) (h_m_rowMany : 0 ≤ Int32.toInt bQ ∧ Int32.toInt bQ ≤ 16) (h_m_thrown : 0 ≤ Int32.toInt dG ∧ Int32.toInt dG ≤ 0) (h_m_read : jY = 0 ∨ jY = 1 ∨ jY = 2) (h_m_length : 0 ≤ Int32.toInt m_length ∧ Int32.toInt m_length ≤ 80) (h_m_top : 0 ≤ Int32.toInt qG ∧ Int32.toInt qG ≤ 80) (h_m_at : 0 ≤ Int32.toInt uW ∧ Int32.toInt uW ≤ 80) (h_m_wrong : -1 ≤ Int32.toInt eY ∧ Int32.toInt eY ≤ 80) (h_m_isAsked : 0 ≤ Int32.toInt dN ∧ Int32.toInt dN ≤ 0) (h_m_askedFruit : 0 ≤ Int32.toInt aR ∧ Int32.toInt aR ≤ 15) (h_m_askedStanding : 0 ≤ Int32.toInt aE ∧ Int32.toInt aE ≤ 7) (h_m_askedHook : 0 ≤ Int32.toInt bJ ∧ Int32.toInt bJ ≤ 1) (h_m_askedApron : 0 ≤ Int32.toInt aW ∧ Int32.toInt aW ≤ 63) (h_m_wanted : 0 ≤ Int32.toInt dU ∧ Int32.toInt dU ≤ 65535) (h_m_workMoves : 0 ≤ Int32.toInt bL ∧ Int32.toInt bL ≤ 1000000) (h_m_hand : ∀ k : Nat, 0 ≤ Int32.toInt (tD k) ∧ Int32.toInt (tD k) ≤ 65535) (h_m_moves : ∀ k : Nat, 0 ≤ Int32.toInt (uG k) ∧ Int32.toInt (uG k) ≤ 1000000) (h_m_handSeconds : ∀ k : Nat, 0 ≤ Int32.toInt (nU k) ∧ Int32.toInt (nU k) ≤ 99) (hn25 : 256 - Int32.toInt x3 ≤ n25) : ws_X10_soonest_25 post next bW aG bU rD m_x jA pY rW oY pR pX rG rQ x1 x2 x3 bQ dG jY m_length qG uW eY dN aR aE bJ aW dU bL bR bO uM tD uG nU vW := by
  have l0 := li_0
  have l1 := li_1
  have l2 := li_1431655765
  have l3 := li_252645135
  have l4 := li_63
  have l5 := li_858993459
  intro v9 ev9
  have f10 := ti_shl1 8 256 aG (by decide) (by omega)
  have hv9 := congrArg Int32.toInt ev9
  have f12 : Int32.toInt (v9 - 1) = Int32.toInt v9 - Int32.toInt (1 : Int32) := ta_sub _ _ (by omega)
  refine And.intro (fun c11 => ?_) (fun c11 => ?_)
  · skip
    have c11 := (fa_lt _ _).mp c11
    refine And.intro (t_in (by omega)) ?_
    intro v13 ev13
    have f14 : Int32.toInt (0 + 1) = Int32.toInt (0 : Int32) + Int32.toInt (1 : Int32) := ta_add _ _ (by omega)
    rw [← ev13] at f14
    have f15 := tp_r x2
    exact hpost _ _ _ _ _ _ _ _ _ _ _ _ _ _ _ _ _ _ _ _ _ _ h_x2 (by omega) h_m_thrown h_m_read h_m_length h_m_top h_m_at h_m_wrong h_m_isAsked h_m_askedFruit h_m_askedStanding h_m_askedHook h_m_askedApron h_m_wanted h_m_workMoves h_m_hand h_m_moves h_m_handSeconds
  · skip
    have c11 := mt (fa_lt _ _).mpr c11
    refine t_X10_handOf (by omega) h_m_standings h_m_hand (fun r16 h_r16 => ?_)
    have f19 := ti_andl dU (r16 ^^^ (-1)) (by omega)
    refine And.intro (fun c17 => ?_) (fun c17 => ?_)
    · skip
      have c17Z := c17
      have c17 := (fa_eq _ _).mp c17
      have s20 := ti_subset dU r16 (c17Z) (by omega)
      refine t_X10_workOf (by omega) h_m_fruits h_m_standings h_m_wanted h_m_workMoves e0_m_now e1_m_now h_m_fork e0_m_told e1_m_told h_m_hand h_m_moves h_m_handSeconds (by omega) (by omega) (fun r25 m_workMoves_21 aCq aCr m_load_24 h_m_workMoves_21 => ?_)
      have f27 := tp_r r25
      have f28 := tp_r x2
      refine And.intro (fun c26 => ?_) (fun c26 => ?_)
      · skip
        have c26 := (fa_lt _ _).mp c26
        have f29 := tp_r aCq
        have f30 := tp_r aCr
        exact ts_X10_soonest_89 bW aG bU rD m_x jA pY rW oY pR pX rG rQ h_m_fruits h_m_standings h_m_ruleSize e0_m_now e1_m_now h_m_x h_m_height h_m_worth h_m_ripe h_m_foot h_m_fork e0_m_told e1_m_told h_m_text h_m_rule hc0 hc1 hpost hKn x1 x2 x3 bQ dG jY m_length qG uW eY dN aR aE bJ aW dU m_workMoves_21 aCq aCr uM tD uG nU m_load_24 h_x1 h_x2 (by omega) h_m_rowMany h_m_thrown h_m_read h_m_length h_m_top h_m_at h_m_wrong h_m_isAsked h_m_askedFruit h_m_askedStanding h_m_askedHook h_m_askedApron h_m_wanted h_m_workMoves_21 h_m_hand h_m_moves h_m_handSeconds hn25
      · skip
        have c26 := mt (fa_lt _ _).mpr c26
        refine And.intro (fun c31 => ?_) (fun c31 => ?_)
        · skip
          have c31 := mt (fa_eq _ _).mpr c31
          have f32 := tp_r aCq
          have f33 := tp_r aCr
          exact ts_X10_soonest_84 bW aG bU rD m_x jA pY rW oY pR pX rG rQ h_m_fruits h_m_standings h_m_ruleSize e0_m_now e1_m_now h_m_x h_m_height h_m_worth h_m_ripe h_m_foot h_m_fork e0_m_told e1_m_told h_m_text h_m_rule hc0 hc1 hpost hKn x3 r25 bQ dG jY m_length qG uW eY dN aR aE bJ aW dU m_workMoves_21 aCq aCr uM tD uG nU m_load_24 (by omega) (by omega) h_m_rowMany h_m_thrown h_m_read h_m_length h_m_top h_m_at h_m_wrong h_m_isAsked h_m_askedFruit h_m_askedStanding h_m_askedHook h_m_askedApron h_m_wanted h_m_workMoves_21 h_m_hand h_m_moves h_m_handSeconds hn25
        · skip
          have c31 := (fa_eq _ _).mp c31
          intro v34 ev34
          intro v35 ev35
          have f37 := ti_andr v34 1431655765 (by omega)
          have f36 : Int32.toInt (x3 - (v34 &&& 1431655765)) = Int32.toInt x3 - Int32.toInt (v34 &&& 1431655765) := ta_sub _ _ (by omega)
          rw [← ev35] at f36
          intro v38 ev38
          have f39 := ti_andr v35 858993459 (by omega)
          have hv38 := congrArg Int32.toInt ev38
          intro v40 ev40
          intro v41 ev41
          have f43 := ti_andr v40 858993459 (by omega)
          have f42 : Int32.toInt (v38 + (v40 &&& 858993459)) = Int32.toInt v38 + Int32.toInt (v40 &&& 858993459) := ta_add _ _ (by omega)
          rw [← ev41] at f42
          intro v44 ev44
          have hv44 := congrArg Int32.toInt ev44
          intro v46 ev46
          have f47 := ti_andr v44 252645135 (by omega)
          have hv46 := congrArg Int32.toInt ev46
          intro v48 ev48
          have hv48 := congrArg Int32.toInt ev48
          intro v50 ev50
          have hv50 := congrArg Int32.toInt ev50
          intro v52 ev52
          intro v53 ev53
          have f55 := ti_andr v52 1431655765 (by omega)
          have f54 : Int32.toInt (x1 - (v52 &&& 1431655765)) = Int32.toInt x1 - Int32.toInt (v52 &&& 1431655765) := ta_sub _ _ (by omega)
          rw [← ev53] at f54
          intro v56 ev56
          have f57 := ti_andr v53 858993459 (by omega)
          have hv56 := congrArg Int32.toInt ev56
          intro v58 ev58
          intro v59 ev59
          have f61 := ti_andr v58 858993459 (by omega)
          have f60 : Int32.toInt (v56 + (v58 &&& 858993459)) = Int32.toInt v56 + Int32.toInt (v58 &&& 858993459) := ta_add _ _ (by omega)
          rw [← ev59] at f60
          intro v62 ev62
          have hv62 := congrArg Int32.toInt ev62
          intro v64 ev64
          have f65 := ti_andr v62 252645135 (by omega)
          have hv64 := congrArg Int32.toInt ev64
          intro v66 ev66
          have hv66 := congrArg Int32.toInt ev66
          intro v68 ev68
          have hv68 := congrArg Int32.toInt ev68
          have f71 := ti_andr v50 63 (by omega)
          have f72 := ti_andr v68 63 (by omega)
          refine And.intro (fun c70 => ?_) (fun c70 => ?_)
          · skip
            have c70 := (fa_lt _ _).mp c70
            have f73 := tp_r aCq
            have f74 := tp_r aCr
            exact ts_X10_soonest_84 bW aG bU rD m_x jA pY rW oY pR pX rG rQ h_m_fruits h_m_standings h_m_ruleSize e0_m_now e1_m_now h_m_x h_m_height h_m_worth h_m_ripe h_m_foot h_m_fork e0_m_told e1_m_told h_m_text h_m_rule hc0 hc1 hpost hKn x3 r25 bQ dG jY m_length qG uW eY dN aR aE bJ aW dU m_workMoves_21 aCq aCr uM tD uG nU m_load_24 (by omega) (by omega) h_m_rowMany h_m_thrown h_m_read h_m_length h_m_top h_m_at h_m_wrong h_m_isAsked h_m_askedFruit h_m_askedStanding h_m_askedHook h_m_askedApron h_m_wanted h_m_workMoves_21 h_m_hand h_m_moves h_m_handSeconds hn25
          · skip
            have c70 := mt (fa_lt _ _).mpr c70
            have f75 := tp_r aCq
            have f76 := tp_r aCr
            exact ts_X10_soonest_89 bW aG bU rD m_x jA pY rW oY pR pX rG rQ h_m_fruits h_m_standings h_m_ruleSize e0_m_now e1_m_now h_m_x h_m_height h_m_worth h_m_ripe h_m_foot h_m_fork e0_m_told e1_m_told h_m_text h_m_rule hc0 hc1 hpost hKn x1 x2 x3 bQ dG jY m_length qG uW eY dN aR aE bJ aW dU m_workMoves_21 aCq aCr uM tD uG nU m_load_24 h_x1 h_x2 (by omega) h_m_rowMany h_m_thrown h_m_read h_m_length h_m_top h_m_at h_m_wrong h_m_isAsked h_m_askedFruit h_m_askedStanding h_m_askedHook h_m_askedApron h_m_wanted h_m_workMoves_21 h_m_hand h_m_moves h_m_handSeconds hn25
    · skip
      have c17 := mt (fa_eq _ _).mpr c17
      have f77 := tp_r x2
      have f78 := tp_r bR
      have f79 := tp_r bO
      exact ts_X10_soonest_89 bW aG bU rD m_x jA pY rW oY pR pX rG rQ h_m_fruits h_m_standings h_m_ruleSize e0_m_now e1_m_now h_m_x h_m_height h_m_worth h_m_ripe h_m_foot h_m_fork e0_m_told e1_m_told h_m_text h_m_rule hc0 hc1 hpost hKn x1 x2 x3 bQ dG jY m_length qG uW eY dN aR aE bJ aW dU bL bR bO uM tD uG nU vW h_x1 h_x2 (by omega) h_m_rowMany h_m_thrown h_m_read h_m_length h_m_top h_m_at h_m_wrong h_m_isAsked h_m_askedFruit h_m_askedStanding h_m_askedHook h_m_askedApron h_m_wanted h_m_workMoves h_m_hand h_m_moves h_m_handSeconds hn25
set_option maxHeartbeats 8000000 in
set_option maxRecDepth 200000 in
theorem tb_X10_soonest_25 {post : Int32 → Int32 → Int32 → Nat → Int32 → Int32 → Int32 → Int32 → Int32 → Int32 → Int32 → Int32 → Int32 → Int32 → Int32 → Int32 → Int32 → (Nat → Int32) → (Nat → Int32) → (Nat → Int32) → (Nat → Int32) → (Nat → Int32) → Prop} {SB : Int} (bW aG bU : Int32) (rD m_x jA pY rW oY pR pX rG rQ : Nat → Int32) (h_m_fruits : 0 ≤ Int32.toInt bW ∧ Int32.toInt bW ≤ 16) (h_m_standings : 0 ≤ Int32.toInt aG ∧ Int32.toInt aG ≤ 8) (h_m_ruleSize : 0 ≤ Int32.toInt bU ∧ Int32.toInt bU ≤ 40) (e0_m_now : ∀ k : Nat, k = 17 → -1 ≤ Int32.toInt (rD k) ∧ Int32.toInt (rD k) ≤ SB) (e1_m_now : ∀ k : Nat, k = 19 → 0 ≤ Int32.toInt (rD k) ∧ Int32.toInt (rD k) ≤ 9) (h_m_x : ∀ k : Nat, 0 ≤ Int32.toInt (m_x k) ∧ Int32.toInt (m_x k) ≤ 99) (h_m_height : ∀ k : Nat, 0 ≤ Int32.toInt (jA k) ∧ Int32.toInt (jA k) ≤ 99) (h_m_worth : ∀ k : Nat, 0 ≤ Int32.toInt (pY k) ∧ Int32.toInt (pY k) ≤ 9) (h_m_ripe : ∀ k : Nat, 0 ≤ Int32.toInt (rW k) ∧ Int32.toInt (rW k) ≤ 9) (h_m_foot : ∀ k : Nat, 0 ≤ Int32.toInt (oY k) ∧ Int32.toInt (oY k) ≤ 99) (h_m_fork : ∀ k : Nat, 0 ≤ Int32.toInt (pR k) ∧ Int32.toInt (pR k) ≤ 99) (e0_m_told : ∀ k : Nat, k = 4 → 1 ≤ Int32.toInt (pX k) ∧ Int32.toInt (pX k) ≤ 30) (e1_m_told : ∀ k : Nat, k = 3 → 0 ≤ Int32.toInt (pX k) ∧ Int32.toInt (pX k) ≤ 9) (h_m_text : ∀ k : Nat, -128 ≤ Int32.toInt (rG k) ∧ Int32.toInt (rG k) ≤ 127) (h_m_rule : ∀ k : Nat, -128 ≤ Int32.toInt (rQ k) ∧ Int32.toInt (rQ k) ≤ 127) (hc0 : -1 ≤ SB ∧ SB ≤ 7) (hc1 : (Int32.toInt aG ≤ 0 ∧ SB = 0) ∨ (1 ≤ Int32.toInt aG ∧ SB = Int32.toInt aG - 1)) (hpost : ∀ (r : Int32) (m_rowMany' : Int32) (m_thrown' : Int32) (m_read' : Nat) (m_length' : Int32) (m_top' : Int32) (m_at' : Int32) (m_wrong' : Int32) (m_isAsked' : Int32) (m_askedFruit' : Int32) (m_askedStanding' : Int32) (m_askedHook' : Int32) (m_askedApron' : Int32) (m_wanted' : Int32) (m_workMoves' : Int32) (m_workPicks' : Int32) (m_workDowns' : Int32) (m_row' : Nat → Int32) (m_hand' : Nat → Int32) (m_moves' : Nat → Int32) (m_handSeconds' : Nat → Int32) (m_load' : Nat → Int32), (-2147483648 ≤ Int32.toInt r ∧ Int32.toInt r ≤ 1000000) → (1 ≤ Int32.toInt m_rowMany' ∧ Int32.toInt m_rowMany' ≤ 1) → (0 ≤ Int32.toInt m_thrown' ∧ Int32.toInt m_thrown' ≤ 0) → (m_read' = 0 ∨ m_read' = 1 ∨ m_read' = 2) → (0 ≤ Int32.toInt m_length' ∧ Int32.toInt m_length' ≤ 80) → (0 ≤ Int32.toInt m_top' ∧ Int32.toInt m_top' ≤ 80) → (0 ≤ Int32.toInt m_at' ∧ Int32.toInt m_at' ≤ 80) → (-1 ≤ Int32.toInt m_wrong' ∧ Int32.toInt m_wrong' ≤ 80) → (0 ≤ Int32.toInt m_isAsked' ∧ Int32.toInt m_isAsked' ≤ 0) → (0 ≤ Int32.toInt m_askedFruit' ∧ Int32.toInt m_askedFruit' ≤ 15) → (0 ≤ Int32.toInt m_askedStanding' ∧ Int32.toInt m_askedStanding' ≤ 7) → (0 ≤ Int32.toInt m_askedHook' ∧ Int32.toInt m_askedHook' ≤ 1) → (0 ≤ Int32.toInt m_askedApron' ∧ Int32.toInt m_askedApron' ≤ 63) → (0 ≤ Int32.toInt m_wanted' ∧ Int32.toInt m_wanted' ≤ 65535) → (0 ≤ Int32.toInt m_workMoves' ∧ Int32.toInt m_workMoves' ≤ 1000000) → (∀ k : Nat, 0 ≤ Int32.toInt (m_hand' k) ∧ Int32.toInt (m_hand' k) ≤ 65535) → (∀ k : Nat, 0 ≤ Int32.toInt (m_moves' k) ∧ Int32.toInt (m_moves' k) ≤ 1000000) → (∀ k : Nat, 0 ≤ Int32.toInt (m_handSeconds' k) ∧ Int32.toInt (m_handSeconds' k) ≤ 99) → post r m_rowMany' m_thrown' m_read' m_length' m_top' m_at' m_wrong' m_isAsked' m_askedFruit' m_askedStanding' m_askedHook' m_askedApron' m_wanted' m_workMoves' m_workPicks' m_workDowns' m_row' m_hand' m_moves' m_handSeconds' m_load') : ∀ (n : Nat) (x1 x2 x3 bQ dG : Int32) (jY : Nat) (m_length qG uW eY dN aR aE bJ aW dU bL bR bO : Int32) (uM tD uG nU vW : Nat → Int32), (-1 ≤ Int32.toInt x1 ∧ Int32.toInt x1 ≤ 255) → (-2147483648 ≤ Int32.toInt x2 ∧ Int32.toInt x2 ≤ 1000000) → (0 ≤ Int32.toInt x3 ∧ Int32.toInt x3 ≤ 256) → (0 ≤ Int32.toInt bQ ∧ Int32.toInt bQ ≤ 16) → (0 ≤ Int32.toInt dG ∧ Int32.toInt dG ≤ 0) → (jY = 0 ∨ jY = 1 ∨ jY = 2) → (0 ≤ Int32.toInt m_length ∧ Int32.toInt m_length ≤ 80) → (0 ≤ Int32.toInt qG ∧ Int32.toInt qG ≤ 80) → (0 ≤ Int32.toInt uW ∧ Int32.toInt uW ≤ 80) → (-1 ≤ Int32.toInt eY ∧ Int32.toInt eY ≤ 80) → (0 ≤ Int32.toInt dN ∧ Int32.toInt dN ≤ 0) → (0 ≤ Int32.toInt aR ∧ Int32.toInt aR ≤ 15) → (0 ≤ Int32.toInt aE ∧ Int32.toInt aE ≤ 7) → (0 ≤ Int32.toInt bJ ∧ Int32.toInt bJ ≤ 1) → (0 ≤ Int32.toInt aW ∧ Int32.toInt aW ≤ 63) → (0 ≤ Int32.toInt dU ∧ Int32.toInt dU ≤ 65535) → (0 ≤ Int32.toInt bL ∧ Int32.toInt bL ≤ 1000000) → (∀ k : Nat, 0 ≤ Int32.toInt (tD k) ∧ Int32.toInt (tD k) ≤ 65535) → (∀ k : Nat, 0 ≤ Int32.toInt (uG k) ∧ Int32.toInt (uG k) ≤ 1000000) → (∀ k : Nat, 0 ≤ Int32.toInt (nU k) ∧ Int32.toInt (nU k) ≤ 99) → (256 - Int32.toInt x3 < (n : Int)) → wb_X10_soonest_25 post bW aG bU rD m_x jA pY rW oY pR pX rG rQ n x1 x2 x3 bQ dG jY m_length qG uW eY dN aR aE bJ aW dU bL bR bO uM tD uG nU vW := by
  intro n
  induction n with
  | zero =>
    intro x1 x2 x3 bQ dG jY m_length qG uW eY dN aR aE bJ aW dU bL bR bO uM tD uG nU vW h_x1 h_x2 h_x3 h_m_rowMany h_m_thrown h_m_read h_m_length h_m_top h_m_at h_m_wrong h_m_isAsked h_m_askedFruit h_m_askedStanding h_m_askedHook h_m_askedApron h_m_wanted h_m_workMoves h_m_hand h_m_moves h_m_handSeconds hm
    exfalso; omega
  | succ n ih =>
    intro x1 x2 x3 bQ dG jY m_length qG uW eY dN aR aE bJ aW dU bL bR bO uM tD uG nU vW h_x1 h_x2 h_x3 h_m_rowMany h_m_thrown h_m_read h_m_length h_m_top h_m_at h_m_wrong h_m_isAsked h_m_askedFruit h_m_askedStanding h_m_askedHook h_m_askedApron h_m_wanted h_m_workMoves h_m_hand h_m_moves h_m_handSeconds hm
    exact ts_X10_soonest_25 bW aG bU rD m_x jA pY rW oY pR pX rG rQ h_m_fruits h_m_standings h_m_ruleSize e0_m_now e1_m_now h_m_x h_m_height h_m_worth h_m_ripe h_m_foot h_m_fork e0_m_told e1_m_told h_m_text h_m_rule hc0 hc1 hpost ih x1 x2 x3 bQ dG jY m_length qG uW eY dN aR aE bJ aW dU bL bR bO uM tD uG nU vW h_x1 h_x2 h_x3 h_m_rowMany h_m_thrown h_m_read h_m_length h_m_top h_m_at h_m_wrong h_m_isAsked h_m_askedFruit h_m_askedStanding h_m_askedHook h_m_askedApron h_m_wanted h_m_workMoves h_m_hand h_m_moves h_m_handSeconds (by omega)
set_option maxHeartbeats 8000000 in
set_option maxRecDepth 200000 in
theorem t_X10_soonest {post : Int32 → Int32 → Int32 → Nat → Int32 → Int32 → Int32 → Int32 → Int32 → Int32 → Int32 → Int32 → Int32 → Int32 → Int32 → Int32 → Int32 → (Nat → Int32) → (Nat → Int32) → (Nat → Int32) → (Nat → Int32) → (Nat → Int32) → Prop} {SB : Int} {bW aG bQ dG : Int32} {jY : Nat} {m_length qG uW eY bU dN aR aE bJ aW dU bL bR bO : Int32} {rD m_x jA pY rW oY pR pX rG uM rQ tD uG nU vW : Nat → Int32} (h_m_fruits : 0 ≤ Int32.toInt bW ∧ Int32.toInt bW ≤ 16) (h_m_standings : 0 ≤ Int32.toInt aG ∧ Int32.toInt aG ≤ 8) (h_m_rowMany : 0 ≤ Int32.toInt bQ ∧ Int32.toInt bQ ≤ 16) (h_m_thrown : 0 ≤ Int32.toInt dG ∧ Int32.toInt dG ≤ 1) (h_m_read : jY = 0 ∨ jY = 1 ∨ jY = 2) (h_m_length : 0 ≤ Int32.toInt m_length ∧ Int32.toInt m_length ≤ 80) (h_m_top : 0 ≤ Int32.toInt qG ∧ Int32.toInt qG ≤ 80) (h_m_at : 0 ≤ Int32.toInt uW ∧ Int32.toInt uW ≤ 80) (h_m_wrong : -1 ≤ Int32.toInt eY ∧ Int32.toInt eY ≤ 80) (h_m_ruleSize : 0 ≤ Int32.toInt bU ∧ Int32.toInt bU ≤ 40) (h_m_isAsked : 0 ≤ Int32.toInt dN ∧ Int32.toInt dN ≤ 0) (h_m_askedFruit : 0 ≤ Int32.toInt aR ∧ Int32.toInt aR ≤ 15) (h_m_askedStanding : 0 ≤ Int32.toInt aE ∧ Int32.toInt aE ≤ 7) (h_m_askedHook : 0 ≤ Int32.toInt bJ ∧ Int32.toInt bJ ≤ 1) (h_m_askedApron : 0 ≤ Int32.toInt aW ∧ Int32.toInt aW ≤ 63) (h_m_wanted : 0 ≤ Int32.toInt dU ∧ Int32.toInt dU ≤ 65535) (h_m_workMoves : 0 ≤ Int32.toInt bL ∧ Int32.toInt bL ≤ 1000000) (e0_m_now : ∀ k : Nat, k = 17 → -1 ≤ Int32.toInt (rD k) ∧ Int32.toInt (rD k) ≤ SB) (e1_m_now : ∀ k : Nat, k = 19 → 0 ≤ Int32.toInt (rD k) ∧ Int32.toInt (rD k) ≤ 9) (h_m_x : ∀ k : Nat, 0 ≤ Int32.toInt (m_x k) ∧ Int32.toInt (m_x k) ≤ 99) (h_m_height : ∀ k : Nat, 0 ≤ Int32.toInt (jA k) ∧ Int32.toInt (jA k) ≤ 99) (h_m_worth : ∀ k : Nat, 0 ≤ Int32.toInt (pY k) ∧ Int32.toInt (pY k) ≤ 9) (h_m_ripe : ∀ k : Nat, 0 ≤ Int32.toInt (rW k) ∧ Int32.toInt (rW k) ≤ 9) (h_m_foot : ∀ k : Nat, 0 ≤ Int32.toInt (oY k) ∧ Int32.toInt (oY k) ≤ 99) (h_m_fork : ∀ k : Nat, 0 ≤ Int32.toInt (pR k) ∧ Int32.toInt (pR k) ≤ 99) (e0_m_told : ∀ k : Nat, k = 4 → 1 ≤ Int32.toInt (pX k) ∧ Int32.toInt (pX k) ≤ 30) (e1_m_told : ∀ k : Nat, k = 3 → 0 ≤ Int32.toInt (pX k) ∧ Int32.toInt (pX k) ≤ 9) (h_m_text : ∀ k : Nat, -128 ≤ Int32.toInt (rG k) ∧ Int32.toInt (rG k) ≤ 127) (h_m_rule : ∀ k : Nat, -128 ≤ Int32.toInt (rQ k) ∧ Int32.toInt (rQ k) ≤ 127) (h_m_hand : ∀ k : Nat, 0 ≤ Int32.toInt (tD k) ∧ Int32.toInt (tD k) ≤ 65535) (h_m_moves : ∀ k : Nat, 0 ≤ Int32.toInt (uG k) ∧ Int32.toInt (uG k) ≤ 1000000) (h_m_handSeconds : ∀ k : Nat, 0 ≤ Int32.toInt (nU k) ∧ Int32.toInt (nU k) ≤ 99) (hc0 : -1 ≤ SB ∧ SB ≤ 7) (hc1 : (Int32.toInt aG ≤ 0 ∧ SB = 0) ∨ (1 ≤ Int32.toInt aG ∧ SB = Int32.toInt aG - 1)) (hpost : ∀ (r : Int32) (m_rowMany' : Int32) (m_thrown' : Int32) (m_read' : Nat) (m_length' : Int32) (m_top' : Int32) (m_at' : Int32) (m_wrong' : Int32) (m_isAsked' : Int32) (m_askedFruit' : Int32) (m_askedStanding' : Int32) (m_askedHook' : Int32) (m_askedApron' : Int32) (m_wanted' : Int32) (m_workMoves' : Int32) (m_workPicks' : Int32) (m_workDowns' : Int32) (m_row' : Nat → Int32) (m_hand' : Nat → Int32) (m_moves' : Nat → Int32) (m_handSeconds' : Nat → Int32) (m_load' : Nat → Int32), (-2147483648 ≤ Int32.toInt r ∧ Int32.toInt r ≤ 1000000) → (1 ≤ Int32.toInt m_rowMany' ∧ Int32.toInt m_rowMany' ≤ 1) → (0 ≤ Int32.toInt m_thrown' ∧ Int32.toInt m_thrown' ≤ 0) → (m_read' = 0 ∨ m_read' = 1 ∨ m_read' = 2) → (0 ≤ Int32.toInt m_length' ∧ Int32.toInt m_length' ≤ 80) → (0 ≤ Int32.toInt m_top' ∧ Int32.toInt m_top' ≤ 80) → (0 ≤ Int32.toInt m_at' ∧ Int32.toInt m_at' ≤ 80) → (-1 ≤ Int32.toInt m_wrong' ∧ Int32.toInt m_wrong' ≤ 80) → (0 ≤ Int32.toInt m_isAsked' ∧ Int32.toInt m_isAsked' ≤ 0) → (0 ≤ Int32.toInt m_askedFruit' ∧ Int32.toInt m_askedFruit' ≤ 15) → (0 ≤ Int32.toInt m_askedStanding' ∧ Int32.toInt m_askedStanding' ≤ 7) → (0 ≤ Int32.toInt m_askedHook' ∧ Int32.toInt m_askedHook' ≤ 1) → (0 ≤ Int32.toInt m_askedApron' ∧ Int32.toInt m_askedApron' ≤ 63) → (0 ≤ Int32.toInt m_wanted' ∧ Int32.toInt m_wanted' ≤ 65535) → (0 ≤ Int32.toInt m_workMoves' ∧ Int32.toInt m_workMoves' ≤ 1000000) → (∀ k : Nat, 0 ≤ Int32.toInt (m_hand' k) ∧ Int32.toInt (m_hand' k) ≤ 65535) → (∀ k : Nat, 0 ≤ Int32.toInt (m_moves' k) ∧ Int32.toInt (m_moves' k) ≤ 1000000) → (∀ k : Nat, 0 ≤ Int32.toInt (m_handSeconds' k) ∧ Int32.toInt (m_handSeconds' k) ≤ 99) → post r m_rowMany' m_thrown' m_read' m_length' m_top' m_at' m_wrong' m_isAsked' m_askedFruit' m_askedStanding' m_askedHook' m_askedApron' m_wanted' m_workMoves' m_workPicks' m_workDowns' m_row' m_hand' m_moves' m_handSeconds' m_load') : wp_X10_soonest post bW aG bQ dG jY m_length qG uW eY bU dN aR aE bJ aW dU bL bR bO rD m_x jA pY rW oY pR pX rG uM rQ tD uG nU vW := by
  have l0 := li_m1
  have l1 := li_0
  have l2 := li_1000000
  have l3 := li_18
  intro v80 ev80
  have hv80 := congrArg Int32.toInt ev80
  refine t_X10_layHands_ h_m_fruits h_m_standings h_m_wanted e0_m_now e1_m_now h_m_x h_m_height h_m_ripe h_m_foot h_m_fork e0_m_told e1_m_told h_m_hand (by omega) (by omega) (fun m_wanted_82 m_hand_83 h_m_wanted_82 h_m_hand_83 => ?_)
  refine t_X10_layMoves h_m_standings h_m_foot e0_m_told e1_m_told h_m_moves (fun m_moves_84 h_m_moves_84 ox85 => ?_)
  refine t_X10_laySeconds h_m_fruits h_m_standings h_m_read h_m_length h_m_top h_m_at h_m_wrong h_m_ruleSize h_m_isAsked h_m_askedFruit h_m_askedStanding h_m_askedHook h_m_askedApron h_m_x h_m_height h_m_worth h_m_foot h_m_fork h_m_text h_m_rule h_m_handSeconds (fun m_read_86 m_length_87 m_top_88 m_at_89 m_wrong_90 m_isAsked_91 m_askedFruit_92 m_askedStanding_93 m_askedHook_94 m_askedApron_95 m_handSeconds_96 h_m_read_86 h_m_length_87 h_m_top_88 h_m_at_89 h_m_wrong_90 h_m_isAsked_91 h_m_askedFruit_92 h_m_askedStanding_93 h_m_askedHook_94 h_m_askedApron_95 h_m_handSeconds_96 => ?_)
  have f97 := tp_r bR
  have f98 := tp_r bO
  exact ⟨258, tb_X10_soonest_25 bW aG bU rD m_x jA pY rW oY pR pX rG rQ h_m_fruits h_m_standings h_m_ruleSize e0_m_now e1_m_now h_m_x h_m_height h_m_worth h_m_ripe h_m_foot h_m_fork e0_m_told e1_m_told h_m_text h_m_rule hc0 hc1 hpost _ (-1) 1000000 0 bQ 0 m_read_86 m_length_87 m_top_88 m_at_89 m_wrong_90 m_isAsked_91 m_askedFruit_92 m_askedStanding_93 m_askedHook_94 m_askedApron_95 m_wanted_82 bL bR bO uM m_hand_83 m_moves_84 m_handSeconds_96 vW (by omega) (by omega) (by omega) h_m_rowMany (by omega) h_m_read_86 h_m_length_87 h_m_top_88 h_m_at_89 h_m_wrong_90 h_m_isAsked_91 h_m_askedFruit_92 h_m_askedStanding_93 h_m_askedHook_94 h_m_askedApron_95 h_m_wanted_82 h_m_workMoves h_m_hand_83 h_m_moves_84 h_m_handSeconds_96 (by omega)⟩
set_option maxHeartbeats 8000000 in
set_option maxRecDepth 200000 in
theorem ts_X10_pays_68 {post : Int32 → Int32 → Int32 → Nat → Int32 → Int32 → Int32 → Int32 → Int32 → Int32 → Int32 → Int32 → Int32 → Int32 → (Nat → Int32) → (Nat → Int32) → Prop} {SB : Int} {K36 : Int32 → Int32 → Int32 → Int32 → Int32 → Int32 → Nat → Int32 → Int32 → Int32 → Int32 → Int32 → Int32 → Int32 → Int32 → Int32 → Int32 → (Nat → Int32) → (Nat → Int32) → Prop} {n36 : Int} (bW aG bU : Int32) (rD m_x jA pY rW oY pR pX rG rQ : Nat → Int32) (h_m_fruits : 0 ≤ Int32.toInt bW ∧ Int32.toInt bW ≤ 16) (h_m_standings : 0 ≤ Int32.toInt aG ∧ Int32.toInt aG ≤ 8) (h_m_ruleSize : 0 ≤ Int32.toInt bU ∧ Int32.toInt bU ≤ 40) (e0_m_now : ∀ k : Nat, k = 17 → -1 ≤ Int32.toInt (rD k) ∧ Int32.toInt (rD k) ≤ SB) (e1_m_now : ∀ k : Nat, k = 19 → 0 ≤ Int32.toInt (rD k) ∧ Int32.toInt (rD k) ≤ 9) (h_m_x : ∀ k : Nat, 0 ≤ Int32.toInt (m_x k) ∧ Int32.toInt (m_x k) ≤ 99) (h_m_height : ∀ k : Nat, 0 ≤ Int32.toInt (jA k) ∧ Int32.toInt (jA k) ≤ 99) (h_m_worth : ∀ k : Nat, 0 ≤ Int32.toInt (pY k) ∧ Int32.toInt (pY k) ≤ 9) (h_m_ripe : ∀ k : Nat, 0 ≤ Int32.toInt (rW k) ∧ Int32.toInt (rW k) ≤ 9) (h_m_foot : ∀ k : Nat, 0 ≤ Int32.toInt (oY k) ∧ Int32.toInt (oY k) ≤ 99) (h_m_fork : ∀ k : Nat, 0 ≤ Int32.toInt (pR k) ∧ Int32.toInt (pR k) ≤ 99) (e0_m_told : ∀ k : Nat, k = 4 → 1 ≤ Int32.toInt (pX k) ∧ Int32.toInt (pX k) ≤ 30) (e1_m_told : ∀ k : Nat, k = 3 → 0 ≤ Int32.toInt (pX k) ∧ Int32.toInt (pX k) ≤ 9) (h_m_text : ∀ k : Nat, -128 ≤ Int32.toInt (rG k) ∧ Int32.toInt (rG k) ≤ 127) (h_m_rule : ∀ k : Nat, -128 ≤ Int32.toInt (rQ k) ∧ Int32.toInt (rQ k) ≤ 127) (hc0 : -1 ≤ SB ∧ SB ≤ 7) (hc1 : (Int32.toInt aG ≤ 0 ∧ SB = 0) ∨ (1 ≤ Int32.toInt aG ∧ SB = Int32.toInt aG - 1)) (hpost : ∀ (r : Int32) (m_rowMany' : Int32) (m_thrown' : Int32) (m_read' : Nat) (m_length' : Int32) (m_top' : Int32) (m_at' : Int32) (m_wrong' : Int32) (m_isAsked' : Int32) (m_askedFruit' : Int32) (m_askedStanding' : Int32) (m_askedHook' : Int32) (m_askedApron' : Int32) (m_wanted' : Int32) (m_row' : Nat → Int32) (m_hand' : Nat → Int32), (0 ≤ Int32.toInt m_rowMany' ∧ Int32.toInt m_rowMany' ≤ 16) → (0 ≤ Int32.toInt m_thrown' ∧ Int32.toInt m_thrown' ≤ 0) → (m_read' = 0 ∨ m_read' = 1 ∨ m_read' = 2) → (0 ≤ Int32.toInt m_length' ∧ Int32.toInt m_length' ≤ 80) → (0 ≤ Int32.toInt m_top' ∧ Int32.toInt m_top' ≤ 80) → (0 ≤ Int32.toInt m_at' ∧ Int32.toInt m_at' ≤ 80) → (-1 ≤ Int32.toInt m_wrong' ∧ Int32.toInt m_wrong' ≤ 80) → (0 ≤ Int32.toInt m_isAsked' ∧ Int32.toInt m_isAsked' ≤ 0) → (0 ≤ Int32.toInt m_askedFruit' ∧ Int32.toInt m_askedFruit' ≤ 15) → (0 ≤ Int32.toInt m_askedStanding' ∧ Int32.toInt m_askedStanding' ≤ 7) → (0 ≤ Int32.toInt m_askedHook' ∧ Int32.toInt m_askedHook' ≤ 1) → (0 ≤ Int32.toInt m_askedApron' ∧ Int32.toInt m_askedApron' ≤ 63) → (0 ≤ Int32.toInt m_wanted' ∧ Int32.toInt m_wanted' ≤ 65535) → (∀ k : Nat, 0 ≤ Int32.toInt (m_hand' k) ∧ Int32.toInt (m_hand' k) ≤ 65535) → post r m_rowMany' m_thrown' m_read' m_length' m_top' m_at' m_wrong' m_isAsked' m_askedFruit' m_askedStanding' m_askedHook' m_askedApron' m_wanted' m_row' m_hand') (hK36 : ∀ (x1 : Int32) (x2 : Int32) (x3 : Int32) (x4 : Int32) (bQ : Int32) (dG : Int32) (jY : Nat) (m_length : Int32) (qG : Int32) (uW : Int32) (eY : Int32) (dN : Int32) (aR : Int32) (aE : Int32) (bJ : Int32) (aW : Int32) (dU : Int32) (uM : Nat → Int32) (tD : Nat → Int32), (0 ≤ Int32.toInt x1 ∧ Int32.toInt x1 ≤ 7) → (0 ≤ Int32.toInt x2 ∧ Int32.toInt x2 ≤ 65535) → (0 ≤ Int32.toInt x4 ∧ Int32.toInt x4 ≤ 16) → (0 ≤ Int32.toInt bQ ∧ Int32.toInt bQ ≤ 16) → (0 ≤ Int32.toInt dG ∧ Int32.toInt dG ≤ 0) → (jY = 0 ∨ jY = 1 ∨ jY = 2) → (0 ≤ Int32.toInt m_length ∧ Int32.toInt m_length ≤ 80) → (0 ≤ Int32.toInt qG ∧ Int32.toInt qG ≤ 80) → (0 ≤ Int32.toInt uW ∧ Int32.toInt uW ≤ 80) → (-1 ≤ Int32.toInt eY ∧ Int32.toInt eY ≤ 80) → (0 ≤ Int32.toInt dN ∧ Int32.toInt dN ≤ 0) → (0 ≤ Int32.toInt aR ∧ Int32.toInt aR ≤ 15) → (0 ≤ Int32.toInt aE ∧ Int32.toInt aE ≤ 7) → (0 ≤ Int32.toInt bJ ∧ Int32.toInt bJ ≤ 1) → (0 ≤ Int32.toInt aW ∧ Int32.toInt aW ≤ 63) → (0 ≤ Int32.toInt dU ∧ Int32.toInt dU ≤ 65535) → (∀ k : Nat, 0 ≤ Int32.toInt (tD k) ∧ Int32.toInt (tD k) ≤ 65535) → (16 - Int32.toInt x4 < n36) → K36 x1 x2 x3 x4 bQ dG jY m_length qG uW eY dN aR aE bJ aW dU uM tD) (x1 x2 x4 k0 k1 bQ dG : Int32) (jY : Nat) (m_length qG uW eY dN aR aE bJ aW dU : Int32) (uM tD : Nat → Int32) (h_x1 : 0 ≤ Int32.toInt x1 ∧ Int32.toInt x1 ≤ 7) (h_x2 : 0 ≤ Int32.toInt x2 ∧ Int32.toInt x2 ≤ 65535) (h_x4 : 0 ≤ Int32.toInt x4 ∧ Int32.toInt x4 ≤ 15) (h_k1 : 0 ≤ Int32.toInt k1 ∧ Int32.toInt k1 ≤ 99) (h_m_rowMany : 0 ≤ Int32.toInt bQ ∧ Int32.toInt bQ ≤ 16) (h_m_thrown : 0 ≤ Int32.toInt dG ∧ Int32.toInt dG ≤ 0) (h_m_read : jY = 0 ∨ jY = 1 ∨ jY = 2) (h_m_length : 0 ≤ Int32.toInt m_length ∧ Int32.toInt m_length ≤ 80) (h_m_top : 0 ≤ Int32.toInt qG ∧ Int32.toInt qG ≤ 80) (h_m_at : 0 ≤ Int32.toInt uW ∧ Int32.toInt uW ≤ 80) (h_m_wrong : -1 ≤ Int32.toInt eY ∧ Int32.toInt eY ≤ 80) (h_m_isAsked : 0 ≤ Int32.toInt dN ∧ Int32.toInt dN ≤ 0) (h_m_askedFruit : 0 ≤ Int32.toInt aR ∧ Int32.toInt aR ≤ 15) (h_m_askedStanding : 0 ≤ Int32.toInt aE ∧ Int32.toInt aE ≤ 7) (h_m_askedHook : 0 ≤ Int32.toInt bJ ∧ Int32.toInt bJ ≤ 1) (h_m_askedApron : 0 ≤ Int32.toInt aW ∧ Int32.toInt aW ≤ 63) (h_m_wanted : 0 ≤ Int32.toInt dU ∧ Int32.toInt dU ≤ 65535) (h_m_hand : ∀ k : Nat, 0 ≤ Int32.toInt (tD k) ∧ Int32.toInt (tD k) ≤ 65535) (hn36 : 16 - Int32.toInt x4 ≤ n36) : ws_X10_pays_68 post K36 bW aG bU rD m_x jA pY rW oY pR pX rG rQ x1 x2 x4 k0 k1 bQ dG jY m_length qG uW eY dN aR aE bJ aW dU uM tD := by
  have l0 := li_1
  intro v1 ev1
  have hv1 := congrArg Int32.toInt ev1
  intro v3 ev3
  have f4 : Int32.toInt (x4 + 1) = Int32.toInt x4 + Int32.toInt (1 : Int32) := ta_add _ _ (by omega)
  rw [← ev3] at f4
  have f5 := tp_r v1
  exact hK36 x1 x2 v1 v3 bQ dG jY m_length qG uW eY dN aR aE bJ aW dU uM tD h_x1 h_x2 (by omega) h_m_rowMany h_m_thrown h_m_read h_m_length h_m_top h_m_at h_m_wrong h_m_isAsked h_m_askedFruit h_m_askedStanding h_m_askedHook h_m_askedApron h_m_wanted h_m_hand (by omega)
set_option maxHeartbeats 8000000 in
set_option maxRecDepth 200000 in
theorem ts_X10_pays_109 {post : Int32 → Int32 → Int32 → Nat → Int32 → Int32 → Int32 → Int32 → Int32 → Int32 → Int32 → Int32 → Int32 → Int32 → (Nat → Int32) → (Nat → Int32) → Prop} {SB : Int} (bW aG bU : Int32) (rD m_x jA pY rW oY pR pX rG rQ : Nat → Int32) (h_m_fruits : 0 ≤ Int32.toInt bW ∧ Int32.toInt bW ≤ 16) (h_m_standings : 0 ≤ Int32.toInt aG ∧ Int32.toInt aG ≤ 8) (h_m_ruleSize : 0 ≤ Int32.toInt bU ∧ Int32.toInt bU ≤ 40) (e0_m_now : ∀ k : Nat, k = 17 → -1 ≤ Int32.toInt (rD k) ∧ Int32.toInt (rD k) ≤ SB) (e1_m_now : ∀ k : Nat, k = 19 → 0 ≤ Int32.toInt (rD k) ∧ Int32.toInt (rD k) ≤ 9) (h_m_x : ∀ k : Nat, 0 ≤ Int32.toInt (m_x k) ∧ Int32.toInt (m_x k) ≤ 99) (h_m_height : ∀ k : Nat, 0 ≤ Int32.toInt (jA k) ∧ Int32.toInt (jA k) ≤ 99) (h_m_worth : ∀ k : Nat, 0 ≤ Int32.toInt (pY k) ∧ Int32.toInt (pY k) ≤ 9) (h_m_ripe : ∀ k : Nat, 0 ≤ Int32.toInt (rW k) ∧ Int32.toInt (rW k) ≤ 9) (h_m_foot : ∀ k : Nat, 0 ≤ Int32.toInt (oY k) ∧ Int32.toInt (oY k) ≤ 99) (h_m_fork : ∀ k : Nat, 0 ≤ Int32.toInt (pR k) ∧ Int32.toInt (pR k) ≤ 99) (e0_m_told : ∀ k : Nat, k = 4 → 1 ≤ Int32.toInt (pX k) ∧ Int32.toInt (pX k) ≤ 30) (e1_m_told : ∀ k : Nat, k = 3 → 0 ≤ Int32.toInt (pX k) ∧ Int32.toInt (pX k) ≤ 9) (h_m_text : ∀ k : Nat, -128 ≤ Int32.toInt (rG k) ∧ Int32.toInt (rG k) ≤ 127) (h_m_rule : ∀ k : Nat, -128 ≤ Int32.toInt (rQ k) ∧ Int32.toInt (rQ k) ≤ 127) (hc0 : -1 ≤ SB ∧ SB ≤ 7) (hc1 : (Int32.toInt aG ≤ 0 ∧ SB = 0) ∨ (1 ≤ Int32.toInt aG ∧ SB = Int32.toInt aG - 1)) (hpost : ∀ (r : Int32) (m_rowMany' : Int32) (m_thrown' : Int32) (m_read' : Nat) (m_length' : Int32) (m_top' : Int32) (m_at' : Int32) (m_wrong' : Int32) (m_isAsked' : Int32) (m_askedFruit' : Int32) (m_askedStanding' : Int32) (m_askedHook' : Int32) (m_askedApron' : Int32) (m_wanted' : Int32) (m_row' : Nat → Int32) (m_hand' : Nat → Int32), (0 ≤ Int32.toInt m_rowMany' ∧ Int32.toInt m_rowMany' ≤ 16) → (0 ≤ Int32.toInt m_thrown' ∧ Int32.toInt m_thrown' ≤ 0) → (m_read' = 0 ∨ m_read' = 1 ∨ m_read' = 2) → (0 ≤ Int32.toInt m_length' ∧ Int32.toInt m_length' ≤ 80) → (0 ≤ Int32.toInt m_top' ∧ Int32.toInt m_top' ≤ 80) → (0 ≤ Int32.toInt m_at' ∧ Int32.toInt m_at' ≤ 80) → (-1 ≤ Int32.toInt m_wrong' ∧ Int32.toInt m_wrong' ≤ 80) → (0 ≤ Int32.toInt m_isAsked' ∧ Int32.toInt m_isAsked' ≤ 0) → (0 ≤ Int32.toInt m_askedFruit' ∧ Int32.toInt m_askedFruit' ≤ 15) → (0 ≤ Int32.toInt m_askedStanding' ∧ Int32.toInt m_askedStanding' ≤ 7) → (0 ≤ Int32.toInt m_askedHook' ∧ Int32.toInt m_askedHook' ≤ 1) → (0 ≤ Int32.toInt m_askedApron' ∧ Int32.toInt m_askedApron' ≤ 63) → (0 ≤ Int32.toInt m_wanted' ∧ Int32.toInt m_wanted' ≤ 65535) → (∀ k : Nat, 0 ≤ Int32.toInt (m_hand' k) ∧ Int32.toInt (m_hand' k) ≤ 65535) → post r m_rowMany' m_thrown' m_read' m_length' m_top' m_at' m_wrong' m_isAsked' m_askedFruit' m_askedStanding' m_askedHook' m_askedApron' m_wanted' m_row' m_hand') (x1 x2 x3 k1 bQ dG : Int32) (jY : Nat) (m_length qG uW eY dN aR aE bJ aW dU : Int32) (uM tD : Nat → Int32) (h_x1 : 0 ≤ Int32.toInt x1 ∧ Int32.toInt x1 ≤ 7) (h_x2 : 0 ≤ Int32.toInt x2 ∧ Int32.toInt x2 ≤ 65535) (h_k1 : 0 ≤ Int32.toInt k1 ∧ Int32.toInt k1 ≤ 900) (h_m_rowMany : 0 ≤ Int32.toInt bQ ∧ Int32.toInt bQ ≤ 0) (h_m_thrown : 0 ≤ Int32.toInt dG ∧ Int32.toInt dG ≤ 0) (h_m_read : jY = 0 ∨ jY = 1 ∨ jY = 2) (h_m_length : 0 ≤ Int32.toInt m_length ∧ Int32.toInt m_length ≤ 80) (h_m_top : 0 ≤ Int32.toInt qG ∧ Int32.toInt qG ≤ 80) (h_m_at : 0 ≤ Int32.toInt uW ∧ Int32.toInt uW ≤ 80) (h_m_wrong : -1 ≤ Int32.toInt eY ∧ Int32.toInt eY ≤ 80) (h_m_isAsked : 0 ≤ Int32.toInt dN ∧ Int32.toInt dN ≤ 0) (h_m_askedFruit : 0 ≤ Int32.toInt aR ∧ Int32.toInt aR ≤ 15) (h_m_askedStanding : 0 ≤ Int32.toInt aE ∧ Int32.toInt aE ≤ 7) (h_m_askedHook : 0 ≤ Int32.toInt bJ ∧ Int32.toInt bJ ≤ 1) (h_m_askedApron : 0 ≤ Int32.toInt aW ∧ Int32.toInt aW ≤ 63) (h_m_wanted : 0 ≤ Int32.toInt dU ∧ Int32.toInt dU ≤ 65535) (h_m_hand : ∀ k : Nat, 0 ≤ Int32.toInt (tD k) ∧ Int32.toInt (tD k) ≤ 65535) : ws_X10_pays_109 post bW aG bU rD m_x jA pY rW oY pR pX rG rQ x1 x2 x3 k1 bQ dG jY m_length qG uW eY dN aR aE bJ aW dU uM tD := by
  have l0 := li_0
  have l1 := li_1
  have l2 := li_1431655765
  have l3 := li_16
  have l4 := li_252645135
  have l5 := li_4
  have l6 := li_63
  have l7 := li_858993459
  have l8 := li_9
  refine And.intro (t_in (by omega)) ?_
  intro v6 ev6
  have f7 : Int32.toInt (bQ + 1) = Int32.toInt bQ + Int32.toInt (1 : Int32) := ta_add _ _ (by omega)
  rw [← ev6] at f7
  refine And.intro (t_in (by omega)) ?_
  intro v8 ev8
  have f9 : Int32.toInt (v6 + 1) = Int32.toInt v6 + Int32.toInt (1 : Int32) := ta_add _ _ (by omega)
  rw [← ev8] at f9
  intro v10 ev10
  intro v11 ev11
  have f13 := ti_andr v10 1431655765 (by omega)
  have f12 : Int32.toInt (x2 - (v10 &&& 1431655765)) = Int32.toInt x2 - Int32.toInt (v10 &&& 1431655765) := ta_sub _ _ (by omega)
  rw [← ev11] at f12
  intro v14 ev14
  have f15 := ti_andr v11 858993459 (by omega)
  have hv14 := congrArg Int32.toInt ev14
  intro v16 ev16
  intro v17 ev17
  have f19 := ti_andr v16 858993459 (by omega)
  have f18 : Int32.toInt (v14 + (v16 &&& 858993459)) = Int32.toInt v14 + Int32.toInt (v16 &&& 858993459) := ta_add _ _ (by omega)
  rw [← ev17] at f18
  intro v20 ev20
  have hv20 := congrArg Int32.toInt ev20
  intro v22 ev22
  have f23 := ti_andr v20 252645135 (by omega)
  have hv22 := congrArg Int32.toInt ev22
  intro v24 ev24
  have hv24 := congrArg Int32.toInt ev24
  intro v26 ev26
  have hv26 := congrArg Int32.toInt ev26
  have q28 := e0_m_told (4 : Int32).toNatClampNeg (by have e9 : (4 : Int32).toNatClampNeg = (Int32.toInt (4 : Int32)).toNat := rfl; omega)
  intro v29 ev29
  have f31 := ti_andr v26 63 (by omega)
  have f30 : Int32.toInt ((v26 &&& 63) + (pX (4 : Int32).toNatClampNeg)) = Int32.toInt (v26 &&& 63) + Int32.toInt (pX (4 : Int32).toNatClampNeg) := ta_add _ _ (by omega)
  rw [← ev29] at f30
  intro v33 ev33
  have f34 : Int32.toInt (v29 - 1) = Int32.toInt v29 - Int32.toInt (1 : Int32) := ta_sub _ _ (by omega)
  rw [← ev33] at f34
  have q35 := e0_m_told (4 : Int32).toNatClampNeg (by have e9 : (4 : Int32).toNatClampNeg = (Int32.toInt (4 : Int32)).toNat := rfl; omega)
  refine And.intro (mt (fa_eq _ _).mp (by omega)) ?_
  intro v36 ev36
  refine And.intro (t_in (by omega)) ?_
  intro v37 ev37
  have f38 := h_m_fork x1.toNatClampNeg
  have hv37 := congrArg Int32.toInt ev37
  intro v39 ev39
  have f40 : Int32.toInt (v37 + 9) = Int32.toInt v37 + Int32.toInt (9 : Int32) := ta_add _ _ (by omega)
  rw [← ev39] at f40
  intro v41 ev41
  have hv41 := congrArg Int32.toInt ev41
  refine And.intro (t_in (by omega)) ?_
  intro v43 ev43
  have f44 : Int32.toInt (v8 + 1) = Int32.toInt v8 + Int32.toInt (1 : Int32) := ta_add _ _ (by omega)
  rw [← ev43] at f44
  intro v45 ev45
  have hv45 := congrArg Int32.toInt ev45
  refine t_X10_worthOfAll h_x2 h_m_fruits h_m_worth (fun r47 => ?_)
  exact hpost _ _ _ _ _ _ _ _ _ _ _ _ _ _ _ _ (by omega) h_m_thrown h_m_read h_m_length h_m_top h_m_at h_m_wrong h_m_isAsked h_m_askedFruit h_m_askedStanding h_m_askedHook h_m_askedApron h_m_wanted h_m_hand
set_option maxHeartbeats 8000000 in
set_option maxRecDepth 200000 in
theorem ts_X10_pays_36 {post : Int32 → Int32 → Int32 → Nat → Int32 → Int32 → Int32 → Int32 → Int32 → Int32 → Int32 → Int32 → Int32 → Int32 → (Nat → Int32) → (Nat → Int32) → Prop} {SB : Int} {next : Int32 → Int32 → Int32 → Int32 → Int32 → Int32 → Nat → Int32 → Int32 → Int32 → Int32 → Int32 → Int32 → Int32 → Int32 → Int32 → Int32 → (Nat → Int32) → (Nat → Int32) → Prop} {n36 : Int} (bW aG bU : Int32) (rD m_x jA pY rW oY pR pX rG rQ : Nat → Int32) (h_m_fruits : 0 ≤ Int32.toInt bW ∧ Int32.toInt bW ≤ 16) (h_m_standings : 0 ≤ Int32.toInt aG ∧ Int32.toInt aG ≤ 8) (h_m_ruleSize : 0 ≤ Int32.toInt bU ∧ Int32.toInt bU ≤ 40) (e0_m_now : ∀ k : Nat, k = 17 → -1 ≤ Int32.toInt (rD k) ∧ Int32.toInt (rD k) ≤ SB) (e1_m_now : ∀ k : Nat, k = 19 → 0 ≤ Int32.toInt (rD k) ∧ Int32.toInt (rD k) ≤ 9) (h_m_x : ∀ k : Nat, 0 ≤ Int32.toInt (m_x k) ∧ Int32.toInt (m_x k) ≤ 99) (h_m_height : ∀ k : Nat, 0 ≤ Int32.toInt (jA k) ∧ Int32.toInt (jA k) ≤ 99) (h_m_worth : ∀ k : Nat, 0 ≤ Int32.toInt (pY k) ∧ Int32.toInt (pY k) ≤ 9) (h_m_ripe : ∀ k : Nat, 0 ≤ Int32.toInt (rW k) ∧ Int32.toInt (rW k) ≤ 9) (h_m_foot : ∀ k : Nat, 0 ≤ Int32.toInt (oY k) ∧ Int32.toInt (oY k) ≤ 99) (h_m_fork : ∀ k : Nat, 0 ≤ Int32.toInt (pR k) ∧ Int32.toInt (pR k) ≤ 99) (e0_m_told : ∀ k : Nat, k = 4 → 1 ≤ Int32.toInt (pX k) ∧ Int32.toInt (pX k) ≤ 30) (e1_m_told : ∀ k : Nat, k = 3 → 0 ≤ Int32.toInt (pX k) ∧ Int32.toInt (pX k) ≤ 9) (h_m_text : ∀ k : Nat, -128 ≤ Int32.toInt (rG k) ∧ Int32.toInt (rG k) ≤ 127) (h_m_rule : ∀ k : Nat, -128 ≤ Int32.toInt (rQ k) ∧ Int32.toInt (rQ k) ≤ 127) (hc0 : -1 ≤ SB ∧ SB ≤ 7) (hc1 : (Int32.toInt aG ≤ 0 ∧ SB = 0) ∨ (1 ≤ Int32.toInt aG ∧ SB = Int32.toInt aG - 1)) (hpost : ∀ (r : Int32) (m_rowMany' : Int32) (m_thrown' : Int32) (m_read' : Nat) (m_length' : Int32) (m_top' : Int32) (m_at' : Int32) (m_wrong' : Int32) (m_isAsked' : Int32) (m_askedFruit' : Int32) (m_askedStanding' : Int32) (m_askedHook' : Int32) (m_askedApron' : Int32) (m_wanted' : Int32) (m_row' : Nat → Int32) (m_hand' : Nat → Int32), (0 ≤ Int32.toInt m_rowMany' ∧ Int32.toInt m_rowMany' ≤ 16) → (0 ≤ Int32.toInt m_thrown' ∧ Int32.toInt m_thrown' ≤ 0) → (m_read' = 0 ∨ m_read' = 1 ∨ m_read' = 2) → (0 ≤ Int32.toInt m_length' ∧ Int32.toInt m_length' ≤ 80) → (0 ≤ Int32.toInt m_top' ∧ Int32.toInt m_top' ≤ 80) → (0 ≤ Int32.toInt m_at' ∧ Int32.toInt m_at' ≤ 80) → (-1 ≤ Int32.toInt m_wrong' ∧ Int32.toInt m_wrong' ≤ 80) → (0 ≤ Int32.toInt m_isAsked' ∧ Int32.toInt m_isAsked' ≤ 0) → (0 ≤ Int32.toInt m_askedFruit' ∧ Int32.toInt m_askedFruit' ≤ 15) → (0 ≤ Int32.toInt m_askedStanding' ∧ Int32.toInt m_askedStanding' ≤ 7) → (0 ≤ Int32.toInt m_askedHook' ∧ Int32.toInt m_askedHook' ≤ 1) → (0 ≤ Int32.toInt m_askedApron' ∧ Int32.toInt m_askedApron' ≤ 63) → (0 ≤ Int32.toInt m_wanted' ∧ Int32.toInt m_wanted' ≤ 65535) → (∀ k : Nat, 0 ≤ Int32.toInt (m_hand' k) ∧ Int32.toInt (m_hand' k) ≤ 65535) → post r m_rowMany' m_thrown' m_read' m_length' m_top' m_at' m_wrong' m_isAsked' m_askedFruit' m_askedStanding' m_askedHook' m_askedApron' m_wanted' m_row' m_hand') (hKn : ∀ (x1 : Int32) (x2 : Int32) (x3 : Int32) (x4 : Int32) (bQ : Int32) (dG : Int32) (jY : Nat) (m_length : Int32) (qG : Int32) (uW : Int32) (eY : Int32) (dN : Int32) (aR : Int32) (aE : Int32) (bJ : Int32) (aW : Int32) (dU : Int32) (uM : Nat → Int32) (tD : Nat → Int32), (0 ≤ Int32.toInt x1 ∧ Int32.toInt x1 ≤ 7) → (0 ≤ Int32.toInt x2 ∧ Int32.toInt x2 ≤ 65535) → (0 ≤ Int32.toInt x4 ∧ Int32.toInt x4 ≤ 16) → (0 ≤ Int32.toInt bQ ∧ Int32.toInt bQ ≤ 16) → (0 ≤ Int32.toInt dG ∧ Int32.toInt dG ≤ 0) → (jY = 0 ∨ jY = 1 ∨ jY = 2) → (0 ≤ Int32.toInt m_length ∧ Int32.toInt m_length ≤ 80) → (0 ≤ Int32.toInt qG ∧ Int32.toInt qG ≤ 80) → (0 ≤ Int32.toInt uW ∧ Int32.toInt uW ≤ 80) → (-1 ≤ Int32.toInt eY ∧ Int32.toInt eY ≤ 80) → (0 ≤ Int32.toInt dN ∧ Int32.toInt dN ≤ 0) → (0 ≤ Int32.toInt aR ∧ Int32.toInt aR ≤ 15) → (0 ≤ Int32.toInt aE ∧ Int32.toInt aE ≤ 7) → (0 ≤ Int32.toInt bJ ∧ Int32.toInt bJ ≤ 1) → (0 ≤ Int32.toInt aW ∧ Int32.toInt aW ≤ 63) → (0 ≤ Int32.toInt dU ∧ Int32.toInt dU ≤ 65535) → (∀ k : Nat, 0 ≤ Int32.toInt (tD k) ∧ Int32.toInt (tD k) ≤ 65535) → (16 - Int32.toInt x4 < n36) → next x1 x2 x3 x4 bQ dG jY m_length qG uW eY dN aR aE bJ aW dU uM tD) (x1 x2 x3 x4 bQ dG : Int32) (jY : Nat) (m_length qG uW eY dN aR aE bJ aW dU : Int32) (uM tD : Nat → Int32) (h_x1 : 0 ≤ Int32.toInt x1 ∧ Int32.toInt x1 ≤ 7) (h_x2 : 0 ≤ Int32.toInt x2 ∧ Int32.toInt x2 ≤ 65535) (h_x4 : 0 ≤ Int32.toInt x4 ∧ Int32.toInt x4 ≤ 16) (h_m_rowMany : 0 ≤ Int32.toInt bQ ∧ Int32.toInt bQ ≤ 16) (h_m_thrown : 0 ≤ Int32.toInt dG ∧ Int32.toInt dG ≤ 0) (h_m_read : jY = 0 ∨ jY = 1 ∨ jY = 2) (h_m_length : 0 ≤ Int32.toInt m_length ∧ Int32.toInt m_length ≤ 80) (h_m_top : 0 ≤ Int32.toInt qG ∧ Int32.toInt qG ≤ 80) (h_m_at : 0 ≤ Int32.toInt uW ∧ Int32.toInt uW ≤ 80) (h_m_wrong : -1 ≤ Int32.toInt eY ∧ Int32.toInt eY ≤ 80) (h_m_isAsked : 0 ≤ Int32.toInt dN ∧ Int32.toInt dN ≤ 0) (h_m_askedFruit : 0 ≤ Int32.toInt aR ∧ Int32.toInt aR ≤ 15) (h_m_askedStanding : 0 ≤ Int32.toInt aE ∧ Int32.toInt aE ≤ 7) (h_m_askedHook : 0 ≤ Int32.toInt bJ ∧ Int32.toInt bJ ≤ 1) (h_m_askedApron : 0 ≤ Int32.toInt aW ∧ Int32.toInt aW ≤ 63) (h_m_wanted : 0 ≤ Int32.toInt dU ∧ Int32.toInt dU ≤ 65535) (h_m_hand : ∀ k : Nat, 0 ≤ Int32.toInt (tD k) ∧ Int32.toInt (tD k) ≤ 65535) (hn36 : 16 - Int32.toInt x4 ≤ n36) : ws_X10_pays_36 post next bW aG bU rD m_x jA pY rW oY pR pX rG rQ x1 x2 x3 x4 bQ dG jY m_length qG uW eY dN aR aE bJ aW dU uM tD := by
  have l0 := li_0
  have l1 := li_1
  have l2 := li_17
  refine And.intro (fun c48 => ?_) (fun c48 => ?_)
  · skip
    have c48 := (fa_le _ _).mp c48
    have q49 := e0_m_now (17 : Int32).toNatClampNeg (by have e9 : (17 : Int32).toNatClampNeg = (Int32.toInt (17 : Int32)).toNat := rfl; omega)
    intro v50 ev50
    have hv50 := congrArg Int32.toInt ev50
    refine And.intro (fun c52 => ?_) (fun c52 => ?_)
    · skip
      have c52 := mt (fa_eq _ _).mpr c52
      have q53 := e0_m_now (17 : Int32).toNatClampNeg (by have e9 : (17 : Int32).toNatClampNeg = (Int32.toInt (17 : Int32)).toNat := rfl; omega)
      intro v54 ev54
      have hv54 := congrArg Int32.toInt ev54
      refine t_X10_moveOf (by omega) h_x1 h_m_foot e0_m_told e1_m_told (by omega) (by omega) (fun r55 h_r55 ox56 => ?_)
      have f57 := tp_r x3
      exact ts_X10_pays_109 bW aG bU rD m_x jA pY rW oY pR pX rG rQ h_m_fruits h_m_standings h_m_ruleSize e0_m_now e1_m_now h_m_x h_m_height h_m_worth h_m_ripe h_m_foot h_m_fork e0_m_told e1_m_told h_m_text h_m_rule hc0 hc1 hpost x1 x2 x3 r55 0 dG jY m_length qG uW eY dN aR aE bJ aW dU uM tD h_x1 h_x2 (by omega) (by omega) h_m_thrown h_m_read h_m_length h_m_top h_m_at h_m_wrong h_m_isAsked h_m_askedFruit h_m_askedStanding h_m_askedHook h_m_askedApron h_m_wanted h_m_hand
    · skip
      have c52 := (fa_eq _ _).mp c52
      have f58 := tp_r x3
      exact ts_X10_pays_109 bW aG bU rD m_x jA pY rW oY pR pX rG rQ h_m_fruits h_m_standings h_m_ruleSize e0_m_now e1_m_now h_m_x h_m_height h_m_worth h_m_ripe h_m_foot h_m_fork e0_m_told e1_m_told h_m_text h_m_rule hc0 hc1 hpost x1 x2 x3 0 0 dG jY m_length qG uW eY dN aR aE bJ aW dU uM tD h_x1 h_x2 (by omega) (by omega) h_m_thrown h_m_read h_m_length h_m_top h_m_at h_m_wrong h_m_isAsked h_m_askedFruit h_m_askedStanding h_m_askedHook h_m_askedApron h_m_wanted h_m_hand
  · skip
    have c48 := mt (fa_le _ _).mpr c48
    intro v59 ev59
    have f60 := ti_shr x2 x4 (by omega)
    have hv59 := congrArg Int32.toInt ev59
    intro v61 ev61
    have f62 := ti_andr v59 1 (by omega)
    have f63 := ti_andl v59 1 (by omega)
    have hv61 := congrArg Int32.toInt ev61
    refine And.intro (fun c64 => ?_) (fun c64 => ?_)
    · skip
      have c64 := mt (fa_eq _ _).mpr c64
      refine And.intro (fun _ => ?_) (fun h9 => absurd h9 (by decide))
      have f65 := tp_r x3
      exact ts_X10_pays_68 bW aG bU rD m_x jA pY rW oY pR pX rG rQ h_m_fruits h_m_standings h_m_ruleSize e0_m_now e1_m_now h_m_x h_m_height h_m_worth h_m_ripe h_m_foot h_m_fork e0_m_told e1_m_told h_m_text h_m_rule hc0 hc1 hpost hKn x1 x2 x4 x3 0 bQ dG jY m_length qG uW eY dN aR aE bJ aW dU uM tD h_x1 h_x2 (by omega) (by omega) h_m_rowMany h_m_thrown h_m_read h_m_length h_m_top h_m_at h_m_wrong h_m_isAsked h_m_askedFruit h_m_askedStanding h_m_askedHook h_m_askedApron h_m_wanted h_m_hand hn36
    · skip
      have c64 := (fa_eq _ _).mp c64
      refine And.intro (fun h9 => absurd h9 (by decide)) (fun _ => ?_)
      refine t_X10_secondsOf (by omega) h_x1 (by omega) (by omega) h_m_read h_m_length h_m_top h_m_at h_m_wrong h_m_ruleSize h_m_isAsked h_m_askedFruit h_m_askedStanding h_m_askedHook h_m_askedApron h_m_x h_m_height h_m_worth h_m_foot h_m_fork h_m_text h_m_rule (fun r76 m_read_66 m_length_67 m_top_68 m_at_69 m_wrong_70 m_isAsked_71 m_askedFruit_72 m_askedStanding_73 m_askedHook_74 m_askedApron_75 h_r76 h_m_read_66 h_m_length_67 h_m_top_68 h_m_at_69 h_m_wrong_70 h_m_isAsked_71 h_m_askedFruit_72 h_m_askedStanding_73 h_m_askedHook_74 h_m_askedApron_75 => ?_)
      have f77 := tp_r x3
      exact ts_X10_pays_68 bW aG bU rD m_x jA pY rW oY pR pX rG rQ h_m_fruits h_m_standings h_m_ruleSize e0_m_now e1_m_now h_m_x h_m_height h_m_worth h_m_ripe h_m_foot h_m_fork e0_m_told e1_m_told h_m_text h_m_rule hc0 hc1 hpost hKn x1 x2 x4 x3 r76 bQ dG m_read_66 m_length_67 m_top_68 m_at_69 m_wrong_70 m_isAsked_71 m_askedFruit_72 m_askedStanding_73 m_askedHook_74 m_askedApron_75 dU uM tD h_x1 h_x2 (by omega) (by omega) h_m_rowMany h_m_thrown h_m_read_66 h_m_length_67 h_m_top_68 h_m_at_69 h_m_wrong_70 h_m_isAsked_71 h_m_askedFruit_72 h_m_askedStanding_73 h_m_askedHook_74 h_m_askedApron_75 h_m_wanted h_m_hand hn36
set_option maxHeartbeats 8000000 in
set_option maxRecDepth 200000 in
theorem tb_X10_pays_36 {post : Int32 → Int32 → Int32 → Nat → Int32 → Int32 → Int32 → Int32 → Int32 → Int32 → Int32 → Int32 → Int32 → Int32 → (Nat → Int32) → (Nat → Int32) → Prop} {SB : Int} (bW aG bU : Int32) (rD m_x jA pY rW oY pR pX rG rQ : Nat → Int32) (h_m_fruits : 0 ≤ Int32.toInt bW ∧ Int32.toInt bW ≤ 16) (h_m_standings : 0 ≤ Int32.toInt aG ∧ Int32.toInt aG ≤ 8) (h_m_ruleSize : 0 ≤ Int32.toInt bU ∧ Int32.toInt bU ≤ 40) (e0_m_now : ∀ k : Nat, k = 17 → -1 ≤ Int32.toInt (rD k) ∧ Int32.toInt (rD k) ≤ SB) (e1_m_now : ∀ k : Nat, k = 19 → 0 ≤ Int32.toInt (rD k) ∧ Int32.toInt (rD k) ≤ 9) (h_m_x : ∀ k : Nat, 0 ≤ Int32.toInt (m_x k) ∧ Int32.toInt (m_x k) ≤ 99) (h_m_height : ∀ k : Nat, 0 ≤ Int32.toInt (jA k) ∧ Int32.toInt (jA k) ≤ 99) (h_m_worth : ∀ k : Nat, 0 ≤ Int32.toInt (pY k) ∧ Int32.toInt (pY k) ≤ 9) (h_m_ripe : ∀ k : Nat, 0 ≤ Int32.toInt (rW k) ∧ Int32.toInt (rW k) ≤ 9) (h_m_foot : ∀ k : Nat, 0 ≤ Int32.toInt (oY k) ∧ Int32.toInt (oY k) ≤ 99) (h_m_fork : ∀ k : Nat, 0 ≤ Int32.toInt (pR k) ∧ Int32.toInt (pR k) ≤ 99) (e0_m_told : ∀ k : Nat, k = 4 → 1 ≤ Int32.toInt (pX k) ∧ Int32.toInt (pX k) ≤ 30) (e1_m_told : ∀ k : Nat, k = 3 → 0 ≤ Int32.toInt (pX k) ∧ Int32.toInt (pX k) ≤ 9) (h_m_text : ∀ k : Nat, -128 ≤ Int32.toInt (rG k) ∧ Int32.toInt (rG k) ≤ 127) (h_m_rule : ∀ k : Nat, -128 ≤ Int32.toInt (rQ k) ∧ Int32.toInt (rQ k) ≤ 127) (hc0 : -1 ≤ SB ∧ SB ≤ 7) (hc1 : (Int32.toInt aG ≤ 0 ∧ SB = 0) ∨ (1 ≤ Int32.toInt aG ∧ SB = Int32.toInt aG - 1)) (hpost : ∀ (r : Int32) (m_rowMany' : Int32) (m_thrown' : Int32) (m_read' : Nat) (m_length' : Int32) (m_top' : Int32) (m_at' : Int32) (m_wrong' : Int32) (m_isAsked' : Int32) (m_askedFruit' : Int32) (m_askedStanding' : Int32) (m_askedHook' : Int32) (m_askedApron' : Int32) (m_wanted' : Int32) (m_row' : Nat → Int32) (m_hand' : Nat → Int32), (0 ≤ Int32.toInt m_rowMany' ∧ Int32.toInt m_rowMany' ≤ 16) → (0 ≤ Int32.toInt m_thrown' ∧ Int32.toInt m_thrown' ≤ 0) → (m_read' = 0 ∨ m_read' = 1 ∨ m_read' = 2) → (0 ≤ Int32.toInt m_length' ∧ Int32.toInt m_length' ≤ 80) → (0 ≤ Int32.toInt m_top' ∧ Int32.toInt m_top' ≤ 80) → (0 ≤ Int32.toInt m_at' ∧ Int32.toInt m_at' ≤ 80) → (-1 ≤ Int32.toInt m_wrong' ∧ Int32.toInt m_wrong' ≤ 80) → (0 ≤ Int32.toInt m_isAsked' ∧ Int32.toInt m_isAsked' ≤ 0) → (0 ≤ Int32.toInt m_askedFruit' ∧ Int32.toInt m_askedFruit' ≤ 15) → (0 ≤ Int32.toInt m_askedStanding' ∧ Int32.toInt m_askedStanding' ≤ 7) → (0 ≤ Int32.toInt m_askedHook' ∧ Int32.toInt m_askedHook' ≤ 1) → (0 ≤ Int32.toInt m_askedApron' ∧ Int32.toInt m_askedApron' ≤ 63) → (0 ≤ Int32.toInt m_wanted' ∧ Int32.toInt m_wanted' ≤ 65535) → (∀ k : Nat, 0 ≤ Int32.toInt (m_hand' k) ∧ Int32.toInt (m_hand' k) ≤ 65535) → post r m_rowMany' m_thrown' m_read' m_length' m_top' m_at' m_wrong' m_isAsked' m_askedFruit' m_askedStanding' m_askedHook' m_askedApron' m_wanted' m_row' m_hand') : ∀ (n : Nat) (x1 x2 x3 x4 bQ dG : Int32) (jY : Nat) (m_length qG uW eY dN aR aE bJ aW dU : Int32) (uM tD : Nat → Int32), (0 ≤ Int32.toInt x1 ∧ Int32.toInt x1 ≤ 7) → (0 ≤ Int32.toInt x2 ∧ Int32.toInt x2 ≤ 65535) → (0 ≤ Int32.toInt x4 ∧ Int32.toInt x4 ≤ 16) → (0 ≤ Int32.toInt bQ ∧ Int32.toInt bQ ≤ 16) → (0 ≤ Int32.toInt dG ∧ Int32.toInt dG ≤ 0) → (jY = 0 ∨ jY = 1 ∨ jY = 2) → (0 ≤ Int32.toInt m_length ∧ Int32.toInt m_length ≤ 80) → (0 ≤ Int32.toInt qG ∧ Int32.toInt qG ≤ 80) → (0 ≤ Int32.toInt uW ∧ Int32.toInt uW ≤ 80) → (-1 ≤ Int32.toInt eY ∧ Int32.toInt eY ≤ 80) → (0 ≤ Int32.toInt dN ∧ Int32.toInt dN ≤ 0) → (0 ≤ Int32.toInt aR ∧ Int32.toInt aR ≤ 15) → (0 ≤ Int32.toInt aE ∧ Int32.toInt aE ≤ 7) → (0 ≤ Int32.toInt bJ ∧ Int32.toInt bJ ≤ 1) → (0 ≤ Int32.toInt aW ∧ Int32.toInt aW ≤ 63) → (0 ≤ Int32.toInt dU ∧ Int32.toInt dU ≤ 65535) → (∀ k : Nat, 0 ≤ Int32.toInt (tD k) ∧ Int32.toInt (tD k) ≤ 65535) → (16 - Int32.toInt x4 < (n : Int)) → wb_X10_pays_36 post bW aG bU rD m_x jA pY rW oY pR pX rG rQ n x1 x2 x3 x4 bQ dG jY m_length qG uW eY dN aR aE bJ aW dU uM tD := by
  intro n
  induction n with
  | zero =>
    intro x1 x2 x3 x4 bQ dG jY m_length qG uW eY dN aR aE bJ aW dU uM tD h_x1 h_x2 h_x4 h_m_rowMany h_m_thrown h_m_read h_m_length h_m_top h_m_at h_m_wrong h_m_isAsked h_m_askedFruit h_m_askedStanding h_m_askedHook h_m_askedApron h_m_wanted h_m_hand hm
    exfalso; omega
  | succ n ih =>
    intro x1 x2 x3 x4 bQ dG jY m_length qG uW eY dN aR aE bJ aW dU uM tD h_x1 h_x2 h_x4 h_m_rowMany h_m_thrown h_m_read h_m_length h_m_top h_m_at h_m_wrong h_m_isAsked h_m_askedFruit h_m_askedStanding h_m_askedHook h_m_askedApron h_m_wanted h_m_hand hm
    exact ts_X10_pays_36 bW aG bU rD m_x jA pY rW oY pR pX rG rQ h_m_fruits h_m_standings h_m_ruleSize e0_m_now e1_m_now h_m_x h_m_height h_m_worth h_m_ripe h_m_foot h_m_fork e0_m_told e1_m_told h_m_text h_m_rule hc0 hc1 hpost ih x1 x2 x3 x4 bQ dG jY m_length qG uW eY dN aR aE bJ aW dU uM tD h_x1 h_x2 h_x4 h_m_rowMany h_m_thrown h_m_read h_m_length h_m_top h_m_at h_m_wrong h_m_isAsked h_m_askedFruit h_m_askedStanding h_m_askedHook h_m_askedApron h_m_wanted h_m_hand (by omega)
set_option maxHeartbeats 8000000 in
set_option maxRecDepth 200000 in
theorem t_X10_pays {post : Int32 → Int32 → Int32 → Nat → Int32 → Int32 → Int32 → Int32 → Int32 → Int32 → Int32 → Int32 → Int32 → Int32 → (Nat → Int32) → (Nat → Int32) → Prop} {SB : Int} {p0 bW aG bQ dG : Int32} {jY : Nat} {m_length qG uW eY bU dN aR aE bJ aW dU : Int32} {rD m_x jA pY rW oY pR pX rG uM rQ tD : Nat → Int32} (h_m_fruits : 0 ≤ Int32.toInt bW ∧ Int32.toInt bW ≤ 16) (h_m_standings : 0 ≤ Int32.toInt aG ∧ Int32.toInt aG ≤ 8) (h_m_rowMany : 0 ≤ Int32.toInt bQ ∧ Int32.toInt bQ ≤ 16) (h_m_thrown : 0 ≤ Int32.toInt dG ∧ Int32.toInt dG ≤ 1) (h_m_read : jY = 0 ∨ jY = 1 ∨ jY = 2) (h_m_length : 0 ≤ Int32.toInt m_length ∧ Int32.toInt m_length ≤ 80) (h_m_top : 0 ≤ Int32.toInt qG ∧ Int32.toInt qG ≤ 80) (h_m_at : 0 ≤ Int32.toInt uW ∧ Int32.toInt uW ≤ 80) (h_m_wrong : -1 ≤ Int32.toInt eY ∧ Int32.toInt eY ≤ 80) (h_m_ruleSize : 0 ≤ Int32.toInt bU ∧ Int32.toInt bU ≤ 40) (h_m_isAsked : 0 ≤ Int32.toInt dN ∧ Int32.toInt dN ≤ 0) (h_m_askedFruit : 0 ≤ Int32.toInt aR ∧ Int32.toInt aR ≤ 15) (h_m_askedStanding : 0 ≤ Int32.toInt aE ∧ Int32.toInt aE ≤ 7) (h_m_askedHook : 0 ≤ Int32.toInt bJ ∧ Int32.toInt bJ ≤ 1) (h_m_askedApron : 0 ≤ Int32.toInt aW ∧ Int32.toInt aW ≤ 63) (h_m_wanted : 0 ≤ Int32.toInt dU ∧ Int32.toInt dU ≤ 65535) (e0_m_now : ∀ k : Nat, k = 17 → -1 ≤ Int32.toInt (rD k) ∧ Int32.toInt (rD k) ≤ SB) (e1_m_now : ∀ k : Nat, k = 19 → 0 ≤ Int32.toInt (rD k) ∧ Int32.toInt (rD k) ≤ 9) (h_m_x : ∀ k : Nat, 0 ≤ Int32.toInt (m_x k) ∧ Int32.toInt (m_x k) ≤ 99) (h_m_height : ∀ k : Nat, 0 ≤ Int32.toInt (jA k) ∧ Int32.toInt (jA k) ≤ 99) (h_m_worth : ∀ k : Nat, 0 ≤ Int32.toInt (pY k) ∧ Int32.toInt (pY k) ≤ 9) (h_m_ripe : ∀ k : Nat, 0 ≤ Int32.toInt (rW k) ∧ Int32.toInt (rW k) ≤ 9) (h_m_foot : ∀ k : Nat, 0 ≤ Int32.toInt (oY k) ∧ Int32.toInt (oY k) ≤ 99) (h_m_fork : ∀ k : Nat, 0 ≤ Int32.toInt (pR k) ∧ Int32.toInt (pR k) ≤ 99) (e0_m_told : ∀ k : Nat, k = 4 → 1 ≤ Int32.toInt (pX k) ∧ Int32.toInt (pX k) ≤ 30) (e1_m_told : ∀ k : Nat, k = 3 → 0 ≤ Int32.toInt (pX k) ∧ Int32.toInt (pX k) ≤ 9) (h_m_text : ∀ k : Nat, -128 ≤ Int32.toInt (rG k) ∧ Int32.toInt (rG k) ≤ 127) (h_m_rule : ∀ k : Nat, -128 ≤ Int32.toInt (rQ k) ∧ Int32.toInt (rQ k) ≤ 127) (h_m_hand : ∀ k : Nat, 0 ≤ Int32.toInt (tD k) ∧ Int32.toInt (tD k) ≤ 65535) (hc0 : -1 ≤ SB ∧ SB ≤ 7) (hc1 : (Int32.toInt aG ≤ 0 ∧ SB = 0) ∨ (1 ≤ Int32.toInt aG ∧ SB = Int32.toInt aG - 1)) (hpost : ∀ (r : Int32) (m_rowMany' : Int32) (m_thrown' : Int32) (m_read' : Nat) (m_length' : Int32) (m_top' : Int32) (m_at' : Int32) (m_wrong' : Int32) (m_isAsked' : Int32) (m_askedFruit' : Int32) (m_askedStanding' : Int32) (m_askedHook' : Int32) (m_askedApron' : Int32) (m_wanted' : Int32) (m_row' : Nat → Int32) (m_hand' : Nat → Int32), (0 ≤ Int32.toInt m_rowMany' ∧ Int32.toInt m_rowMany' ≤ 16) → (0 ≤ Int32.toInt m_thrown' ∧ Int32.toInt m_thrown' ≤ 0) → (m_read' = 0 ∨ m_read' = 1 ∨ m_read' = 2) → (0 ≤ Int32.toInt m_length' ∧ Int32.toInt m_length' ≤ 80) → (0 ≤ Int32.toInt m_top' ∧ Int32.toInt m_top' ≤ 80) → (0 ≤ Int32.toInt m_at' ∧ Int32.toInt m_at' ≤ 80) → (-1 ≤ Int32.toInt m_wrong' ∧ Int32.toInt m_wrong' ≤ 80) → (0 ≤ Int32.toInt m_isAsked' ∧ Int32.toInt m_isAsked' ≤ 0) → (0 ≤ Int32.toInt m_askedFruit' ∧ Int32.toInt m_askedFruit' ≤ 15) → (0 ≤ Int32.toInt m_askedStanding' ∧ Int32.toInt m_askedStanding' ≤ 7) → (0 ≤ Int32.toInt m_askedHook' ∧ Int32.toInt m_askedHook' ≤ 1) → (0 ≤ Int32.toInt m_askedApron' ∧ Int32.toInt m_askedApron' ≤ 63) → (0 ≤ Int32.toInt m_wanted' ∧ Int32.toInt m_wanted' ≤ 65535) → (∀ k : Nat, 0 ≤ Int32.toInt (m_hand' k) ∧ Int32.toInt (m_hand' k) ≤ 65535) → post r m_rowMany' m_thrown' m_read' m_length' m_top' m_at' m_wrong' m_isAsked' m_askedFruit' m_askedStanding' m_askedHook' m_askedApron' m_wanted' m_row' m_hand') : wp_X10_pays post p0 bW aG bQ dG jY m_length qG uW eY bU dN aR aE bJ aW dU rD m_x jA pY rW oY pR pX rG uM rQ tD := by
  have l0 := li_0
  have l1 := li_1
  have l2 := li_18
  intro v78 ev78
  have f79 : Int32.toInt (aG - 1) = Int32.toInt aG - Int32.toInt (1 : Int32) := ta_sub _ _ (by omega)
  rw [← ev78] at f79
  have f81 := tp_r p0
  refine And.intro (fun c80 => ?_) (fun c80 => ?_)
  · skip
    have c80 := (fa_lt _ _).mp c80
    refine And.intro (t_bool (by omega)) ?_
    refine And.intro (fun h9 => absurd h9 (by decide)) (fun _ => ?_)
    exact hpost _ _ _ _ _ _ _ _ _ _ _ _ _ _ _ _ h_m_rowMany (by omega) h_m_read h_m_length h_m_top h_m_at h_m_wrong h_m_isAsked h_m_askedFruit h_m_askedStanding h_m_askedHook h_m_askedApron h_m_wanted h_m_hand
  · skip
    have c80 := mt (fa_lt _ _).mpr c80
    refine And.intro (fun c82 => ?_) (fun c82 => ?_)
    · skip
      have c82 := (fa_lt _ _).mp c82
      refine And.intro (t_bool (by omega)) ?_
      refine And.intro (fun h9 => absurd h9 (by decide)) (fun _ => ?_)
      exact hpost _ _ _ _ _ _ _ _ _ _ _ _ _ _ _ _ h_m_rowMany (by omega) h_m_read h_m_length h_m_top h_m_at h_m_wrong h_m_isAsked h_m_askedFruit h_m_askedStanding h_m_askedHook h_m_askedApron h_m_wanted h_m_hand
    · skip
      have c82 := mt (fa_lt _ _).mpr c82
      refine And.intro (t_bool (by omega)) ?_
      refine And.intro (fun _ => ?_) (fun h9 => absurd h9 (by decide))
      intro v83 ev83
      have hv83 := congrArg Int32.toInt ev83
      refine t_X10_layHands_ h_m_fruits h_m_standings h_m_wanted e0_m_now e1_m_now h_m_x h_m_height h_m_ripe h_m_foot h_m_fork e0_m_told e1_m_told h_m_hand (by omega) (by omega) (fun aIB m_hand_86 h_m_wanted_85 h_m_hand_86 => ?_)
      refine And.intro (t_in (by omega)) ?_
      intro v87 ev87
      have f89 := h_m_hand_86 p0.toNatClampNeg
      have f88 := ti_andr aIB (m_hand_86 p0.toNatClampNeg) (by omega)
      have f90 := ti_andl aIB (m_hand_86 p0.toNatClampNeg) (by omega)
      have hv87 := congrArg Int32.toInt ev87
      exact ⟨18, tb_X10_pays_36 bW aG bU rD m_x jA pY rW oY pR pX rG rQ h_m_fruits h_m_standings h_m_ruleSize e0_m_now e1_m_now h_m_x h_m_height h_m_worth h_m_ripe h_m_foot h_m_fork e0_m_told e1_m_told h_m_text h_m_rule hc0 hc1 hpost _ p0 v87 0 0 bQ 0 jY m_length qG uW eY dN aR aE bJ aW aIB uM m_hand_86 (by omega) (by omega) (by omega) h_m_rowMany (by omega) h_m_read h_m_length h_m_top h_m_at h_m_wrong h_m_isAsked h_m_askedFruit h_m_askedStanding h_m_askedHook h_m_askedApron h_m_wanted_85 h_m_hand_86 (by omega)⟩
set_option maxHeartbeats 8000000 in
set_option maxRecDepth 200000 in
theorem ts_X10_trips_85 {post : Int32 → Int32 → Int32 → Int32 → (Nat → Int32) → (Nat → Int32) → Prop} {SB : Int} {K65 : Int32 → Int32 → Int32 → Int32 → Int32 → Int32 → (Nat → Int32) → (Nat → Int32) → Prop} {n65 : Int} (bW aG : Int32) (rD m_x jA rW oY pR pX : Nat → Int32) (h_m_fruits : 0 ≤ Int32.toInt bW ∧ Int32.toInt bW ≤ 16) (h_m_standings : 0 ≤ Int32.toInt aG ∧ Int32.toInt aG ≤ 8) (e0_m_now : ∀ k : Nat, k = 17 → -1 ≤ Int32.toInt (rD k) ∧ Int32.toInt (rD k) ≤ SB) (e1_m_now : ∀ k : Nat, k = 19 → 0 ≤ Int32.toInt (rD k) ∧ Int32.toInt (rD k) ≤ 9) (h_m_x : ∀ k : Nat, 0 ≤ Int32.toInt (m_x k) ∧ Int32.toInt (m_x k) ≤ 99) (h_m_height : ∀ k : Nat, 0 ≤ Int32.toInt (jA k) ∧ Int32.toInt (jA k) ≤ 99) (h_m_ripe : ∀ k : Nat, 0 ≤ Int32.toInt (rW k) ∧ Int32.toInt (rW k) ≤ 9) (h_m_foot : ∀ k : Nat, 0 ≤ Int32.toInt (oY k) ∧ Int32.toInt (oY k) ≤ 99) (h_m_fork : ∀ k : Nat, 0 ≤ Int32.toInt (pR k) ∧ Int32.toInt (pR k) ≤ 99) (e0_m_told : ∀ k : Nat, k = 4 → 1 ≤ Int32.toInt (pX k) ∧ Int32.toInt (pX k) ≤ 30) (e1_m_told : ∀ k : Nat, k = 3 → 0 ≤ Int32.toInt (pX k) ∧ Int32.toInt (pX k) ≤ 9) (hc0 : -1 ≤ SB ∧ SB ≤ 7) (hc1 : (Int32.toInt aG ≤ 0 ∧ SB = 0) ∨ (1 ≤ Int32.toInt aG ∧ SB = Int32.toInt aG - 1)) (hpost : ∀ (r : Int32) (m_rowMany' : Int32) (m_thrown' : Int32) (m_wanted' : Int32) (m_row' : Nat → Int32) (m_hand' : Nat → Int32), (0 ≤ Int32.toInt m_rowMany' ∧ Int32.toInt m_rowMany' ≤ 16) → (0 ≤ Int32.toInt m_thrown' ∧ Int32.toInt m_thrown' ≤ 0) → (0 ≤ Int32.toInt m_wanted' ∧ Int32.toInt m_wanted' ≤ 65535) → (∀ k : Nat, 0 ≤ Int32.toInt (m_hand' k) ∧ Int32.toInt (m_hand' k) ≤ 65535) → post r m_rowMany' m_thrown' m_wanted' m_row' m_hand') (hK65 : ∀ (x2 : Int32) (x3 : Int32) (x4 : Int32) (bQ : Int32) (dG : Int32) (dU : Int32) (uM : Nat → Int32) (tD : Nat → Int32), (0 ≤ Int32.toInt x2 ∧ Int32.toInt x2 ≤ 63) → (0 ≤ Int32.toInt x4 ∧ Int32.toInt x4 ≤ 63) → (0 ≤ Int32.toInt bQ ∧ Int32.toInt bQ ≤ 16) → (0 ≤ Int32.toInt dG ∧ Int32.toInt dG ≤ 0) → (0 ≤ Int32.toInt dU ∧ Int32.toInt dU ≤ 65535) → (∀ k : Nat, 0 ≤ Int32.toInt (tD k) ∧ Int32.toInt (tD k) ≤ 65535) → (Int32.toInt x4 - 0 < n65) → K65 x2 x3 x4 bQ dG dU uM tD) (x2 x3 x4 bQ dG dU : Int32) (uM tD : Nat → Int32) (h_x2 : 0 ≤ Int32.toInt x2 ∧ Int32.toInt x2 ≤ 29) (h_x4 : 1 ≤ Int32.toInt x4 ∧ Int32.toInt x4 ≤ 63) (h_m_rowMany : 0 ≤ Int32.toInt bQ ∧ Int32.toInt bQ ≤ 16) (h_m_thrown : 0 ≤ Int32.toInt dG ∧ Int32.toInt dG ≤ 0) (h_m_wanted : 0 ≤ Int32.toInt dU ∧ Int32.toInt dU ≤ 65535) (h_m_hand : ∀ k : Nat, 0 ≤ Int32.toInt (tD k) ∧ Int32.toInt (tD k) ≤ 65535) (hn65 : Int32.toInt x4 - 0 ≤ n65) : ws_X10_trips_85 post K65 bW aG rD m_x jA rW oY pR pX x2 x3 x4 bQ dG dU uM tD := by
  have l0 := li_m1
  have l1 := li_1
  intro v1 ev1
  have f2 : Int32.toInt (x2 + 1) = Int32.toInt x2 + Int32.toInt (1 : Int32) := ta_add _ _ (by omega)
  rw [← ev1] at f2
  intro v3 ev3
  have f4 : Int32.toInt (x4 + (-1)) = Int32.toInt x4 + Int32.toInt ((-1) : Int32) := ta_add _ _ (by omega)
  rw [← ev3] at f4
  have f5 := tp_r x3
  exact hK65 v1 x3 v3 bQ dG dU uM tD (by omega) (by omega) h_m_rowMany h_m_thrown h_m_wanted h_m_hand (by omega)
set_option maxHeartbeats 8000000 in
set_option maxRecDepth 200000 in
theorem ts_X10_trips_65 {post : Int32 → Int32 → Int32 → Int32 → (Nat → Int32) → (Nat → Int32) → Prop} {SB : Int} {next : Int32 → Int32 → Int32 → Int32 → Int32 → Int32 → (Nat → Int32) → (Nat → Int32) → Prop} {n65 : Int} (bW aG : Int32) (rD m_x jA rW oY pR pX : Nat → Int32) (h_m_fruits : 0 ≤ Int32.toInt bW ∧ Int32.toInt bW ≤ 16) (h_m_standings : 0 ≤ Int32.toInt aG ∧ Int32.toInt aG ≤ 8) (e0_m_now : ∀ k : Nat, k = 17 → -1 ≤ Int32.toInt (rD k) ∧ Int32.toInt (rD k) ≤ SB) (e1_m_now : ∀ k : Nat, k = 19 → 0 ≤ Int32.toInt (rD k) ∧ Int32.toInt (rD k) ≤ 9) (h_m_x : ∀ k : Nat, 0 ≤ Int32.toInt (m_x k) ∧ Int32.toInt (m_x k) ≤ 99) (h_m_height : ∀ k : Nat, 0 ≤ Int32.toInt (jA k) ∧ Int32.toInt (jA k) ≤ 99) (h_m_ripe : ∀ k : Nat, 0 ≤ Int32.toInt (rW k) ∧ Int32.toInt (rW k) ≤ 9) (h_m_foot : ∀ k : Nat, 0 ≤ Int32.toInt (oY k) ∧ Int32.toInt (oY k) ≤ 99) (h_m_fork : ∀ k : Nat, 0 ≤ Int32.toInt (pR k) ∧ Int32.toInt (pR k) ≤ 99) (e0_m_told : ∀ k : Nat, k = 4 → 1 ≤ Int32.toInt (pX k) ∧ Int32.toInt (pX k) ≤ 30) (e1_m_told : ∀ k : Nat, k = 3 → 0 ≤ Int32.toInt (pX k) ∧ Int32.toInt (pX k) ≤ 9) (hc0 : -1 ≤ SB ∧ SB ≤ 7) (hc1 : (Int32.toInt aG ≤ 0 ∧ SB = 0) ∨ (1 ≤ Int32.toInt aG ∧ SB = Int32.toInt aG - 1)) (hpost : ∀ (r : Int32) (m_rowMany' : Int32) (m_thrown' : Int32) (m_wanted' : Int32) (m_row' : Nat → Int32) (m_hand' : Nat → Int32), (0 ≤ Int32.toInt m_rowMany' ∧ Int32.toInt m_rowMany' ≤ 16) → (0 ≤ Int32.toInt m_thrown' ∧ Int32.toInt m_thrown' ≤ 0) → (0 ≤ Int32.toInt m_wanted' ∧ Int32.toInt m_wanted' ≤ 65535) → (∀ k : Nat, 0 ≤ Int32.toInt (m_hand' k) ∧ Int32.toInt (m_hand' k) ≤ 65535) → post r m_rowMany' m_thrown' m_wanted' m_row' m_hand') (hKn : ∀ (x2 : Int32) (x3 : Int32) (x4 : Int32) (bQ : Int32) (dG : Int32) (dU : Int32) (uM : Nat → Int32) (tD : Nat → Int32), (0 ≤ Int32.toInt x2 ∧ Int32.toInt x2 ≤ 63) → (0 ≤ Int32.toInt x4 ∧ Int32.toInt x4 ≤ 63) → (0 ≤ Int32.toInt bQ ∧ Int32.toInt bQ ≤ 16) → (0 ≤ Int32.toInt dG ∧ Int32.toInt dG ≤ 0) → (0 ≤ Int32.toInt dU ∧ Int32.toInt dU ≤ 65535) → (∀ k : Nat, 0 ≤ Int32.toInt (tD k) ∧ Int32.toInt (tD k) ≤ 65535) → (Int32.toInt x4 - 0 < n65) → next x2 x3 x4 bQ dG dU uM tD) (x2 x3 x4 bQ dG dU : Int32) (uM tD : Nat → Int32) (h_x2 : 0 ≤ Int32.toInt x2 ∧ Int32.toInt x2 ≤ 63) (h_x4 : 0 ≤ Int32.toInt x4 ∧ Int32.toInt x4 ≤ 63) (h_m_rowMany : 0 ≤ Int32.toInt bQ ∧ Int32.toInt bQ ≤ 16) (h_m_thrown : 0 ≤ Int32.toInt dG ∧ Int32.toInt dG ≤ 0) (h_m_wanted : 0 ≤ Int32.toInt dU ∧ Int32.toInt dU ≤ 65535) (h_m_hand : ∀ k : Nat, 0 ≤ Int32.toInt (tD k) ∧ Int32.toInt (tD k) ≤ 65535) (hn65 : Int32.toInt x4 - 0 ≤ n65) : ws_X10_trips_65 post next bW aG rD m_x jA rW oY pR pX x2 x3 x4 bQ dG dU uM tD := by
  have l0 := li_0
  have l1 := li_1
  have l2 := li_4
  refine And.intro (fun c6 => ?_) (fun c6 => ?_)
  · skip
    have c6 := (fa_le _ _).mp c6
    refine And.intro (t_in (by omega)) ?_
    intro v7 ev7
    have f8 : Int32.toInt (0 + 1) = Int32.toInt (0 : Int32) + Int32.toInt (1 : Int32) := ta_add _ _ (by omega)
    rw [← ev7] at f8
    exact hpost _ _ _ _ _ _ (by omega) h_m_thrown h_m_wanted h_m_hand
  · skip
    have c6 := mt (fa_le _ _).mpr c6
    have q9 := e0_m_told (4 : Int32).toNatClampNeg (by have e9 : (4 : Int32).toNatClampNeg = (Int32.toInt (4 : Int32)).toNat := rfl; omega)
    refine And.intro (fun c10 => ?_) (fun c10 => ?_)
    · skip
      have c10 := (fa_lt _ _).mp c10
      have f12 := tp_r x3
      exact ts_X10_trips_85 bW aG rD m_x jA rW oY pR pX h_m_fruits h_m_standings e0_m_now e1_m_now h_m_x h_m_height h_m_ripe h_m_foot h_m_fork e0_m_told e1_m_told hc0 hc1 hpost hKn x2 x3 x4 bQ dG dU uM tD (by omega) (by omega) h_m_rowMany h_m_thrown h_m_wanted h_m_hand hn65
    · skip
      have c10 := mt (fa_lt _ _).mpr c10
      intro v13 ev13
      have hv13 := congrArg Int32.toInt ev13
      have f15 := tp_r v13
      exact ts_X10_trips_85 bW aG rD m_x jA rW oY pR pX h_m_fruits h_m_standings e0_m_now e1_m_now h_m_x h_m_height h_m_ripe h_m_foot h_m_fork e0_m_told e1_m_told hc0 hc1 hpost hKn 0 v13 x4 bQ dG dU uM tD (by omega) (by omega) h_m_rowMany h_m_thrown h_m_wanted h_m_hand hn65
set_option maxHeartbeats 8000000 in
set_option maxRecDepth 200000 in
theorem tb_X10_trips_65 {post : Int32 → Int32 → Int32 → Int32 → (Nat → Int32) → (Nat → Int32) → Prop} {SB : Int} (bW aG : Int32) (rD m_x jA rW oY pR pX : Nat → Int32) (h_m_fruits : 0 ≤ Int32.toInt bW ∧ Int32.toInt bW ≤ 16) (h_m_standings : 0 ≤ Int32.toInt aG ∧ Int32.toInt aG ≤ 8) (e0_m_now : ∀ k : Nat, k = 17 → -1 ≤ Int32.toInt (rD k) ∧ Int32.toInt (rD k) ≤ SB) (e1_m_now : ∀ k : Nat, k = 19 → 0 ≤ Int32.toInt (rD k) ∧ Int32.toInt (rD k) ≤ 9) (h_m_x : ∀ k : Nat, 0 ≤ Int32.toInt (m_x k) ∧ Int32.toInt (m_x k) ≤ 99) (h_m_height : ∀ k : Nat, 0 ≤ Int32.toInt (jA k) ∧ Int32.toInt (jA k) ≤ 99) (h_m_ripe : ∀ k : Nat, 0 ≤ Int32.toInt (rW k) ∧ Int32.toInt (rW k) ≤ 9) (h_m_foot : ∀ k : Nat, 0 ≤ Int32.toInt (oY k) ∧ Int32.toInt (oY k) ≤ 99) (h_m_fork : ∀ k : Nat, 0 ≤ Int32.toInt (pR k) ∧ Int32.toInt (pR k) ≤ 99) (e0_m_told : ∀ k : Nat, k = 4 → 1 ≤ Int32.toInt (pX k) ∧ Int32.toInt (pX k) ≤ 30) (e1_m_told : ∀ k : Nat, k = 3 → 0 ≤ Int32.toInt (pX k) ∧ Int32.toInt (pX k) ≤ 9) (hc0 : -1 ≤ SB ∧ SB ≤ 7) (hc1 : (Int32.toInt aG ≤ 0 ∧ SB = 0) ∨ (1 ≤ Int32.toInt aG ∧ SB = Int32.toInt aG - 1)) (hpost : ∀ (r : Int32) (m_rowMany' : Int32) (m_thrown' : Int32) (m_wanted' : Int32) (m_row' : Nat → Int32) (m_hand' : Nat → Int32), (0 ≤ Int32.toInt m_rowMany' ∧ Int32.toInt m_rowMany' ≤ 16) → (0 ≤ Int32.toInt m_thrown' ∧ Int32.toInt m_thrown' ≤ 0) → (0 ≤ Int32.toInt m_wanted' ∧ Int32.toInt m_wanted' ≤ 65535) → (∀ k : Nat, 0 ≤ Int32.toInt (m_hand' k) ∧ Int32.toInt (m_hand' k) ≤ 65535) → post r m_rowMany' m_thrown' m_wanted' m_row' m_hand') : ∀ (n : Nat) (x2 x3 x4 bQ dG dU : Int32) (uM tD : Nat → Int32), (0 ≤ Int32.toInt x2 ∧ Int32.toInt x2 ≤ 63) → (0 ≤ Int32.toInt x4 ∧ Int32.toInt x4 ≤ 63) → (0 ≤ Int32.toInt bQ ∧ Int32.toInt bQ ≤ 16) → (0 ≤ Int32.toInt dG ∧ Int32.toInt dG ≤ 0) → (0 ≤ Int32.toInt dU ∧ Int32.toInt dU ≤ 65535) → (∀ k : Nat, 0 ≤ Int32.toInt (tD k) ∧ Int32.toInt (tD k) ≤ 65535) → (Int32.toInt x4 - 0 < (n : Int)) → wb_X10_trips_65 post bW aG rD m_x jA rW oY pR pX n x2 x3 x4 bQ dG dU uM tD := by
  intro n
  induction n with
  | zero =>
    intro x2 x3 x4 bQ dG dU uM tD h_x2 h_x4 h_m_rowMany h_m_thrown h_m_wanted h_m_hand hm
    exfalso; omega
  | succ n ih =>
    intro x2 x3 x4 bQ dG dU uM tD h_x2 h_x4 h_m_rowMany h_m_thrown h_m_wanted h_m_hand hm
    exact ts_X10_trips_65 bW aG rD m_x jA rW oY pR pX h_m_fruits h_m_standings e0_m_now e1_m_now h_m_x h_m_height h_m_ripe h_m_foot h_m_fork e0_m_told e1_m_told hc0 hc1 hpost ih x2 x3 x4 bQ dG dU uM tD h_x2 h_x4 h_m_rowMany h_m_thrown h_m_wanted h_m_hand (by omega)
set_option maxHeartbeats 8000000 in
set_option maxRecDepth 200000 in
theorem ts_X10_trips_46 {post : Int32 → Int32 → Int32 → Int32 → (Nat → Int32) → (Nat → Int32) → Prop} {SB : Int} (bW aG : Int32) (rD m_x jA rW oY pR pX : Nat → Int32) (h_m_fruits : 0 ≤ Int32.toInt bW ∧ Int32.toInt bW ≤ 16) (h_m_standings : 0 ≤ Int32.toInt aG ∧ Int32.toInt aG ≤ 8) (e0_m_now : ∀ k : Nat, k = 17 → -1 ≤ Int32.toInt (rD k) ∧ Int32.toInt (rD k) ≤ SB) (e1_m_now : ∀ k : Nat, k = 19 → 0 ≤ Int32.toInt (rD k) ∧ Int32.toInt (rD k) ≤ 9) (h_m_x : ∀ k : Nat, 0 ≤ Int32.toInt (m_x k) ∧ Int32.toInt (m_x k) ≤ 99) (h_m_height : ∀ k : Nat, 0 ≤ Int32.toInt (jA k) ∧ Int32.toInt (jA k) ≤ 99) (h_m_ripe : ∀ k : Nat, 0 ≤ Int32.toInt (rW k) ∧ Int32.toInt (rW k) ≤ 9) (h_m_foot : ∀ k : Nat, 0 ≤ Int32.toInt (oY k) ∧ Int32.toInt (oY k) ≤ 99) (h_m_fork : ∀ k : Nat, 0 ≤ Int32.toInt (pR k) ∧ Int32.toInt (pR k) ≤ 99) (e0_m_told : ∀ k : Nat, k = 4 → 1 ≤ Int32.toInt (pX k) ∧ Int32.toInt (pX k) ≤ 30) (e1_m_told : ∀ k : Nat, k = 3 → 0 ≤ Int32.toInt (pX k) ∧ Int32.toInt (pX k) ≤ 9) (hc0 : -1 ≤ SB ∧ SB ≤ 7) (hc1 : (Int32.toInt aG ≤ 0 ∧ SB = 0) ∨ (1 ≤ Int32.toInt aG ∧ SB = Int32.toInt aG - 1)) (hpost : ∀ (r : Int32) (m_rowMany' : Int32) (m_thrown' : Int32) (m_wanted' : Int32) (m_row' : Nat → Int32) (m_hand' : Nat → Int32), (0 ≤ Int32.toInt m_rowMany' ∧ Int32.toInt m_rowMany' ≤ 16) → (0 ≤ Int32.toInt m_thrown' ∧ Int32.toInt m_thrown' ≤ 0) → (0 ≤ Int32.toInt m_wanted' ∧ Int32.toInt m_wanted' ≤ 65535) → (∀ k : Nat, 0 ≤ Int32.toInt (m_hand' k) ∧ Int32.toInt (m_hand' k) ≤ 65535) → post r m_rowMany' m_thrown' m_wanted' m_row' m_hand') (x1 k0 bQ dG dU : Int32) (uM tD : Nat → Int32) (h_x1 : 0 ≤ Int32.toInt x1 ∧ Int32.toInt x1 ≤ 7) (h_k0 : 0 ≤ Int32.toInt k0 ∧ Int32.toInt k0 ≤ 63) (h_m_rowMany : 0 ≤ Int32.toInt bQ ∧ Int32.toInt bQ ≤ 16) (h_m_thrown : 0 ≤ Int32.toInt dG ∧ Int32.toInt dG ≤ 0) (h_m_wanted : 0 ≤ Int32.toInt dU ∧ Int32.toInt dU ≤ 65535) (h_m_hand : ∀ k : Nat, 0 ≤ Int32.toInt (tD k) ∧ Int32.toInt (tD k) ≤ 65535) : ws_X10_trips_46 post bW aG rD m_x jA rW oY pR pX x1 k0 bQ dG dU uM tD := by
  have l0 := li_0
  have l1 := li_1431655765
  have l2 := li_252645135
  have l3 := li_63
  have l4 := li_858993459
  refine And.intro (t_in (by omega)) ?_
  intro v16 ev16
  have f18 := h_m_hand x1.toNatClampNeg
  have f17 := ti_andr dU (tD x1.toNatClampNeg) (by omega)
  have f19 := ti_andl dU (tD x1.toNatClampNeg) (by omega)
  have hv16 := congrArg Int32.toInt ev16
  intro v20 ev20
  intro v21 ev21
  have f23 := ti_andr v20 1431655765 (by omega)
  have f22 : Int32.toInt (v16 - (v20 &&& 1431655765)) = Int32.toInt v16 - Int32.toInt (v20 &&& 1431655765) := ta_sub _ _ (by omega)
  rw [← ev21] at f22
  intro v24 ev24
  have f25 := ti_andr v21 858993459 (by omega)
  have hv24 := congrArg Int32.toInt ev24
  intro v26 ev26
  intro v27 ev27
  have f29 := ti_andr v26 858993459 (by omega)
  have f28 : Int32.toInt (v24 + (v26 &&& 858993459)) = Int32.toInt v24 + Int32.toInt (v26 &&& 858993459) := ta_add _ _ (by omega)
  rw [← ev27] at f28
  intro v30 ev30
  have hv30 := congrArg Int32.toInt ev30
  intro v32 ev32
  have f33 := ti_andr v30 252645135 (by omega)
  have hv32 := congrArg Int32.toInt ev32
  intro v34 ev34
  have hv34 := congrArg Int32.toInt ev34
  intro v36 ev36
  have hv36 := congrArg Int32.toInt ev36
  have f38 := ti_andr v36 63 (by omega)
  exact ⟨65, tb_X10_trips_65 bW aG rD m_x jA rW oY pR pX h_m_fruits h_m_standings e0_m_now e1_m_now h_m_x h_m_height h_m_ripe h_m_foot h_m_fork e0_m_told e1_m_told hc0 hc1 hpost _ k0 0 (v36 &&& 63) bQ dG dU uM tD h_k0 (by omega) h_m_rowMany h_m_thrown h_m_wanted h_m_hand (by omega)⟩
set_option maxHeartbeats 8000000 in
set_option maxRecDepth 200000 in
theorem t_X10_trips {post : Int32 → Int32 → Int32 → Int32 → (Nat → Int32) → (Nat → Int32) → Prop} {SB : Int} {p0 bW aG bQ dG dU : Int32} {rD m_x jA rW oY pR pX uM tD : Nat → Int32} (h_m_fruits : 0 ≤ Int32.toInt bW ∧ Int32.toInt bW ≤ 16) (h_m_standings : 0 ≤ Int32.toInt aG ∧ Int32.toInt aG ≤ 8) (h_m_rowMany : 0 ≤ Int32.toInt bQ ∧ Int32.toInt bQ ≤ 16) (h_m_thrown : 0 ≤ Int32.toInt dG ∧ Int32.toInt dG ≤ 1) (h_m_wanted : 0 ≤ Int32.toInt dU ∧ Int32.toInt dU ≤ 65535) (e0_m_now : ∀ k : Nat, k = 17 → -1 ≤ Int32.toInt (rD k) ∧ Int32.toInt (rD k) ≤ SB) (e1_m_now : ∀ k : Nat, k = 19 → 0 ≤ Int32.toInt (rD k) ∧ Int32.toInt (rD k) ≤ 9) (h_m_x : ∀ k : Nat, 0 ≤ Int32.toInt (m_x k) ∧ Int32.toInt (m_x k) ≤ 99) (h_m_height : ∀ k : Nat, 0 ≤ Int32.toInt (jA k) ∧ Int32.toInt (jA k) ≤ 99) (h_m_ripe : ∀ k : Nat, 0 ≤ Int32.toInt (rW k) ∧ Int32.toInt (rW k) ≤ 9) (h_m_foot : ∀ k : Nat, 0 ≤ Int32.toInt (oY k) ∧ Int32.toInt (oY k) ≤ 99) (h_m_fork : ∀ k : Nat, 0 ≤ Int32.toInt (pR k) ∧ Int32.toInt (pR k) ≤ 99) (e0_m_told : ∀ k : Nat, k = 4 → 1 ≤ Int32.toInt (pX k) ∧ Int32.toInt (pX k) ≤ 30) (e1_m_told : ∀ k : Nat, k = 3 → 0 ≤ Int32.toInt (pX k) ∧ Int32.toInt (pX k) ≤ 9) (h_m_hand : ∀ k : Nat, 0 ≤ Int32.toInt (tD k) ∧ Int32.toInt (tD k) ≤ 65535) (hc0 : -1 ≤ SB ∧ SB ≤ 7) (hc1 : (Int32.toInt aG ≤ 0 ∧ SB = 0) ∨ (1 ≤ Int32.toInt aG ∧ SB = Int32.toInt aG - 1)) (hpost : ∀ (r : Int32) (m_rowMany' : Int32) (m_thrown' : Int32) (m_wanted' : Int32) (m_row' : Nat → Int32) (m_hand' : Nat → Int32), (0 ≤ Int32.toInt m_rowMany' ∧ Int32.toInt m_rowMany' ≤ 16) → (0 ≤ Int32.toInt m_thrown' ∧ Int32.toInt m_thrown' ≤ 0) → (0 ≤ Int32.toInt m_wanted' ∧ Int32.toInt m_wanted' ≤ 65535) → (∀ k : Nat, 0 ≤ Int32.toInt (m_hand' k) ∧ Int32.toInt (m_hand' k) ≤ 65535) → post r m_rowMany' m_thrown' m_wanted' m_row' m_hand') : wp_X10_trips post p0 bW aG bQ dG dU rD m_x jA rW oY pR pX uM tD := by
  have l0 := li_0
  have l1 := li_1
  have l2 := li_1431655765
  have l3 := li_17
  have l4 := li_18
  have l5 := li_252645135
  have l6 := li_63
  have l7 := li_858993459
  intro v39 ev39
  have f40 : Int32.toInt (aG - 1) = Int32.toInt aG - Int32.toInt (1 : Int32) := ta_sub _ _ (by omega)
  rw [← ev39] at f40
  have f42 := tp_r p0
  refine And.intro (fun c41 => ?_) (fun c41 => ?_)
  · skip
    have c41 := (fa_lt _ _).mp c41
    refine And.intro (t_bool (by omega)) ?_
    refine And.intro (fun h9 => absurd h9 (by decide)) (fun _ => ?_)
    exact hpost _ _ _ _ _ _ h_m_rowMany (by omega) h_m_wanted h_m_hand
  · skip
    have c41 := mt (fa_lt _ _).mpr c41
    refine And.intro (fun c43 => ?_) (fun c43 => ?_)
    · skip
      have c43 := (fa_lt _ _).mp c43
      refine And.intro (t_bool (by omega)) ?_
      refine And.intro (fun h9 => absurd h9 (by decide)) (fun _ => ?_)
      exact hpost _ _ _ _ _ _ h_m_rowMany (by omega) h_m_wanted h_m_hand
    · skip
      have c43 := mt (fa_lt _ _).mpr c43
      refine And.intro (t_bool (by omega)) ?_
      refine And.intro (fun _ => ?_) (fun h9 => absurd h9 (by decide))
      intro v44 ev44
      have hv44 := congrArg Int32.toInt ev44
      refine t_X10_layHands_ h_m_fruits h_m_standings h_m_wanted e0_m_now e1_m_now h_m_x h_m_height h_m_ripe h_m_foot h_m_fork e0_m_told e1_m_told h_m_hand (by omega) (by omega) (fun m_wanted_46 m_hand_47 h_m_wanted_46 h_m_hand_47 => ?_)
      have q48 := e0_m_now (17 : Int32).toNatClampNeg (by have e9 : (17 : Int32).toNatClampNeg = (Int32.toInt (17 : Int32)).toNat := rfl; omega)
      intro v49 ev49
      have hv49 := congrArg Int32.toInt ev49
      refine And.intro (fun c51 => ?_) (fun c51 => ?_)
      · skip
        have c51 := mt (fa_eq _ _).mpr c51
        exact ts_X10_trips_46 bW aG rD m_x jA rW oY pR pX h_m_fruits h_m_standings e0_m_now e1_m_now h_m_x h_m_height h_m_ripe h_m_foot h_m_fork e0_m_told e1_m_told hc0 hc1 hpost p0 0 bQ 0 m_wanted_46 uM m_hand_47 (by omega) (by omega) h_m_rowMany (by omega) h_m_wanted_46 h_m_hand_47
      · skip
        have c51 := (fa_eq _ _).mp c51
        refine t_X10_which (by omega) h_m_fruits e0_m_now e1_m_now (by omega) (fun r52 h_r52 ox53 => ?_)
        intro v54 ev54
        intro v55 ev55
        have f57 := ti_andr v54 1431655765 (by omega)
        have f56 : Int32.toInt (r52 - (v54 &&& 1431655765)) = Int32.toInt r52 - Int32.toInt (v54 &&& 1431655765) := ta_sub _ _ (by omega)
        rw [← ev55] at f56
        intro v58 ev58
        have f59 := ti_andr v55 858993459 (by omega)
        have hv58 := congrArg Int32.toInt ev58
        intro v60 ev60
        intro v61 ev61
        have f63 := ti_andr v60 858993459 (by omega)
        have f62 : Int32.toInt (v58 + (v60 &&& 858993459)) = Int32.toInt v58 + Int32.toInt (v60 &&& 858993459) := ta_add _ _ (by omega)
        rw [← ev61] at f62
        intro v64 ev64
        have hv64 := congrArg Int32.toInt ev64
        intro v66 ev66
        have f67 := ti_andr v64 252645135 (by omega)
        have hv66 := congrArg Int32.toInt ev66
        intro v68 ev68
        have hv68 := congrArg Int32.toInt ev68
        intro v70 ev70
        have hv70 := congrArg Int32.toInt ev70
        have f72 := ti_andr v70 63 (by omega)
        exact ts_X10_trips_46 bW aG rD m_x jA rW oY pR pX h_m_fruits h_m_standings e0_m_now e1_m_now h_m_x h_m_height h_m_ripe h_m_foot h_m_fork e0_m_told e1_m_told hc0 hc1 hpost p0 (v70 &&& 63) bQ 0 m_wanted_46 uM m_hand_47 (by omega) (by omega) h_m_rowMany (by omega) h_m_wanted_46 h_m_hand_47
set_option maxHeartbeats 8000000 in
set_option maxRecDepth 200000 in
theorem t_X10_helps {post : Int32 → Int32 → Int32 → Int32 → (Nat → Int32) → (Nat → Int32) → Prop} {SB : Int} {bW aG bQ dG dU : Int32} {rD m_x jA rW oY pR pX uM tD : Nat → Int32} (h_m_fruits : 0 ≤ Int32.toInt bW ∧ Int32.toInt bW ≤ 16) (h_m_standings : 0 ≤ Int32.toInt aG ∧ Int32.toInt aG ≤ 8) (h_m_rowMany : 0 ≤ Int32.toInt bQ ∧ Int32.toInt bQ ≤ 16) (h_m_thrown : 0 ≤ Int32.toInt dG ∧ Int32.toInt dG ≤ 1) (h_m_wanted : 0 ≤ Int32.toInt dU ∧ Int32.toInt dU ≤ 65535) (e0_m_now : ∀ k : Nat, k = 17 → -1 ≤ Int32.toInt (rD k) ∧ Int32.toInt (rD k) ≤ SB) (e1_m_now : ∀ k : Nat, k = 19 → 0 ≤ Int32.toInt (rD k) ∧ Int32.toInt (rD k) ≤ 9) (h_m_x : ∀ k : Nat, 0 ≤ Int32.toInt (m_x k) ∧ Int32.toInt (m_x k) ≤ 99) (h_m_height : ∀ k : Nat, 0 ≤ Int32.toInt (jA k) ∧ Int32.toInt (jA k) ≤ 99) (h_m_ripe : ∀ k : Nat, 0 ≤ Int32.toInt (rW k) ∧ Int32.toInt (rW k) ≤ 9) (h_m_foot : ∀ k : Nat, 0 ≤ Int32.toInt (oY k) ∧ Int32.toInt (oY k) ≤ 99) (h_m_fork : ∀ k : Nat, 0 ≤ Int32.toInt (pR k) ∧ Int32.toInt (pR k) ≤ 99) (e0_m_told : ∀ k : Nat, k = 4 → 1 ≤ Int32.toInt (pX k) ∧ Int32.toInt (pX k) ≤ 30) (e1_m_told : ∀ k : Nat, k = 3 → 0 ≤ Int32.toInt (pX k) ∧ Int32.toInt (pX k) ≤ 9) (h_m_hand : ∀ k : Nat, 0 ≤ Int32.toInt (tD k) ∧ Int32.toInt (tD k) ≤ 65535) (hc0 : -1 ≤ SB ∧ SB ≤ 7) (hc1 : (Int32.toInt aG ≤ 0 ∧ SB = 0) ∨ (1 ≤ Int32.toInt aG ∧ SB = Int32.toInt aG - 1)) (hpost : ∀ (r : Int32) (m_rowMany' : Int32) (m_thrown' : Int32) (m_wanted' : Int32) (m_row' : Nat → Int32) (m_hand' : Nat → Int32), (-63 ≤ Int32.toInt r ∧ Int32.toInt r ≤ 63) → (2 ≤ Int32.toInt m_rowMany' ∧ Int32.toInt m_rowMany' ≤ 2) → (0 ≤ Int32.toInt m_thrown' ∧ Int32.toInt m_thrown' ≤ 0) → (0 ≤ Int32.toInt m_wanted' ∧ Int32.toInt m_wanted' ≤ 65535) → (∀ k : Nat, 0 ≤ Int32.toInt (m_hand' k) ∧ Int32.toInt (m_hand' k) ≤ 65535) → post r m_rowMany' m_thrown' m_wanted' m_row' m_hand') : wp_X10_helps post bW aG bQ dG dU rD m_x jA rW oY pR pX uM tD := by
  have l0 := li_0
  have l1 := li_1
  have l2 := li_1431655765
  have l3 := li_252645135
  have l4 := li_63
  have l5 := li_858993459
  refine t_X10_layHands_ h_m_fruits h_m_standings h_m_wanted e0_m_now e1_m_now h_m_x h_m_height h_m_ripe h_m_foot h_m_fork e0_m_told e1_m_told h_m_hand (by omega) (by omega) (fun xX zP h_m_wanted_1 h_m_hand_2 => ?_)
  refine t_X10_cover h_m_wanted_1 h_m_standings h_m_hand_2 (fun r3 h_r3 => ?_)
  intro v4 ev4
  intro v5 ev5
  have f7 := ti_andr v4 1431655765 (by omega)
  have f6 : Int32.toInt (r3 - (v4 &&& 1431655765)) = Int32.toInt r3 - Int32.toInt (v4 &&& 1431655765) := ta_sub _ _ (by omega)
  rw [← ev5] at f6
  intro v8 ev8
  have f9 := ti_andr v5 858993459 (by omega)
  have hv8 := congrArg Int32.toInt ev8
  intro v10 ev10
  intro v11 ev11
  have f13 := ti_andr v10 858993459 (by omega)
  have f12 : Int32.toInt (v8 + (v10 &&& 858993459)) = Int32.toInt v8 + Int32.toInt (v10 &&& 858993459) := ta_add _ _ (by omega)
  rw [← ev11] at f12
  intro v14 ev14
  have hv14 := congrArg Int32.toInt ev14
  intro v16 ev16
  have f17 := ti_andr v14 252645135 (by omega)
  have hv16 := congrArg Int32.toInt ev16
  intro v18 ev18
  have hv18 := congrArg Int32.toInt ev18
  intro v20 ev20
  have hv20 := congrArg Int32.toInt ev20
  intro v22 ev22
  intro v23 ev23
  have f25 := ti_andr v22 1431655765 (by omega)
  have f24 : Int32.toInt (xX - (v22 &&& 1431655765)) = Int32.toInt xX - Int32.toInt (v22 &&& 1431655765) := ta_sub _ _ (by omega)
  rw [← ev23] at f24
  intro v26 ev26
  have f27 := ti_andr v23 858993459 (by omega)
  have hv26 := congrArg Int32.toInt ev26
  intro v28 ev28
  intro v29 ev29
  have f31 := ti_andr v28 858993459 (by omega)
  have f30 : Int32.toInt (v26 + (v28 &&& 858993459)) = Int32.toInt v26 + Int32.toInt (v28 &&& 858993459) := ta_add _ _ (by omega)
  rw [← ev29] at f30
  intro v32 ev32
  have hv32 := congrArg Int32.toInt ev32
  intro v34 ev34
  have f35 := ti_andr v32 252645135 (by omega)
  have hv34 := congrArg Int32.toInt ev34
  intro v36 ev36
  have hv36 := congrArg Int32.toInt ev36
  intro v38 ev38
  have hv38 := congrArg Int32.toInt ev38
  refine t_X10_layHands_ h_m_fruits h_m_standings h_m_wanted_1 e0_m_now e1_m_now h_m_x h_m_height h_m_ripe h_m_foot h_m_fork e0_m_told e1_m_told h_m_hand_2 (by omega) (by omega) (fun m_wanted_40 m_hand_41 h_m_wanted_40 h_m_hand_41 => ?_)
  refine t_X10_cover h_m_wanted_40 h_m_standings h_m_hand_41 (fun r42 h_r42 => ?_)
  intro v43 ev43
  intro v44 ev44
  have f46 := ti_andr v43 1431655765 (by omega)
  have f45 : Int32.toInt (r42 - (v43 &&& 1431655765)) = Int32.toInt r42 - Int32.toInt (v43 &&& 1431655765) := ta_sub _ _ (by omega)
  rw [← ev44] at f45
  intro v47 ev47
  have f48 := ti_andr v44 858993459 (by omega)
  have hv47 := congrArg Int32.toInt ev47
  intro v49 ev49
  intro v50 ev50
  have f52 := ti_andr v49 858993459 (by omega)
  have f51 : Int32.toInt (v47 + (v49 &&& 858993459)) = Int32.toInt v47 + Int32.toInt (v49 &&& 858993459) := ta_add _ _ (by omega)
  rw [← ev50] at f51
  intro v53 ev53
  have hv53 := congrArg Int32.toInt ev53
  intro v55 ev55
  have f56 := ti_andr v53 252645135 (by omega)
  have hv55 := congrArg Int32.toInt ev55
  intro v57 ev57
  have hv57 := congrArg Int32.toInt ev57
  intro v59 ev59
  have hv59 := congrArg Int32.toInt ev59
  refine And.intro (t_in (by omega)) ?_
  intro v61 ev61
  have f62 : Int32.toInt (0 + 1) = Int32.toInt (0 : Int32) + Int32.toInt (1 : Int32) := ta_add _ _ (by omega)
  rw [← ev61] at f62
  intro v63 ev63
  intro v64 ev64
  have f66 := ti_andr v63 1431655765 (by omega)
  have f65 : Int32.toInt (m_wanted_40 - (v63 &&& 1431655765)) = Int32.toInt m_wanted_40 - Int32.toInt (v63 &&& 1431655765) := ta_sub _ _ (by omega)
  rw [← ev64] at f65
  intro v67 ev67
  have f68 := ti_andr v64 858993459 (by omega)
  have hv67 := congrArg Int32.toInt ev67
  intro v69 ev69
  intro v70 ev70
  have f72 := ti_andr v69 858993459 (by omega)
  have f71 : Int32.toInt (v67 + (v69 &&& 858993459)) = Int32.toInt v67 + Int32.toInt (v69 &&& 858993459) := ta_add _ _ (by omega)
  rw [← ev70] at f71
  intro v73 ev73
  have hv73 := congrArg Int32.toInt ev73
  intro v75 ev75
  have f76 := ti_andr v73 252645135 (by omega)
  have hv75 := congrArg Int32.toInt ev75
  intro v77 ev77
  have hv77 := congrArg Int32.toInt ev77
  intro v79 ev79
  have hv79 := congrArg Int32.toInt ev79
  refine And.intro (t_in (by omega)) ?_
  intro v81 ev81
  have f82 : Int32.toInt (v61 + 1) = Int32.toInt v61 + Int32.toInt (1 : Int32) := ta_add _ _ (by omega)
  rw [← ev81] at f82
  have f84 := ti_andr v20 63 (by omega)
  have f85 := ti_andr v59 63 (by omega)
  have f83 : Int32.toInt ((v20 &&& 63) - (v59 &&& 63)) = Int32.toInt (v20 &&& 63) - Int32.toInt (v59 &&& 63) := ta_sub _ _ (by omega)
  exact hpost _ _ _ _ _ _ (by omega) (by omega) (by omega) h_m_wanted_40 h_m_hand_41
set_option maxHeartbeats 8000000 in
set_option maxRecDepth 200000 in
theorem ts_X10_hooked_107 {post : Int32 → Int32 → Int32 → Int32 → (Nat → Int32) → (Nat → Int32) → Prop} {SB : Int} {K52 : Int32 → Int32 → Int32 → Int32 → Int32 → Int32 → Int32 → Int32 → (Nat → Int32) → (Nat → Int32) → Prop} {n52 : Int} (bW aG : Int32) (rD m_x jA rW oY pR pX : Nat → Int32) (h_m_fruits : 0 ≤ Int32.toInt bW ∧ Int32.toInt bW ≤ 16) (h_m_standings : 0 ≤ Int32.toInt aG ∧ Int32.toInt aG ≤ 8) (e0_m_now : ∀ k : Nat, k = 17 → -1 ≤ Int32.toInt (rD k) ∧ Int32.toInt (rD k) ≤ SB) (e1_m_now : ∀ k : Nat, k = 19 → 0 ≤ Int32.toInt (rD k) ∧ Int32.toInt (rD k) ≤ 9) (h_m_x : ∀ k : Nat, 0 ≤ Int32.toInt (m_x k) ∧ Int32.toInt (m_x k) ≤ 99) (h_m_height : ∀ k : Nat, 0 ≤ Int32.toInt (jA k) ∧ Int32.toInt (jA k) ≤ 99) (h_m_ripe : ∀ k : Nat, 0 ≤ Int32.toInt (rW k) ∧ Int32.toInt (rW k) ≤ 9) (h_m_foot : ∀ k : Nat, 0 ≤ Int32.toInt (oY k) ∧ Int32.toInt (oY k) ≤ 99) (h_m_fork : ∀ k : Nat, 0 ≤ Int32.toInt (pR k) ∧ Int32.toInt (pR k) ≤ 99) (e0_m_told : ∀ k : Nat, k = 4 → 1 ≤ Int32.toInt (pX k) ∧ Int32.toInt (pX k) ≤ 30) (e1_m_told : ∀ k : Nat, k = 3 → 0 ≤ Int32.toInt (pX k) ∧ Int32.toInt (pX k) ≤ 9) (hc0 : -1 ≤ SB ∧ SB ≤ 7) (hc1 : (Int32.toInt aG ≤ 0 ∧ SB = 0) ∨ (1 ≤ Int32.toInt aG ∧ SB = Int32.toInt aG - 1)) (hpost : ∀ (r : Int32) (m_rowMany' : Int32) (m_thrown' : Int32) (m_wanted' : Int32) (m_row' : Nat → Int32) (m_hand' : Nat → Int32), (0 ≤ Int32.toInt r ∧ Int32.toInt r ≤ 65535) → (2 ≤ Int32.toInt m_rowMany' ∧ Int32.toInt m_rowMany' ≤ 2) → (0 ≤ Int32.toInt m_thrown' ∧ Int32.toInt m_thrown' ≤ 0) → (0 ≤ Int32.toInt m_wanted' ∧ Int32.toInt m_wanted' ≤ 65535) → (∀ k : Nat, 0 ≤ Int32.toInt (m_hand' k) ∧ Int32.toInt (m_hand' k) ≤ 65535) → post r m_rowMany' m_thrown' m_wanted' m_row' m_hand') (hK52 : ∀ (x1 : Int32) (x2 : Int32) (x3 : Int32) (x4 : Int32) (x5 : Int32) (bQ : Int32) (dG : Int32) (dU : Int32) (uM : Nat → Int32) (tD : Nat → Int32), (0 ≤ Int32.toInt x1 ∧ Int32.toInt x1 ≤ 65535) → (0 ≤ Int32.toInt x2 ∧ Int32.toInt x2 ≤ 65535) → (-1 ≤ Int32.toInt x3 ∧ Int32.toInt x3 ≤ 7) → (0 ≤ Int32.toInt x4 ∧ Int32.toInt x4 ≤ 63) → (0 ≤ Int32.toInt x5 ∧ Int32.toInt x5 ≤ 8) → (0 ≤ Int32.toInt bQ ∧ Int32.toInt bQ ≤ 16) → (0 ≤ Int32.toInt dG ∧ Int32.toInt dG ≤ 0) → (0 ≤ Int32.toInt dU ∧ Int32.toInt dU ≤ 65535) → (∀ k : Nat, 0 ≤ Int32.toInt (tD k) ∧ Int32.toInt (tD k) ≤ 65535) → (8 - Int32.toInt x5 < n52) → K52 x1 x2 x3 x4 x5 bQ dG dU uM tD) (x1 x2 x3 x4 x5 bQ dG dU : Int32) (uM tD : Nat → Int32) (h_x1 : 0 ≤ Int32.toInt x1 ∧ Int32.toInt x1 ≤ 65535) (h_x2 : 0 ≤ Int32.toInt x2 ∧ Int32.toInt x2 ≤ 65535) (h_x3 : -1 ≤ Int32.toInt x3 ∧ Int32.toInt x3 ≤ 7) (h_x4 : 0 ≤ Int32.toInt x4 ∧ Int32.toInt x4 ≤ 63) (h_x5 : 0 ≤ Int32.toInt x5 ∧ Int32.toInt x5 ≤ 7) (h_m_rowMany : 0 ≤ Int32.toInt bQ ∧ Int32.toInt bQ ≤ 16) (h_m_thrown : 0 ≤ Int32.toInt dG ∧ Int32.toInt dG ≤ 0) (h_m_wanted : 0 ≤ Int32.toInt dU ∧ Int32.toInt dU ≤ 65535) (h_m_hand : ∀ k : Nat, 0 ≤ Int32.toInt (tD k) ∧ Int32.toInt (tD k) ≤ 65535) (hn52 : 8 - Int32.toInt x5 ≤ n52) : ws_X10_hooked_107 post K52 bW aG rD m_x jA rW oY pR pX x1 x2 x3 x4 x5 bQ dG dU uM tD := by
  have l0 := li_1
  intro v1 ev1
  have f2 : Int32.toInt (x5 + 1) = Int32.toInt x5 + Int32.toInt (1 : Int32) := ta_add _ _ (by omega)
  rw [← ev1] at f2
  exact hK52 x1 x2 x3 x4 v1 bQ dG dU uM tD h_x1 h_x2 h_x3 h_x4 (by omega) h_m_rowMany h_m_thrown h_m_wanted h_m_hand (by omega)
set_option maxHeartbeats 8000000 in
set_option maxRecDepth 200000 in
theorem ts_X10_hooked_52 {post : Int32 → Int32 → Int32 → Int32 → (Nat → Int32) → (Nat → Int32) → Prop} {SB : Int} {next : Int32 → Int32 → Int32 → Int32 → Int32 → Int32 → Int32 → Int32 → (Nat → Int32) → (Nat → Int32) → Prop} {n52 : Int} (bW aG : Int32) (rD m_x jA rW oY pR pX : Nat → Int32) (h_m_fruits : 0 ≤ Int32.toInt bW ∧ Int32.toInt bW ≤ 16) (h_m_standings : 0 ≤ Int32.toInt aG ∧ Int32.toInt aG ≤ 8) (e0_m_now : ∀ k : Nat, k = 17 → -1 ≤ Int32.toInt (rD k) ∧ Int32.toInt (rD k) ≤ SB) (e1_m_now : ∀ k : Nat, k = 19 → 0 ≤ Int32.toInt (rD k) ∧ Int32.toInt (rD k) ≤ 9) (h_m_x : ∀ k : Nat, 0 ≤ Int32.toInt (m_x k) ∧ Int32.toInt (m_x k) ≤ 99) (h_m_height : ∀ k : Nat, 0 ≤ Int32.toInt (jA k) ∧ Int32.toInt (jA k) ≤ 99) (h_m_ripe : ∀ k : Nat, 0 ≤ Int32.toInt (rW k) ∧ Int32.toInt (rW k) ≤ 9) (h_m_foot : ∀ k : Nat, 0 ≤ Int32.toInt (oY k) ∧ Int32.toInt (oY k) ≤ 99) (h_m_fork : ∀ k : Nat, 0 ≤ Int32.toInt (pR k) ∧ Int32.toInt (pR k) ≤ 99) (e0_m_told : ∀ k : Nat, k = 4 → 1 ≤ Int32.toInt (pX k) ∧ Int32.toInt (pX k) ≤ 30) (e1_m_told : ∀ k : Nat, k = 3 → 0 ≤ Int32.toInt (pX k) ∧ Int32.toInt (pX k) ≤ 9) (hc0 : -1 ≤ SB ∧ SB ≤ 7) (hc1 : (Int32.toInt aG ≤ 0 ∧ SB = 0) ∨ (1 ≤ Int32.toInt aG ∧ SB = Int32.toInt aG - 1)) (hpost : ∀ (r : Int32) (m_rowMany' : Int32) (m_thrown' : Int32) (m_wanted' : Int32) (m_row' : Nat → Int32) (m_hand' : Nat → Int32), (0 ≤ Int32.toInt r ∧ Int32.toInt r ≤ 65535) → (2 ≤ Int32.toInt m_rowMany' ∧ Int32.toInt m_rowMany' ≤ 2) → (0 ≤ Int32.toInt m_thrown' ∧ Int32.toInt m_thrown' ≤ 0) → (0 ≤ Int32.toInt m_wanted' ∧ Int32.toInt m_wanted' ≤ 65535) → (∀ k : Nat, 0 ≤ Int32.toInt (m_hand' k) ∧ Int32.toInt (m_hand' k) ≤ 65535) → post r m_rowMany' m_thrown' m_wanted' m_row' m_hand') (hKn : ∀ (x1 : Int32) (x2 : Int32) (x3 : Int32) (x4 : Int32) (x5 : Int32) (bQ : Int32) (dG : Int32) (dU : Int32) (uM : Nat → Int32) (tD : Nat → Int32), (0 ≤ Int32.toInt x1 ∧ Int32.toInt x1 ≤ 65535) → (0 ≤ Int32.toInt x2 ∧ Int32.toInt x2 ≤ 65535) → (-1 ≤ Int32.toInt x3 ∧ Int32.toInt x3 ≤ 7) → (0 ≤ Int32.toInt x4 ∧ Int32.toInt x4 ≤ 63) → (0 ≤ Int32.toInt x5 ∧ Int32.toInt x5 ≤ 8) → (0 ≤ Int32.toInt bQ ∧ Int32.toInt bQ ≤ 16) → (0 ≤ Int32.toInt dG ∧ Int32.toInt dG ≤ 0) → (0 ≤ Int32.toInt dU ∧ Int32.toInt dU ≤ 65535) → (∀ k : Nat, 0 ≤ Int32.toInt (tD k) ∧ Int32.toInt (tD k) ≤ 65535) → (8 - Int32.toInt x5 < n52) → next x1 x2 x3 x4 x5 bQ dG dU uM tD) (x1 x2 x3 x4 x5 bQ dG dU : Int32) (uM tD : Nat → Int32) (h_x1 : 0 ≤ Int32.toInt x1 ∧ Int32.toInt x1 ≤ 65535) (h_x2 : 0 ≤ Int32.toInt x2 ∧ Int32.toInt x2 ≤ 65535) (h_x3 : -1 ≤ Int32.toInt x3 ∧ Int32.toInt x3 ≤ 7) (h_x4 : 0 ≤ Int32.toInt x4 ∧ Int32.toInt x4 ≤ 63) (h_x5 : 0 ≤ Int32.toInt x5 ∧ Int32.toInt x5 ≤ 8) (h_m_rowMany : 0 ≤ Int32.toInt bQ ∧ Int32.toInt bQ ≤ 16) (h_m_thrown : 0 ≤ Int32.toInt dG ∧ Int32.toInt dG ≤ 0) (h_m_wanted : 0 ≤ Int32.toInt dU ∧ Int32.toInt dU ≤ 65535) (h_m_hand : ∀ k : Nat, 0 ≤ Int32.toInt (tD k) ∧ Int32.toInt (tD k) ≤ 65535) (hn52 : 8 - Int32.toInt x5 ≤ n52) : ws_X10_hooked_52 post next bW aG rD m_x jA rW oY pR pX x1 x2 x3 x4 x5 bQ dG dU uM tD := by
  have l0 := li_0
  have l1 := li_1
  have l2 := li_1431655765
  have l3 := li_18
  have l4 := li_252645135
  have l5 := li_63
  have l6 := li_858993459
  refine And.intro (fun c3 => ?_) (fun c3 => ?_)
  · skip
    have c3 := (fa_le _ _).mp c3
    refine And.intro (t_in (by omega)) ?_
    intro v4 ev4
    have f5 : Int32.toInt (0 + 1) = Int32.toInt (0 : Int32) + Int32.toInt (1 : Int32) := ta_add _ _ (by omega)
    rw [← ev4] at f5
    refine And.intro (t_in (by omega)) ?_
    intro v6 ev6
    have f7 : Int32.toInt (v4 + 1) = Int32.toInt v4 + Int32.toInt (1 : Int32) := ta_add _ _ (by omega)
    rw [← ev6] at f7
    exact hpost _ _ _ _ _ _ h_x2 (by omega) h_m_thrown h_m_wanted h_m_hand
  · skip
    have c3 := mt (fa_le _ _).mpr c3
    intro v8 ev8
    have hv8 := congrArg Int32.toInt ev8
    refine t_X10_reachedFrom (by omega) (by omega) h_m_fruits h_m_x h_m_height h_m_foot h_m_fork e0_m_told e1_m_told (fun r10 h_r10 => ?_)
    intro v11 ev11
    have f12 := ti_andr x1 r10 (by omega)
    have f13 := ti_andl x1 r10 (by omega)
    have hv11 := congrArg Int32.toInt ev11
    intro v14 ev14
    have f15 := ti_or 16 65536 x2 v11 (by decide) (by omega) (by omega)
    have hv14 := congrArg Int32.toInt ev14
    intro v16 ev16
    intro v17 ev17
    have f19 := ti_andr v16 1431655765 (by omega)
    have f18 : Int32.toInt (v11 - (v16 &&& 1431655765)) = Int32.toInt v11 - Int32.toInt (v16 &&& 1431655765) := ta_sub _ _ (by omega)
    rw [← ev17] at f18
    intro v20 ev20
    have f21 := ti_andr v17 858993459 (by omega)
    have hv20 := congrArg Int32.toInt ev20
    intro v22 ev22
    intro v23 ev23
    have f25 := ti_andr v22 858993459 (by omega)
    have f24 : Int32.toInt (v20 + (v22 &&& 858993459)) = Int32.toInt v20 + Int32.toInt (v22 &&& 858993459) := ta_add _ _ (by omega)
    rw [← ev23] at f24
    intro v26 ev26
    have hv26 := congrArg Int32.toInt ev26
    intro v28 ev28
    have f29 := ti_andr v26 252645135 (by omega)
    have hv28 := congrArg Int32.toInt ev28
    intro v30 ev30
    have hv30 := congrArg Int32.toInt ev30
    intro v32 ev32
    have hv32 := congrArg Int32.toInt ev32
    have f35 := ti_andr v32 63 (by omega)
    refine And.intro (fun c34 => ?_) (fun c34 => ?_)
    · skip
      have c34 := (fa_lt _ _).mp c34
      intro v36 ev36
      intro v37 ev37
      have f39 := ti_andr v36 1431655765 (by omega)
      have f38 : Int32.toInt (v11 - (v36 &&& 1431655765)) = Int32.toInt v11 - Int32.toInt (v36 &&& 1431655765) := ta_sub _ _ (by omega)
      rw [← ev37] at f38
      intro v40 ev40
      have f41 := ti_andr v37 858993459 (by omega)
      have hv40 := congrArg Int32.toInt ev40
      intro v42 ev42
      intro v43 ev43
      have f45 := ti_andr v42 858993459 (by omega)
      have f44 : Int32.toInt (v40 + (v42 &&& 858993459)) = Int32.toInt v40 + Int32.toInt (v42 &&& 858993459) := ta_add _ _ (by omega)
      rw [← ev43] at f44
      intro v46 ev46
      have hv46 := congrArg Int32.toInt ev46
      intro v48 ev48
      have f49 := ti_andr v46 252645135 (by omega)
      have hv48 := congrArg Int32.toInt ev48
      intro v50 ev50
      have hv50 := congrArg Int32.toInt ev50
      intro v52 ev52
      have hv52 := congrArg Int32.toInt ev52
      have f54 := ti_andr v52 63 (by omega)
      exact ts_X10_hooked_107 bW aG rD m_x jA rW oY pR pX h_m_fruits h_m_standings e0_m_now e1_m_now h_m_x h_m_height h_m_ripe h_m_foot h_m_fork e0_m_told e1_m_told hc0 hc1 hpost hKn x1 v14 x5 (v52 &&& 63) x5 bQ dG dU uM tD h_x1 (by omega) (by omega) (by omega) (by omega) h_m_rowMany h_m_thrown h_m_wanted h_m_hand hn52
    · skip
      have c34 := mt (fa_lt _ _).mpr c34
      exact ts_X10_hooked_107 bW aG rD m_x jA rW oY pR pX h_m_fruits h_m_standings e0_m_now e1_m_now h_m_x h_m_height h_m_ripe h_m_foot h_m_fork e0_m_told e1_m_told hc0 hc1 hpost hKn x1 v14 x3 x4 x5 bQ dG dU uM tD h_x1 (by omega) h_x3 h_x4 (by omega) h_m_rowMany h_m_thrown h_m_wanted h_m_hand hn52
set_option maxHeartbeats 8000000 in
set_option maxRecDepth 200000 in
theorem tb_X10_hooked_52 {post : Int32 → Int32 → Int32 → Int32 → (Nat → Int32) → (Nat → Int32) → Prop} {SB : Int} (bW aG : Int32) (rD m_x jA rW oY pR pX : Nat → Int32) (h_m_fruits : 0 ≤ Int32.toInt bW ∧ Int32.toInt bW ≤ 16) (h_m_standings : 0 ≤ Int32.toInt aG ∧ Int32.toInt aG ≤ 8) (e0_m_now : ∀ k : Nat, k = 17 → -1 ≤ Int32.toInt (rD k) ∧ Int32.toInt (rD k) ≤ SB) (e1_m_now : ∀ k : Nat, k = 19 → 0 ≤ Int32.toInt (rD k) ∧ Int32.toInt (rD k) ≤ 9) (h_m_x : ∀ k : Nat, 0 ≤ Int32.toInt (m_x k) ∧ Int32.toInt (m_x k) ≤ 99) (h_m_height : ∀ k : Nat, 0 ≤ Int32.toInt (jA k) ∧ Int32.toInt (jA k) ≤ 99) (h_m_ripe : ∀ k : Nat, 0 ≤ Int32.toInt (rW k) ∧ Int32.toInt (rW k) ≤ 9) (h_m_foot : ∀ k : Nat, 0 ≤ Int32.toInt (oY k) ∧ Int32.toInt (oY k) ≤ 99) (h_m_fork : ∀ k : Nat, 0 ≤ Int32.toInt (pR k) ∧ Int32.toInt (pR k) ≤ 99) (e0_m_told : ∀ k : Nat, k = 4 → 1 ≤ Int32.toInt (pX k) ∧ Int32.toInt (pX k) ≤ 30) (e1_m_told : ∀ k : Nat, k = 3 → 0 ≤ Int32.toInt (pX k) ∧ Int32.toInt (pX k) ≤ 9) (hc0 : -1 ≤ SB ∧ SB ≤ 7) (hc1 : (Int32.toInt aG ≤ 0 ∧ SB = 0) ∨ (1 ≤ Int32.toInt aG ∧ SB = Int32.toInt aG - 1)) (hpost : ∀ (r : Int32) (m_rowMany' : Int32) (m_thrown' : Int32) (m_wanted' : Int32) (m_row' : Nat → Int32) (m_hand' : Nat → Int32), (0 ≤ Int32.toInt r ∧ Int32.toInt r ≤ 65535) → (2 ≤ Int32.toInt m_rowMany' ∧ Int32.toInt m_rowMany' ≤ 2) → (0 ≤ Int32.toInt m_thrown' ∧ Int32.toInt m_thrown' ≤ 0) → (0 ≤ Int32.toInt m_wanted' ∧ Int32.toInt m_wanted' ≤ 65535) → (∀ k : Nat, 0 ≤ Int32.toInt (m_hand' k) ∧ Int32.toInt (m_hand' k) ≤ 65535) → post r m_rowMany' m_thrown' m_wanted' m_row' m_hand') : ∀ (n : Nat) (x1 x2 x3 x4 x5 bQ dG dU : Int32) (uM tD : Nat → Int32), (0 ≤ Int32.toInt x1 ∧ Int32.toInt x1 ≤ 65535) → (0 ≤ Int32.toInt x2 ∧ Int32.toInt x2 ≤ 65535) → (-1 ≤ Int32.toInt x3 ∧ Int32.toInt x3 ≤ 7) → (0 ≤ Int32.toInt x4 ∧ Int32.toInt x4 ≤ 63) → (0 ≤ Int32.toInt x5 ∧ Int32.toInt x5 ≤ 8) → (0 ≤ Int32.toInt bQ ∧ Int32.toInt bQ ≤ 16) → (0 ≤ Int32.toInt dG ∧ Int32.toInt dG ≤ 0) → (0 ≤ Int32.toInt dU ∧ Int32.toInt dU ≤ 65535) → (∀ k : Nat, 0 ≤ Int32.toInt (tD k) ∧ Int32.toInt (tD k) ≤ 65535) → (8 - Int32.toInt x5 < (n : Int)) → wb_X10_hooked_52 post bW aG rD m_x jA rW oY pR pX n x1 x2 x3 x4 x5 bQ dG dU uM tD := by
  intro n
  induction n with
  | zero =>
    intro x1 x2 x3 x4 x5 bQ dG dU uM tD h_x1 h_x2 h_x3 h_x4 h_x5 h_m_rowMany h_m_thrown h_m_wanted h_m_hand hm
    exfalso; omega
  | succ n ih =>
    intro x1 x2 x3 x4 x5 bQ dG dU uM tD h_x1 h_x2 h_x3 h_x4 h_x5 h_m_rowMany h_m_thrown h_m_wanted h_m_hand hm
    exact ts_X10_hooked_52 bW aG rD m_x jA rW oY pR pX h_m_fruits h_m_standings e0_m_now e1_m_now h_m_x h_m_height h_m_ripe h_m_foot h_m_fork e0_m_told e1_m_told hc0 hc1 hpost ih x1 x2 x3 x4 x5 bQ dG dU uM tD h_x1 h_x2 h_x3 h_x4 h_x5 h_m_rowMany h_m_thrown h_m_wanted h_m_hand (by omega)
set_option maxHeartbeats 8000000 in
set_option maxRecDepth 200000 in
theorem t_X10_hooked {post : Int32 → Int32 → Int32 → Int32 → (Nat → Int32) → (Nat → Int32) → Prop} {SB : Int} {bW aG bQ dG dU : Int32} {rD m_x jA rW oY pR pX uM tD : Nat → Int32} (h_m_fruits : 0 ≤ Int32.toInt bW ∧ Int32.toInt bW ≤ 16) (h_m_standings : 0 ≤ Int32.toInt aG ∧ Int32.toInt aG ≤ 8) (h_m_rowMany : 0 ≤ Int32.toInt bQ ∧ Int32.toInt bQ ≤ 16) (h_m_thrown : 0 ≤ Int32.toInt dG ∧ Int32.toInt dG ≤ 1) (h_m_wanted : 0 ≤ Int32.toInt dU ∧ Int32.toInt dU ≤ 65535) (e0_m_now : ∀ k : Nat, k = 17 → -1 ≤ Int32.toInt (rD k) ∧ Int32.toInt (rD k) ≤ SB) (e1_m_now : ∀ k : Nat, k = 19 → 0 ≤ Int32.toInt (rD k) ∧ Int32.toInt (rD k) ≤ 9) (h_m_x : ∀ k : Nat, 0 ≤ Int32.toInt (m_x k) ∧ Int32.toInt (m_x k) ≤ 99) (h_m_height : ∀ k : Nat, 0 ≤ Int32.toInt (jA k) ∧ Int32.toInt (jA k) ≤ 99) (h_m_ripe : ∀ k : Nat, 0 ≤ Int32.toInt (rW k) ∧ Int32.toInt (rW k) ≤ 9) (h_m_foot : ∀ k : Nat, 0 ≤ Int32.toInt (oY k) ∧ Int32.toInt (oY k) ≤ 99) (h_m_fork : ∀ k : Nat, 0 ≤ Int32.toInt (pR k) ∧ Int32.toInt (pR k) ≤ 99) (e0_m_told : ∀ k : Nat, k = 4 → 1 ≤ Int32.toInt (pX k) ∧ Int32.toInt (pX k) ≤ 30) (e1_m_told : ∀ k : Nat, k = 3 → 0 ≤ Int32.toInt (pX k) ∧ Int32.toInt (pX k) ≤ 9) (h_m_hand : ∀ k : Nat, 0 ≤ Int32.toInt (tD k) ∧ Int32.toInt (tD k) ≤ 65535) (hc0 : -1 ≤ SB ∧ SB ≤ 7) (hc1 : (Int32.toInt aG ≤ 0 ∧ SB = 0) ∨ (1 ≤ Int32.toInt aG ∧ SB = Int32.toInt aG - 1)) (hpost : ∀ (r : Int32) (m_rowMany' : Int32) (m_thrown' : Int32) (m_wanted' : Int32) (m_row' : Nat → Int32) (m_hand' : Nat → Int32), (0 ≤ Int32.toInt r ∧ Int32.toInt r ≤ 65535) → (2 ≤ Int32.toInt m_rowMany' ∧ Int32.toInt m_rowMany' ≤ 2) → (0 ≤ Int32.toInt m_thrown' ∧ Int32.toInt m_thrown' ≤ 0) → (0 ≤ Int32.toInt m_wanted' ∧ Int32.toInt m_wanted' ≤ 65535) → (∀ k : Nat, 0 ≤ Int32.toInt (m_hand' k) ∧ Int32.toInt (m_hand' k) ≤ 65535) → post r m_rowMany' m_thrown' m_wanted' m_row' m_hand') : wp_X10_hooked post bW aG bQ dG dU rD m_x jA rW oY pR pX uM tD := by
  have l0 := li_m1
  have l1 := li_0
  have l2 := li_1
  have l3 := li_18
  have l4 := li_19
  intro v55 ev55
  have hv55 := congrArg Int32.toInt ev55
  refine t_X10_layHands_ h_m_fruits h_m_standings h_m_wanted e0_m_now e1_m_now h_m_x h_m_height h_m_ripe h_m_foot h_m_fork e0_m_told e1_m_told h_m_hand (by omega) (by omega) (fun m_wanted_57 m_hand_58 h_m_wanted_57 h_m_hand_58 => ?_)
  refine t_X10_which (by omega) h_m_fruits e0_m_now e1_m_now (by omega) (fun r59 h_r59 ox60 => ?_)
  have q61 := e1_m_now (19 : Int32).toNatClampNeg (by have e9 : (19 : Int32).toNatClampNeg = (Int32.toInt (19 : Int32)).toNat := rfl; omega)
  intro v62 ev62
  have hv62 := congrArg Int32.toInt ev62
  refine t_X10_ripeOnes (by omega) h_m_fruits h_m_ripe (fun r64 h_r64 ox65 => ?_)
  intro v66 ev66
  have f67 := ti_andr r59 r64 (by omega)
  have f68 := ti_andl r59 r64 (by omega)
  have hv66 := congrArg Int32.toInt ev66
  intro v69 ev69
  have f70 := ti_shl1 8 256 aG (by decide) (by omega)
  have hv69 := congrArg Int32.toInt ev69
  have f72 : Int32.toInt (v69 - 1) = Int32.toInt v69 - Int32.toInt (1 : Int32) := ta_sub _ _ (by omega)
  refine t_X10_handOf (by omega) h_m_standings h_m_hand_58 (fun r71 h_r71 => ?_)
  intro v73 ev73
  have f75 := ti_andl v66 (r71 ^^^ (-1)) (by omega)
  have hv73 := congrArg Int32.toInt ev73
  exact ⟨10, tb_X10_hooked_52 bW aG rD m_x jA rW oY pR pX h_m_fruits h_m_standings e0_m_now e1_m_now h_m_x h_m_height h_m_ripe h_m_foot h_m_fork e0_m_told e1_m_told hc0 hc1 hpost _ v73 0 (-1) 0 0 bQ 0 m_wanted_57 uM m_hand_58 (by omega) (by omega) (by omega) (by omega) (by omega) h_m_rowMany (by omega) h_m_wanted_57 h_m_hand_58 (by omega)⟩
set_option maxHeartbeats 8000000 in
set_option maxRecDepth 200000 in
theorem t_X10_broken {post : Int32 → Int32 → Int32 → Int32 → (Nat → Int32) → (Nat → Int32) → Prop} {SB : Int} {p0 bW aG bQ dG dU : Int32} {rD m_x jA rW oY pR pX uM tD : Nat → Int32} (h_m_fruits : 0 ≤ Int32.toInt bW ∧ Int32.toInt bW ≤ 16) (h_m_standings : 0 ≤ Int32.toInt aG ∧ Int32.toInt aG ≤ 8) (h_m_rowMany : 0 ≤ Int32.toInt bQ ∧ Int32.toInt bQ ≤ 16) (h_m_thrown : 0 ≤ Int32.toInt dG ∧ Int32.toInt dG ≤ 1) (h_m_wanted : 0 ≤ Int32.toInt dU ∧ Int32.toInt dU ≤ 65535) (e0_m_now : ∀ k : Nat, k = 17 → -1 ≤ Int32.toInt (rD k) ∧ Int32.toInt (rD k) ≤ SB) (e1_m_now : ∀ k : Nat, k = 19 → 0 ≤ Int32.toInt (rD k) ∧ Int32.toInt (rD k) ≤ 9) (h_m_x : ∀ k : Nat, 0 ≤ Int32.toInt (m_x k) ∧ Int32.toInt (m_x k) ≤ 99) (h_m_height : ∀ k : Nat, 0 ≤ Int32.toInt (jA k) ∧ Int32.toInt (jA k) ≤ 99) (h_m_ripe : ∀ k : Nat, 0 ≤ Int32.toInt (rW k) ∧ Int32.toInt (rW k) ≤ 9) (h_m_foot : ∀ k : Nat, 0 ≤ Int32.toInt (oY k) ∧ Int32.toInt (oY k) ≤ 99) (h_m_fork : ∀ k : Nat, 0 ≤ Int32.toInt (pR k) ∧ Int32.toInt (pR k) ≤ 99) (e0_m_told : ∀ k : Nat, k = 4 → 1 ≤ Int32.toInt (pX k) ∧ Int32.toInt (pX k) ≤ 30) (e1_m_told : ∀ k : Nat, k = 3 → 0 ≤ Int32.toInt (pX k) ∧ Int32.toInt (pX k) ≤ 9) (h_m_hand : ∀ k : Nat, 0 ≤ Int32.toInt (tD k) ∧ Int32.toInt (tD k) ≤ 65535) (hc0 : -1 ≤ SB ∧ SB ≤ 7) (hc1 : (Int32.toInt aG ≤ 0 ∧ SB = 0) ∨ (1 ≤ Int32.toInt aG ∧ SB = Int32.toInt aG - 1)) (hpost : ∀ (r : Int32) (m_rowMany' : Int32) (m_thrown' : Int32) (m_wanted' : Int32) (m_row' : Nat → Int32) (m_hand' : Nat → Int32), (-1 ≤ Int32.toInt r ∧ Int32.toInt r ≤ 63) → (0 ≤ Int32.toInt m_rowMany' ∧ Int32.toInt m_rowMany' ≤ 16) → (0 ≤ Int32.toInt m_thrown' ∧ Int32.toInt m_thrown' ≤ 0) → (0 ≤ Int32.toInt m_wanted' ∧ Int32.toInt m_wanted' ≤ 65535) → (∀ k : Nat, 0 ≤ Int32.toInt (m_hand' k) ∧ Int32.toInt (m_hand' k) ≤ 65535) → post r m_rowMany' m_thrown' m_wanted' m_row' m_hand') : wp_X10_broken post p0 bW aG bQ dG dU rD m_x jA rW oY pR pX uM tD := by
  have l0 := li_m1
  have l1 := li_0
  have l2 := li_1
  have l3 := li_1431655765
  have l4 := li_18
  have l5 := li_252645135
  have l6 := li_63
  have l7 := li_858993459
  intro v1 ev1
  have f2 : Int32.toInt (aG - 1) = Int32.toInt aG - Int32.toInt (1 : Int32) := ta_sub _ _ (by omega)
  rw [← ev1] at f2
  have f4 := tp_r p0
  refine And.intro (fun c3 => ?_) (fun c3 => ?_)
  · skip
    have c3 := (fa_lt _ _).mp c3
    refine And.intro (t_bool (by omega)) ?_
    refine And.intro (fun h9 => absurd h9 (by decide)) (fun _ => ?_)
    exact hpost _ _ _ _ _ _ (by omega) h_m_rowMany (by omega) h_m_wanted h_m_hand
  · skip
    have c3 := mt (fa_lt _ _).mpr c3
    refine And.intro (fun c5 => ?_) (fun c5 => ?_)
    · skip
      have c5 := (fa_lt _ _).mp c5
      refine And.intro (t_bool (by omega)) ?_
      refine And.intro (fun h9 => absurd h9 (by decide)) (fun _ => ?_)
      exact hpost _ _ _ _ _ _ (by omega) h_m_rowMany (by omega) h_m_wanted h_m_hand
    · skip
      have c5 := mt (fa_lt _ _).mpr c5
      refine And.intro (t_bool (by omega)) ?_
      refine And.intro (fun _ => ?_) (fun h9 => absurd h9 (by decide))
      intro v6 ev6
      have hv6 := congrArg Int32.toInt ev6
      refine t_X10_layHands_ h_m_fruits h_m_standings h_m_wanted e0_m_now e1_m_now h_m_x h_m_height h_m_ripe h_m_foot h_m_fork e0_m_told e1_m_told h_m_hand (by omega) (by omega) (fun m_wanted_8 m_hand_9 h_m_wanted_8 h_m_hand_9 => ?_)
      refine And.intro (t_in (by omega)) ?_
      have a10 : ∀ k : Nat, 0 ≤ Int32.toInt ((upd m_hand_9 p0.toNatClampNeg 0) k) ∧ Int32.toInt ((upd m_hand_9 p0.toNatClampNeg 0) k) ≤ 65535 := t_upd (fun k => by have q9 := h_m_hand_9 k; omega) (by omega)
      intro v11 ev11
      have f12 := ti_shl1 8 256 aG (by decide) (by omega)
      have hv11 := congrArg Int32.toInt ev11
      have f14 : Int32.toInt (v11 - 1) = Int32.toInt v11 - Int32.toInt (1 : Int32) := ta_sub _ _ (by omega)
      refine t_X10_handOf (by omega) h_m_standings (fun k => by have q9 := a10 k; omega) (fun r13 h_r13 => ?_)
      intro v15 ev15
      have f16 := ti_andr m_wanted_8 r13 (by omega)
      have f17 := ti_andl m_wanted_8 r13 (by omega)
      have hv15 := congrArg Int32.toInt ev15
      refine t_X10_cover (by omega) h_m_standings (fun k => by have q9 := a10 k; omega) (fun r18 h_r18 => ?_)
      intro v19 ev19
      intro v20 ev20
      have f22 := ti_andr v19 1431655765 (by omega)
      have f21 : Int32.toInt (r18 - (v19 &&& 1431655765)) = Int32.toInt r18 - Int32.toInt (v19 &&& 1431655765) := ta_sub _ _ (by omega)
      rw [← ev20] at f21
      intro v23 ev23
      have f24 := ti_andr v20 858993459 (by omega)
      have hv23 := congrArg Int32.toInt ev23
      intro v25 ev25
      intro v26 ev26
      have f28 := ti_andr v25 858993459 (by omega)
      have f27 : Int32.toInt (v23 + (v25 &&& 858993459)) = Int32.toInt v23 + Int32.toInt (v25 &&& 858993459) := ta_add _ _ (by omega)
      rw [← ev26] at f27
      intro v29 ev29
      have hv29 := congrArg Int32.toInt ev29
      intro v31 ev31
      have f32 := ti_andr v29 252645135 (by omega)
      have hv31 := congrArg Int32.toInt ev31
      intro v33 ev33
      have hv33 := congrArg Int32.toInt ev33
      intro v35 ev35
      have hv35 := congrArg Int32.toInt ev35
      intro v37 ev37
      have f39 := ti_andl m_wanted_8 (v15 ^^^ (-1)) (by omega)
      have hv37 := congrArg Int32.toInt ev37
      refine And.intro (t_in (by omega)) ?_
      intro v40 ev40
      have f41 : Int32.toInt (0 + 1) = Int32.toInt (0 : Int32) + Int32.toInt (1 : Int32) := ta_add _ _ (by omega)
      rw [← ev40] at f41
      have f42 := ti_andr v35 63 (by omega)
      exact hpost _ _ _ _ _ _ (by omega) (by omega) (by omega) h_m_wanted_8 (fun k => by have q9 := a10 k; omega)
set_option maxHeartbeats 8000000 in
set_option maxRecDepth 200000 in
theorem ts_X10_sweep_122 {post : Int32 → Int32 → Int32 → Nat → Int32 → Int32 → Int32 → Int32 → Int32 → Int32 → Int32 → Int32 → Int32 → Int32 → Int32 → Int32 → Int32 → (Nat → Int32) → (Nat → Int32) → (Nat → Int32) → (Nat → Int32) → (Nat → Int32) → Prop} {SB : Int} {K40 : Int32 → Int32 → Int32 → Int32 → Int32 → Int32 → Int32 → Nat → Int32 → Int32 → Int32 → Int32 → Int32 → Int32 → Int32 → Int32 → Int32 → Int32 → Int32 → Int32 → Int32 → (Nat → Int32) → (Nat → Int32) → (Nat → Int32) → (Nat → Int32) → (Nat → Int32) → Prop} {n40 : Int} (bW aG bU : Int32) (rD m_x jA pY rW oY pR pX rG rQ : Nat → Int32) (h_m_fruits : 0 ≤ Int32.toInt bW ∧ Int32.toInt bW ≤ 16) (h_m_standings : 0 ≤ Int32.toInt aG ∧ Int32.toInt aG ≤ 8) (h_m_ruleSize : 0 ≤ Int32.toInt bU ∧ Int32.toInt bU ≤ 40) (e0_m_now : ∀ k : Nat, k = 17 → -1 ≤ Int32.toInt (rD k) ∧ Int32.toInt (rD k) ≤ SB) (e1_m_now : ∀ k : Nat, k = 19 → 0 ≤ Int32.toInt (rD k) ∧ Int32.toInt (rD k) ≤ 9) (h_m_x : ∀ k : Nat, 0 ≤ Int32.toInt (m_x k) ∧ Int32.toInt (m_x k) ≤ 99) (h_m_height : ∀ k : Nat, 0 ≤ Int32.toInt (jA k) ∧ Int32.toInt (jA k) ≤ 99) (h_m_worth : ∀ k : Nat, 0 ≤ Int32.toInt (pY k) ∧ Int32.toInt (pY k) ≤ 9) (h_m_ripe : ∀ k : Nat, 0 ≤ Int32.toInt (rW k) ∧ Int32.toInt (rW k) ≤ 9) (h_m_foot : ∀ k : Nat, 0 ≤ Int32.toInt (oY k) ∧ Int32.toInt (oY k) ≤ 99) (h_m_fork : ∀ k : Nat, 0 ≤ Int32.toInt (pR k) ∧ Int32.toInt (pR k) ≤ 99) (e0_m_told : ∀ k : Nat, k = 4 → 1 ≤ Int32.toInt (pX k) ∧ Int32.toInt (pX k) ≤ 30) (e1_m_told : ∀ k : Nat, k = 3 → 0 ≤ Int32.toInt (pX k) ∧ Int32.toInt (pX k) ≤ 9) (h_m_text : ∀ k : Nat, -128 ≤ Int32.toInt (rG k) ∧ Int32.toInt (rG k) ≤ 127) (h_m_rule : ∀ k : Nat, -128 ≤ Int32.toInt (rQ k) ∧ Int32.toInt (rQ k) ≤ 127) (hc0 : -1 ≤ SB ∧ SB ≤ 7) (hc1 : (Int32.toInt aG ≤ 0 ∧ SB = 0) ∨ (1 ≤ Int32.toInt aG ∧ SB = Int32.toInt aG - 1)) (hpost : ∀ (r : Int32) (m_rowMany' : Int32) (m_thrown' : Int32) (m_read' : Nat) (m_length' : Int32) (m_top' : Int32) (m_at' : Int32) (m_wrong' : Int32) (m_isAsked' : Int32) (m_askedFruit' : Int32) (m_askedStanding' : Int32) (m_askedHook' : Int32) (m_askedApron' : Int32) (m_wanted' : Int32) (m_workMoves' : Int32) (m_workPicks' : Int32) (m_workDowns' : Int32) (m_row' : Nat → Int32) (m_hand' : Nat → Int32) (m_moves' : Nat → Int32) (m_handSeconds' : Nat → Int32) (m_load' : Nat → Int32), (-1 ≤ Int32.toInt r ∧ Int32.toInt r ≤ 2147483647) → (0 ≤ Int32.toInt m_rowMany' ∧ Int32.toInt m_rowMany' ≤ 16) → (0 ≤ Int32.toInt m_thrown' ∧ Int32.toInt m_thrown' ≤ 0) → (m_read' = 0 ∨ m_read' = 1 ∨ m_read' = 2) → (0 ≤ Int32.toInt m_length' ∧ Int32.toInt m_length' ≤ 80) → (0 ≤ Int32.toInt m_top' ∧ Int32.toInt m_top' ≤ 80) → (0 ≤ Int32.toInt m_at' ∧ Int32.toInt m_at' ≤ 80) → (-1 ≤ Int32.toInt m_wrong' ∧ Int32.toInt m_wrong' ≤ 80) → (0 ≤ Int32.toInt m_isAsked' ∧ Int32.toInt m_isAsked' ≤ 0) → (0 ≤ Int32.toInt m_askedFruit' ∧ Int32.toInt m_askedFruit' ≤ 15) → (0 ≤ Int32.toInt m_askedStanding' ∧ Int32.toInt m_askedStanding' ≤ 7) → (0 ≤ Int32.toInt m_askedHook' ∧ Int32.toInt m_askedHook' ≤ 1) → (0 ≤ Int32.toInt m_askedApron' ∧ Int32.toInt m_askedApron' ≤ 63) → (0 ≤ Int32.toInt m_wanted' ∧ Int32.toInt m_wanted' ≤ 65535) → (0 ≤ Int32.toInt m_workMoves' ∧ Int32.toInt m_workMoves' ≤ 1000000) → (∀ k : Nat, 0 ≤ Int32.toInt (m_hand' k) ∧ Int32.toInt (m_hand' k) ≤ 65535) → (∀ k : Nat, 0 ≤ Int32.toInt (m_moves' k) ∧ Int32.toInt (m_moves' k) ≤ 1000000) → (∀ k : Nat, 0 ≤ Int32.toInt (m_handSeconds' k) ∧ Int32.toInt (m_handSeconds' k) ≤ 99) → post r m_rowMany' m_thrown' m_read' m_length' m_top' m_at' m_wrong' m_isAsked' m_askedFruit' m_askedStanding' m_askedHook' m_askedApron' m_wanted' m_workMoves' m_workPicks' m_workDowns' m_row' m_hand' m_moves' m_handSeconds' m_load') (hK40 : ∀ (x1 : Int32) (x2 : Int32) (x3 : Int32) (x4 : Int32) (x5 : Int32) (bQ : Int32) (dG : Int32) (jY : Nat) (m_length : Int32) (qG : Int32) (uW : Int32) (eY : Int32) (dN : Int32) (aR : Int32) (aE : Int32) (bJ : Int32) (aW : Int32) (dU : Int32) (bL : Int32) (bR : Int32) (bO : Int32) (uM : Nat → Int32) (tD : Nat → Int32) (uG : Nat → Int32) (nU : Nat → Int32) (vW : Nat → Int32), (0 ≤ Int32.toInt x1 ∧ Int32.toInt x1 ≤ 9999) → (-1 ≤ Int32.toInt x2 ∧ Int32.toInt x2 ≤ 255) → (-1 ≤ Int32.toInt x3 ∧ Int32.toInt x3 ≤ 2147483647) → (-2147483648 ≤ Int32.toInt x4 ∧ Int32.toInt x4 ≤ 9999) → (0 ≤ Int32.toInt x5 ∧ Int32.toInt x5 ≤ 256) → (0 ≤ Int32.toInt bQ ∧ Int32.toInt bQ ≤ 16) → (0 ≤ Int32.toInt dG ∧ Int32.toInt dG ≤ 0) → (jY = 0 ∨ jY = 1 ∨ jY = 2) → (0 ≤ Int32.toInt m_length ∧ Int32.toInt m_length ≤ 80) → (0 ≤ Int32.toInt qG ∧ Int32.toInt qG ≤ 80) → (0 ≤ Int32.toInt uW ∧ Int32.toInt uW ≤ 80) → (-1 ≤ Int32.toInt eY ∧ Int32.toInt eY ≤ 80) → (0 ≤ Int32.toInt dN ∧ Int32.toInt dN ≤ 0) → (0 ≤ Int32.toInt aR ∧ Int32.toInt aR ≤ 15) → (0 ≤ Int32.toInt aE ∧ Int32.toInt aE ≤ 7) → (0 ≤ Int32.toInt bJ ∧ Int32.toInt bJ ≤ 1) → (0 ≤ Int32.toInt aW ∧ Int32.toInt aW ≤ 63) → (0 ≤ Int32.toInt dU ∧ Int32.toInt dU ≤ 65535) → (0 ≤ Int32.toInt bL ∧ Int32.toInt bL ≤ 1000000) → (∀ k : Nat, 0 ≤ Int32.toInt (tD k) ∧ Int32.toInt (tD k) ≤ 65535) → (∀ k : Nat, 0 ≤ Int32.toInt (uG k) ∧ Int32.toInt (uG k) ≤ 1000000) → (∀ k : Nat, 0 ≤ Int32.toInt (nU k) ∧ Int32.toInt (nU k) ≤ 99) → (256 - Int32.toInt x5 < n40) → K40 x1 x2 x3 x4 x5 bQ dG jY m_length qG uW eY dN aR aE bJ aW dU bL bR bO uM tD uG nU vW) (x1 x2 x3 x4 x5 bQ dG : Int32) (jY : Nat) (m_length qG uW eY dN aR aE bJ aW dU bL bR bO : Int32) (uM tD uG nU vW : Nat → Int32) (h_x1 : 0 ≤ Int32.toInt x1 ∧ Int32.toInt x1 ≤ 9999) (h_x2 : -1 ≤ Int32.toInt x2 ∧ Int32.toInt x2 ≤ 255) (h_x3 : -1 ≤ Int32.toInt x3 ∧ Int32.toInt x3 ≤ 2147483647) (h_x4 : -2147483648 ≤ Int32.toInt x4 ∧ Int32.toInt x4 ≤ 9999) (h_x5 : 0 ≤ Int32.toInt x5 ∧ Int32.toInt x5 ≤ 255) (h_m_rowMany : 0 ≤ Int32.toInt bQ ∧ Int32.toInt bQ ≤ 16) (h_m_thrown : 0 ≤ Int32.toInt dG ∧ Int32.toInt dG ≤ 0) (h_m_read : jY = 0 ∨ jY = 1 ∨ jY = 2) (h_m_length : 0 ≤ Int32.toInt m_length ∧ Int32.toInt m_length ≤ 80) (h_m_top : 0 ≤ Int32.toInt qG ∧ Int32.toInt qG ≤ 80) (h_m_at : 0 ≤ Int32.toInt uW ∧ Int32.toInt uW ≤ 80) (h_m_wrong : -1 ≤ Int32.toInt eY ∧ Int32.toInt eY ≤ 80) (h_m_isAsked : 0 ≤ Int32.toInt dN ∧ Int32.toInt dN ≤ 0) (h_m_askedFruit : 0 ≤ Int32.toInt aR ∧ Int32.toInt aR ≤ 15) (h_m_askedStanding : 0 ≤ Int32.toInt aE ∧ Int32.toInt aE ≤ 7) (h_m_askedHook : 0 ≤ Int32.toInt bJ ∧ Int32.toInt bJ ≤ 1) (h_m_askedApron : 0 ≤ Int32.toInt aW ∧ Int32.toInt aW ≤ 63) (h_m_wanted : 0 ≤ Int32.toInt dU ∧ Int32.toInt dU ≤ 65535) (h_m_workMoves : 0 ≤ Int32.toInt bL ∧ Int32.toInt bL ≤ 1000000) (h_m_hand : ∀ k : Nat, 0 ≤ Int32.toInt (tD k) ∧ Int32.toInt (tD k) ≤ 65535) (h_m_moves : ∀ k : Nat, 0 ≤ Int32.toInt (uG k) ∧ Int32.toInt (uG k) ≤ 1000000) (h_m_handSeconds : ∀ k : Nat, 0 ≤ Int32.toInt (nU k) ∧ Int32.toInt (nU k) ≤ 99) (hn40 : 256 - Int32.toInt x5 ≤ n40) : ws_X10_sweep_122 post K40 bW aG bU rD m_x jA pY rW oY pR pX rG rQ x1 x2 x3 x4 x5 bQ dG jY m_length qG uW eY dN aR aE bJ aW dU bL bR bO uM tD uG nU vW := by
  have l0 := li_1
  intro v1 ev1
  have f2 : Int32.toInt (x5 + 1) = Int32.toInt x5 + Int32.toInt (1 : Int32) := ta_add _ _ (by omega)
  rw [← ev1] at f2
  have f3 := tp_r x3
  have f4 := tp_r x4
  have f5 := tp_r bR
  have f6 := tp_r bO
  exact hK40 x1 x2 x3 x4 v1 bQ dG jY m_length qG uW eY dN aR aE bJ aW dU bL bR bO uM tD uG nU vW h_x1 h_x2 h_x3 h_x4 (by omega) h_m_rowMany h_m_thrown h_m_read h_m_length h_m_top h_m_at h_m_wrong h_m_isAsked h_m_askedFruit h_m_askedStanding h_m_askedHook h_m_askedApron h_m_wanted h_m_workMoves h_m_hand h_m_moves h_m_handSeconds (by omega)
set_option maxHeartbeats 8000000 in
set_option maxRecDepth 200000 in
theorem ts_X10_sweep_112 {post : Int32 → Int32 → Int32 → Nat → Int32 → Int32 → Int32 → Int32 → Int32 → Int32 → Int32 → Int32 → Int32 → Int32 → Int32 → Int32 → Int32 → (Nat → Int32) → (Nat → Int32) → (Nat → Int32) → (Nat → Int32) → (Nat → Int32) → Prop} {SB : Int} {K40 : Int32 → Int32 → Int32 → Int32 → Int32 → Int32 → Int32 → Nat → Int32 → Int32 → Int32 → Int32 → Int32 → Int32 → Int32 → Int32 → Int32 → Int32 → Int32 → Int32 → Int32 → (Nat → Int32) → (Nat → Int32) → (Nat → Int32) → (Nat → Int32) → (Nat → Int32) → Prop} {n40 : Int} (bW aG bU : Int32) (rD m_x jA pY rW oY pR pX rG rQ : Nat → Int32) (h_m_fruits : 0 ≤ Int32.toInt bW ∧ Int32.toInt bW ≤ 16) (h_m_standings : 0 ≤ Int32.toInt aG ∧ Int32.toInt aG ≤ 8) (h_m_ruleSize : 0 ≤ Int32.toInt bU ∧ Int32.toInt bU ≤ 40) (e0_m_now : ∀ k : Nat, k = 17 → -1 ≤ Int32.toInt (rD k) ∧ Int32.toInt (rD k) ≤ SB) (e1_m_now : ∀ k : Nat, k = 19 → 0 ≤ Int32.toInt (rD k) ∧ Int32.toInt (rD k) ≤ 9) (h_m_x : ∀ k : Nat, 0 ≤ Int32.toInt (m_x k) ∧ Int32.toInt (m_x k) ≤ 99) (h_m_height : ∀ k : Nat, 0 ≤ Int32.toInt (jA k) ∧ Int32.toInt (jA k) ≤ 99) (h_m_worth : ∀ k : Nat, 0 ≤ Int32.toInt (pY k) ∧ Int32.toInt (pY k) ≤ 9) (h_m_ripe : ∀ k : Nat, 0 ≤ Int32.toInt (rW k) ∧ Int32.toInt (rW k) ≤ 9) (h_m_foot : ∀ k : Nat, 0 ≤ Int32.toInt (oY k) ∧ Int32.toInt (oY k) ≤ 99) (h_m_fork : ∀ k : Nat, 0 ≤ Int32.toInt (pR k) ∧ Int32.toInt (pR k) ≤ 99) (e0_m_told : ∀ k : Nat, k = 4 → 1 ≤ Int32.toInt (pX k) ∧ Int32.toInt (pX k) ≤ 30) (e1_m_told : ∀ k : Nat, k = 3 → 0 ≤ Int32.toInt (pX k) ∧ Int32.toInt (pX k) ≤ 9) (h_m_text : ∀ k : Nat, -128 ≤ Int32.toInt (rG k) ∧ Int32.toInt (rG k) ≤ 127) (h_m_rule : ∀ k : Nat, -128 ≤ Int32.toInt (rQ k) ∧ Int32.toInt (rQ k) ≤ 127) (hc0 : -1 ≤ SB ∧ SB ≤ 7) (hc1 : (Int32.toInt aG ≤ 0 ∧ SB = 0) ∨ (1 ≤ Int32.toInt aG ∧ SB = Int32.toInt aG - 1)) (hpost : ∀ (r : Int32) (m_rowMany' : Int32) (m_thrown' : Int32) (m_read' : Nat) (m_length' : Int32) (m_top' : Int32) (m_at' : Int32) (m_wrong' : Int32) (m_isAsked' : Int32) (m_askedFruit' : Int32) (m_askedStanding' : Int32) (m_askedHook' : Int32) (m_askedApron' : Int32) (m_wanted' : Int32) (m_workMoves' : Int32) (m_workPicks' : Int32) (m_workDowns' : Int32) (m_row' : Nat → Int32) (m_hand' : Nat → Int32) (m_moves' : Nat → Int32) (m_handSeconds' : Nat → Int32) (m_load' : Nat → Int32), (-1 ≤ Int32.toInt r ∧ Int32.toInt r ≤ 2147483647) → (0 ≤ Int32.toInt m_rowMany' ∧ Int32.toInt m_rowMany' ≤ 16) → (0 ≤ Int32.toInt m_thrown' ∧ Int32.toInt m_thrown' ≤ 0) → (m_read' = 0 ∨ m_read' = 1 ∨ m_read' = 2) → (0 ≤ Int32.toInt m_length' ∧ Int32.toInt m_length' ≤ 80) → (0 ≤ Int32.toInt m_top' ∧ Int32.toInt m_top' ≤ 80) → (0 ≤ Int32.toInt m_at' ∧ Int32.toInt m_at' ≤ 80) → (-1 ≤ Int32.toInt m_wrong' ∧ Int32.toInt m_wrong' ≤ 80) → (0 ≤ Int32.toInt m_isAsked' ∧ Int32.toInt m_isAsked' ≤ 0) → (0 ≤ Int32.toInt m_askedFruit' ∧ Int32.toInt m_askedFruit' ≤ 15) → (0 ≤ Int32.toInt m_askedStanding' ∧ Int32.toInt m_askedStanding' ≤ 7) → (0 ≤ Int32.toInt m_askedHook' ∧ Int32.toInt m_askedHook' ≤ 1) → (0 ≤ Int32.toInt m_askedApron' ∧ Int32.toInt m_askedApron' ≤ 63) → (0 ≤ Int32.toInt m_wanted' ∧ Int32.toInt m_wanted' ≤ 65535) → (0 ≤ Int32.toInt m_workMoves' ∧ Int32.toInt m_workMoves' ≤ 1000000) → (∀ k : Nat, 0 ≤ Int32.toInt (m_hand' k) ∧ Int32.toInt (m_hand' k) ≤ 65535) → (∀ k : Nat, 0 ≤ Int32.toInt (m_moves' k) ∧ Int32.toInt (m_moves' k) ≤ 1000000) → (∀ k : Nat, 0 ≤ Int32.toInt (m_handSeconds' k) ∧ Int32.toInt (m_handSeconds' k) ≤ 99) → post r m_rowMany' m_thrown' m_read' m_length' m_top' m_at' m_wrong' m_isAsked' m_askedFruit' m_askedStanding' m_askedHook' m_askedApron' m_wanted' m_workMoves' m_workPicks' m_workDowns' m_row' m_hand' m_moves' m_handSeconds' m_load') (hK40 : ∀ (x1 : Int32) (x2 : Int32) (x3 : Int32) (x4 : Int32) (x5 : Int32) (bQ : Int32) (dG : Int32) (jY : Nat) (m_length : Int32) (qG : Int32) (uW : Int32) (eY : Int32) (dN : Int32) (aR : Int32) (aE : Int32) (bJ : Int32) (aW : Int32) (dU : Int32) (bL : Int32) (bR : Int32) (bO : Int32) (uM : Nat → Int32) (tD : Nat → Int32) (uG : Nat → Int32) (nU : Nat → Int32) (vW : Nat → Int32), (0 ≤ Int32.toInt x1 ∧ Int32.toInt x1 ≤ 9999) → (-1 ≤ Int32.toInt x2 ∧ Int32.toInt x2 ≤ 255) → (-1 ≤ Int32.toInt x3 ∧ Int32.toInt x3 ≤ 2147483647) → (-2147483648 ≤ Int32.toInt x4 ∧ Int32.toInt x4 ≤ 9999) → (0 ≤ Int32.toInt x5 ∧ Int32.toInt x5 ≤ 256) → (0 ≤ Int32.toInt bQ ∧ Int32.toInt bQ ≤ 16) → (0 ≤ Int32.toInt dG ∧ Int32.toInt dG ≤ 0) → (jY = 0 ∨ jY = 1 ∨ jY = 2) → (0 ≤ Int32.toInt m_length ∧ Int32.toInt m_length ≤ 80) → (0 ≤ Int32.toInt qG ∧ Int32.toInt qG ≤ 80) → (0 ≤ Int32.toInt uW ∧ Int32.toInt uW ≤ 80) → (-1 ≤ Int32.toInt eY ∧ Int32.toInt eY ≤ 80) → (0 ≤ Int32.toInt dN ∧ Int32.toInt dN ≤ 0) → (0 ≤ Int32.toInt aR ∧ Int32.toInt aR ≤ 15) → (0 ≤ Int32.toInt aE ∧ Int32.toInt aE ≤ 7) → (0 ≤ Int32.toInt bJ ∧ Int32.toInt bJ ≤ 1) → (0 ≤ Int32.toInt aW ∧ Int32.toInt aW ≤ 63) → (0 ≤ Int32.toInt dU ∧ Int32.toInt dU ≤ 65535) → (0 ≤ Int32.toInt bL ∧ Int32.toInt bL ≤ 1000000) → (∀ k : Nat, 0 ≤ Int32.toInt (tD k) ∧ Int32.toInt (tD k) ≤ 65535) → (∀ k : Nat, 0 ≤ Int32.toInt (uG k) ∧ Int32.toInt (uG k) ≤ 1000000) → (∀ k : Nat, 0 ≤ Int32.toInt (nU k) ∧ Int32.toInt (nU k) ≤ 99) → (256 - Int32.toInt x5 < n40) → K40 x1 x2 x3 x4 x5 bQ dG jY m_length qG uW eY dN aR aE bJ aW dU bL bR bO uM tD uG nU vW) (x1 x5 x6 x7 bQ dG : Int32) (jY : Nat) (m_length qG uW eY dN aR aE bJ aW dU bL bR bO : Int32) (uM tD uG nU vW : Nat → Int32) (h_x1 : 0 ≤ Int32.toInt x1 ∧ Int32.toInt x1 ≤ 9999) (h_x5 : 0 ≤ Int32.toInt x5 ∧ Int32.toInt x5 ≤ 255) (h_x6 : -2147483648 ≤ Int32.toInt x6 ∧ Int32.toInt x6 ≤ 9999) (h_x7 : -1 ≤ Int32.toInt x7 ∧ Int32.toInt x7 ≤ 2147483647) (h_m_rowMany : 0 ≤ Int32.toInt bQ ∧ Int32.toInt bQ ≤ 16) (h_m_thrown : 0 ≤ Int32.toInt dG ∧ Int32.toInt dG ≤ 0) (h_m_read : jY = 0 ∨ jY = 1 ∨ jY = 2) (h_m_length : 0 ≤ Int32.toInt m_length ∧ Int32.toInt m_length ≤ 80) (h_m_top : 0 ≤ Int32.toInt qG ∧ Int32.toInt qG ≤ 80) (h_m_at : 0 ≤ Int32.toInt uW ∧ Int32.toInt uW ≤ 80) (h_m_wrong : -1 ≤ Int32.toInt eY ∧ Int32.toInt eY ≤ 80) (h_m_isAsked : 0 ≤ Int32.toInt dN ∧ Int32.toInt dN ≤ 0) (h_m_askedFruit : 0 ≤ Int32.toInt aR ∧ Int32.toInt aR ≤ 15) (h_m_askedStanding : 0 ≤ Int32.toInt aE ∧ Int32.toInt aE ≤ 7) (h_m_askedHook : 0 ≤ Int32.toInt bJ ∧ Int32.toInt bJ ≤ 1) (h_m_askedApron : 0 ≤ Int32.toInt aW ∧ Int32.toInt aW ≤ 63) (h_m_wanted : 0 ≤ Int32.toInt dU ∧ Int32.toInt dU ≤ 65535) (h_m_workMoves : 0 ≤ Int32.toInt bL ∧ Int32.toInt bL ≤ 1000000) (h_m_hand : ∀ k : Nat, 0 ≤ Int32.toInt (tD k) ∧ Int32.toInt (tD k) ≤ 65535) (h_m_moves : ∀ k : Nat, 0 ≤ Int32.toInt (uG k) ∧ Int32.toInt (uG k) ≤ 1000000) (h_m_handSeconds : ∀ k : Nat, 0 ≤ Int32.toInt (nU k) ∧ Int32.toInt (nU k) ≤ 99) (hn40 : 256 - Int32.toInt x5 ≤ n40) : ws_X10_sweep_112 post K40 bW aG bU rD m_x jA pY rW oY pR pX rG rQ x1 x5 x6 x7 bQ dG jY m_length qG uW eY dN aR aE bJ aW dU bL bR bO uM tD uG nU vW := by
  have f7 := tp_r x7
  have f8 := tp_r x6
  have f9 := tp_r bR
  have f10 := tp_r bO
  exact ts_X10_sweep_122 bW aG bU rD m_x jA pY rW oY pR pX rG rQ h_m_fruits h_m_standings h_m_ruleSize e0_m_now e1_m_now h_m_x h_m_height h_m_worth h_m_ripe h_m_foot h_m_fork e0_m_told e1_m_told h_m_text h_m_rule hc0 hc1 hpost hK40 x1 x5 x7 x6 x5 bQ dG jY m_length qG uW eY dN aR aE bJ aW dU bL bR bO uM tD uG nU vW h_x1 (by omega) h_x7 h_x6 h_x5 h_m_rowMany h_m_thrown h_m_read h_m_length h_m_top h_m_at h_m_wrong h_m_isAsked h_m_askedFruit h_m_askedStanding h_m_askedHook h_m_askedApron h_m_wanted h_m_workMoves h_m_hand h_m_moves h_m_handSeconds hn40
set_option maxHeartbeats 8000000 in
set_option maxRecDepth 200000 in
theorem ts_X10_sweep_40 {post : Int32 → Int32 → Int32 → Nat → Int32 → Int32 → Int32 → Int32 → Int32 → Int32 → Int32 → Int32 → Int32 → Int32 → Int32 → Int32 → Int32 → (Nat → Int32) → (Nat → Int32) → (Nat → Int32) → (Nat → Int32) → (Nat → Int32) → Prop} {SB : Int} {next : Int32 → Int32 → Int32 → Int32 → Int32 → Int32 → Int32 → Nat → Int32 → Int32 → Int32 → Int32 → Int32 → Int32 → Int32 → Int32 → Int32 → Int32 → Int32 → Int32 → Int32 → (Nat → Int32) → (Nat → Int32) → (Nat → Int32) → (Nat → Int32) → (Nat → Int32) → Prop} {n40 : Int} (bW aG bU : Int32) (rD m_x jA pY rW oY pR pX rG rQ : Nat → Int32) (h_m_fruits : 0 ≤ Int32.toInt bW ∧ Int32.toInt bW ≤ 16) (h_m_standings : 0 ≤ Int32.toInt aG ∧ Int32.toInt aG ≤ 8) (h_m_ruleSize : 0 ≤ Int32.toInt bU ∧ Int32.toInt bU ≤ 40) (e0_m_now : ∀ k : Nat, k = 17 → -1 ≤ Int32.toInt (rD k) ∧ Int32.toInt (rD k) ≤ SB) (e1_m_now : ∀ k : Nat, k = 19 → 0 ≤ Int32.toInt (rD k) ∧ Int32.toInt (rD k) ≤ 9) (h_m_x : ∀ k : Nat, 0 ≤ Int32.toInt (m_x k) ∧ Int32.toInt (m_x k) ≤ 99) (h_m_height : ∀ k : Nat, 0 ≤ Int32.toInt (jA k) ∧ Int32.toInt (jA k) ≤ 99) (h_m_worth : ∀ k : Nat, 0 ≤ Int32.toInt (pY k) ∧ Int32.toInt (pY k) ≤ 9) (h_m_ripe : ∀ k : Nat, 0 ≤ Int32.toInt (rW k) ∧ Int32.toInt (rW k) ≤ 9) (h_m_foot : ∀ k : Nat, 0 ≤ Int32.toInt (oY k) ∧ Int32.toInt (oY k) ≤ 99) (h_m_fork : ∀ k : Nat, 0 ≤ Int32.toInt (pR k) ∧ Int32.toInt (pR k) ≤ 99) (e0_m_told : ∀ k : Nat, k = 4 → 1 ≤ Int32.toInt (pX k) ∧ Int32.toInt (pX k) ≤ 30) (e1_m_told : ∀ k : Nat, k = 3 → 0 ≤ Int32.toInt (pX k) ∧ Int32.toInt (pX k) ≤ 9) (h_m_text : ∀ k : Nat, -128 ≤ Int32.toInt (rG k) ∧ Int32.toInt (rG k) ≤ 127) (h_m_rule : ∀ k : Nat, -128 ≤ Int32.toInt (rQ k) ∧ Int32.toInt (rQ k) ≤ 127) (hc0 : -1 ≤ SB ∧ SB ≤ 7) (hc1 : (Int32.toInt aG ≤ 0 ∧ SB = 0) ∨ (1 ≤ Int32.toInt aG ∧ SB = Int32.toInt aG - 1)) (hpost : ∀ (r : Int32) (m_rowMany' : Int32) (m_thrown' : Int32) (m_read' : Nat) (m_length' : Int32) (m_top' : Int32) (m_at' : Int32) (m_wrong' : Int32) (m_isAsked' : Int32) (m_askedFruit' : Int32) (m_askedStanding' : Int32) (m_askedHook' : Int32) (m_askedApron' : Int32) (m_wanted' : Int32) (m_workMoves' : Int32) (m_workPicks' : Int32) (m_workDowns' : Int32) (m_row' : Nat → Int32) (m_hand' : Nat → Int32) (m_moves' : Nat → Int32) (m_handSeconds' : Nat → Int32) (m_load' : Nat → Int32), (-1 ≤ Int32.toInt r ∧ Int32.toInt r ≤ 2147483647) → (0 ≤ Int32.toInt m_rowMany' ∧ Int32.toInt m_rowMany' ≤ 16) → (0 ≤ Int32.toInt m_thrown' ∧ Int32.toInt m_thrown' ≤ 0) → (m_read' = 0 ∨ m_read' = 1 ∨ m_read' = 2) → (0 ≤ Int32.toInt m_length' ∧ Int32.toInt m_length' ≤ 80) → (0 ≤ Int32.toInt m_top' ∧ Int32.toInt m_top' ≤ 80) → (0 ≤ Int32.toInt m_at' ∧ Int32.toInt m_at' ≤ 80) → (-1 ≤ Int32.toInt m_wrong' ∧ Int32.toInt m_wrong' ≤ 80) → (0 ≤ Int32.toInt m_isAsked' ∧ Int32.toInt m_isAsked' ≤ 0) → (0 ≤ Int32.toInt m_askedFruit' ∧ Int32.toInt m_askedFruit' ≤ 15) → (0 ≤ Int32.toInt m_askedStanding' ∧ Int32.toInt m_askedStanding' ≤ 7) → (0 ≤ Int32.toInt m_askedHook' ∧ Int32.toInt m_askedHook' ≤ 1) → (0 ≤ Int32.toInt m_askedApron' ∧ Int32.toInt m_askedApron' ≤ 63) → (0 ≤ Int32.toInt m_wanted' ∧ Int32.toInt m_wanted' ≤ 65535) → (0 ≤ Int32.toInt m_workMoves' ∧ Int32.toInt m_workMoves' ≤ 1000000) → (∀ k : Nat, 0 ≤ Int32.toInt (m_hand' k) ∧ Int32.toInt (m_hand' k) ≤ 65535) → (∀ k : Nat, 0 ≤ Int32.toInt (m_moves' k) ∧ Int32.toInt (m_moves' k) ≤ 1000000) → (∀ k : Nat, 0 ≤ Int32.toInt (m_handSeconds' k) ∧ Int32.toInt (m_handSeconds' k) ≤ 99) → post r m_rowMany' m_thrown' m_read' m_length' m_top' m_at' m_wrong' m_isAsked' m_askedFruit' m_askedStanding' m_askedHook' m_askedApron' m_wanted' m_workMoves' m_workPicks' m_workDowns' m_row' m_hand' m_moves' m_handSeconds' m_load') (hKn : ∀ (x1 : Int32) (x2 : Int32) (x3 : Int32) (x4 : Int32) (x5 : Int32) (bQ : Int32) (dG : Int32) (jY : Nat) (m_length : Int32) (qG : Int32) (uW : Int32) (eY : Int32) (dN : Int32) (aR : Int32) (aE : Int32) (bJ : Int32) (aW : Int32) (dU : Int32) (bL : Int32) (bR : Int32) (bO : Int32) (uM : Nat → Int32) (tD : Nat → Int32) (uG : Nat → Int32) (nU : Nat → Int32) (vW : Nat → Int32), (0 ≤ Int32.toInt x1 ∧ Int32.toInt x1 ≤ 9999) → (-1 ≤ Int32.toInt x2 ∧ Int32.toInt x2 ≤ 255) → (-1 ≤ Int32.toInt x3 ∧ Int32.toInt x3 ≤ 2147483647) → (-2147483648 ≤ Int32.toInt x4 ∧ Int32.toInt x4 ≤ 9999) → (0 ≤ Int32.toInt x5 ∧ Int32.toInt x5 ≤ 256) → (0 ≤ Int32.toInt bQ ∧ Int32.toInt bQ ≤ 16) → (0 ≤ Int32.toInt dG ∧ Int32.toInt dG ≤ 0) → (jY = 0 ∨ jY = 1 ∨ jY = 2) → (0 ≤ Int32.toInt m_length ∧ Int32.toInt m_length ≤ 80) → (0 ≤ Int32.toInt qG ∧ Int32.toInt qG ≤ 80) → (0 ≤ Int32.toInt uW ∧ Int32.toInt uW ≤ 80) → (-1 ≤ Int32.toInt eY ∧ Int32.toInt eY ≤ 80) → (0 ≤ Int32.toInt dN ∧ Int32.toInt dN ≤ 0) → (0 ≤ Int32.toInt aR ∧ Int32.toInt aR ≤ 15) → (0 ≤ Int32.toInt aE ∧ Int32.toInt aE ≤ 7) → (0 ≤ Int32.toInt bJ ∧ Int32.toInt bJ ≤ 1) → (0 ≤ Int32.toInt aW ∧ Int32.toInt aW ≤ 63) → (0 ≤ Int32.toInt dU ∧ Int32.toInt dU ≤ 65535) → (0 ≤ Int32.toInt bL ∧ Int32.toInt bL ≤ 1000000) → (∀ k : Nat, 0 ≤ Int32.toInt (tD k) ∧ Int32.toInt (tD k) ≤ 65535) → (∀ k : Nat, 0 ≤ Int32.toInt (uG k) ∧ Int32.toInt (uG k) ≤ 1000000) → (∀ k : Nat, 0 ≤ Int32.toInt (nU k) ∧ Int32.toInt (nU k) ≤ 99) → (256 - Int32.toInt x5 < n40) → next x1 x2 x3 x4 x5 bQ dG jY m_length qG uW eY dN aR aE bJ aW dU bL bR bO uM tD uG nU vW) (x1 x2 x3 x4 x5 bQ dG : Int32) (jY : Nat) (m_length qG uW eY dN aR aE bJ aW dU bL bR bO : Int32) (uM tD uG nU vW : Nat → Int32) (h_x1 : 0 ≤ Int32.toInt x1 ∧ Int32.toInt x1 ≤ 9999) (h_x2 : -1 ≤ Int32.toInt x2 ∧ Int32.toInt x2 ≤ 255) (h_x3 : -1 ≤ Int32.toInt x3 ∧ Int32.toInt x3 ≤ 2147483647) (h_x4 : -2147483648 ≤ Int32.toInt x4 ∧ Int32.toInt x4 ≤ 9999) (h_x5 : 0 ≤ Int32.toInt x5 ∧ Int32.toInt x5 ≤ 256) (h_m_rowMany : 0 ≤ Int32.toInt bQ ∧ Int32.toInt bQ ≤ 16) (h_m_thrown : 0 ≤ Int32.toInt dG ∧ Int32.toInt dG ≤ 0) (h_m_read : jY = 0 ∨ jY = 1 ∨ jY = 2) (h_m_length : 0 ≤ Int32.toInt m_length ∧ Int32.toInt m_length ≤ 80) (h_m_top : 0 ≤ Int32.toInt qG ∧ Int32.toInt qG ≤ 80) (h_m_at : 0 ≤ Int32.toInt uW ∧ Int32.toInt uW ≤ 80) (h_m_wrong : -1 ≤ Int32.toInt eY ∧ Int32.toInt eY ≤ 80) (h_m_isAsked : 0 ≤ Int32.toInt dN ∧ Int32.toInt dN ≤ 0) (h_m_askedFruit : 0 ≤ Int32.toInt aR ∧ Int32.toInt aR ≤ 15) (h_m_askedStanding : 0 ≤ Int32.toInt aE ∧ Int32.toInt aE ≤ 7) (h_m_askedHook : 0 ≤ Int32.toInt bJ ∧ Int32.toInt bJ ≤ 1) (h_m_askedApron : 0 ≤ Int32.toInt aW ∧ Int32.toInt aW ≤ 63) (h_m_wanted : 0 ≤ Int32.toInt dU ∧ Int32.toInt dU ≤ 65535) (h_m_workMoves : 0 ≤ Int32.toInt bL ∧ Int32.toInt bL ≤ 1000000) (h_m_hand : ∀ k : Nat, 0 ≤ Int32.toInt (tD k) ∧ Int32.toInt (tD k) ≤ 65535) (h_m_moves : ∀ k : Nat, 0 ≤ Int32.toInt (uG k) ∧ Int32.toInt (uG k) ≤ 1000000) (h_m_handSeconds : ∀ k : Nat, 0 ≤ Int32.toInt (nU k) ∧ Int32.toInt (nU k) ≤ 99) (hn40 : 256 - Int32.toInt x5 ≤ n40) : ws_X10_sweep_40 post next bW aG bU rD m_x jA pY rW oY pR pX rG rQ x1 x2 x3 x4 x5 bQ dG jY m_length qG uW eY dN aR aE bJ aW dU bL bR bO uM tD uG nU vW := by
  have l0 := li_0
  have l1 := li_1
  have l2 := li_16
  intro v11 ev11
  have f12 := ti_shl1 8 256 aG (by decide) (by omega)
  have hv11 := congrArg Int32.toInt ev11
  have f14 : Int32.toInt (v11 - 1) = Int32.toInt v11 - Int32.toInt (1 : Int32) := ta_sub _ _ (by omega)
  refine And.intro (fun c13 => ?_) (fun c13 => ?_)
  · skip
    have c13 := (fa_lt _ _).mp c13
    refine And.intro (t_in (by omega)) ?_
    intro v15 ev15
    have f16 : Int32.toInt (0 + 1) = Int32.toInt (0 : Int32) + Int32.toInt (1 : Int32) := ta_add _ _ (by omega)
    rw [← ev15] at f16
    refine And.intro (t_in (by omega)) ?_
    intro v17 ev17
    have f18 : Int32.toInt (v15 + 1) = Int32.toInt v15 + Int32.toInt (1 : Int32) := ta_add _ _ (by omega)
    rw [← ev17] at f18
    have f19 := tp_r x3
    exact hpost _ _ _ _ _ _ _ _ _ _ _ _ _ _ _ _ _ _ _ _ _ _ h_x3 (by omega) h_m_thrown h_m_read h_m_length h_m_top h_m_at h_m_wrong h_m_isAsked h_m_askedFruit h_m_askedStanding h_m_askedHook h_m_askedApron h_m_wanted h_m_workMoves h_m_hand h_m_moves h_m_handSeconds
  · skip
    have c13 := mt (fa_lt _ _).mpr c13
    refine t_X10_workOf (by omega) h_m_fruits h_m_standings h_m_wanted h_m_workMoves e0_m_now e1_m_now h_m_fork e0_m_told e1_m_told h_m_hand h_m_moves h_m_handSeconds (by omega) (by omega) (fun r24 aAf zJ zK aBG h_m_workMoves_20 => ?_)
    have f26 := tp_r r24
    refine And.intro (fun c25 => ?_) (fun c25 => ?_)
    · skip
      have c25 := (fa_le _ _).mp c25
      refine t_X10_handOf (by omega) h_m_standings h_m_hand (fun r27 h_r27 => ?_)
      intro v28 ev28
      have f29 := ti_andr dU r27 (by omega)
      have f30 := ti_andl dU r27 (by omega)
      have hv28 := congrArg Int32.toInt ev28
      intro v31 ev31
      have hv31 := congrArg Int32.toInt ev31
      refine t_X10_worthOfAll (by omega) h_m_fruits h_m_worth (fun r33 => ?_)
      have f35 := tp_r r33
      have f36 := tp_r x3
      refine And.intro (fun c34 => ?_) (fun c34 => ?_)
      · skip
        have c34 := (fa_lt _ _).mp c34
        have f37 := tp_r x4
        have f38 := tp_r zJ
        have f39 := tp_r zK
        exact ts_X10_sweep_122 bW aG bU rD m_x jA pY rW oY pR pX rG rQ h_m_fruits h_m_standings h_m_ruleSize e0_m_now e1_m_now h_m_x h_m_height h_m_worth h_m_ripe h_m_foot h_m_fork e0_m_told e1_m_told h_m_text h_m_rule hc0 hc1 hpost hKn x1 x2 x3 x4 x5 bQ dG jY m_length qG uW eY dN aR aE bJ aW dU aAf zJ zK uM tD uG nU aBG h_x1 h_x2 h_x3 h_x4 (by omega) h_m_rowMany h_m_thrown h_m_read h_m_length h_m_top h_m_at h_m_wrong h_m_isAsked h_m_askedFruit h_m_askedStanding h_m_askedHook h_m_askedApron h_m_wanted h_m_workMoves_20 h_m_hand h_m_moves h_m_handSeconds hn40
      · skip
        have c34 := mt (fa_lt _ _).mpr c34
        refine And.intro (fun c40 => ?_) (fun c40 => ?_)
        · skip
          have c40 := mt (fa_eq _ _).mpr c40
          have f41 := tp_r zJ
          have f42 := tp_r zK
          exact ts_X10_sweep_112 bW aG bU rD m_x jA pY rW oY pR pX rG rQ h_m_fruits h_m_standings h_m_ruleSize e0_m_now e1_m_now h_m_x h_m_height h_m_worth h_m_ripe h_m_foot h_m_fork e0_m_told e1_m_told h_m_text h_m_rule hc0 hc1 hpost hKn x1 x5 r24 r33 bQ dG jY m_length qG uW eY dN aR aE bJ aW dU aAf zJ zK uM tD uG nU aBG h_x1 (by omega) (by omega) (by omega) h_m_rowMany h_m_thrown h_m_read h_m_length h_m_top h_m_at h_m_wrong h_m_isAsked h_m_askedFruit h_m_askedStanding h_m_askedHook h_m_askedApron h_m_wanted h_m_workMoves_20 h_m_hand h_m_moves h_m_handSeconds hn40
        · skip
          have c40 := (fa_eq _ _).mp c40
          have f44 := tp_r x4
          refine And.intro (fun c43 => ?_) (fun c43 => ?_)
          · skip
            have c43 := (fa_lt _ _).mp c43
            have f45 := tp_r zJ
            have f46 := tp_r zK
            exact ts_X10_sweep_112 bW aG bU rD m_x jA pY rW oY pR pX rG rQ h_m_fruits h_m_standings h_m_ruleSize e0_m_now e1_m_now h_m_x h_m_height h_m_worth h_m_ripe h_m_foot h_m_fork e0_m_told e1_m_told h_m_text h_m_rule hc0 hc1 hpost hKn x1 x5 r24 r33 bQ dG jY m_length qG uW eY dN aR aE bJ aW dU aAf zJ zK uM tD uG nU aBG h_x1 (by omega) (by omega) (by omega) h_m_rowMany h_m_thrown h_m_read h_m_length h_m_top h_m_at h_m_wrong h_m_isAsked h_m_askedFruit h_m_askedStanding h_m_askedHook h_m_askedApron h_m_wanted h_m_workMoves_20 h_m_hand h_m_moves h_m_handSeconds hn40
          · skip
            have c43 := mt (fa_lt _ _).mpr c43
            have f47 := tp_r zJ
            have f48 := tp_r zK
            exact ts_X10_sweep_122 bW aG bU rD m_x jA pY rW oY pR pX rG rQ h_m_fruits h_m_standings h_m_ruleSize e0_m_now e1_m_now h_m_x h_m_height h_m_worth h_m_ripe h_m_foot h_m_fork e0_m_told e1_m_told h_m_text h_m_rule hc0 hc1 hpost hKn x1 x2 x3 x4 x5 bQ dG jY m_length qG uW eY dN aR aE bJ aW dU aAf zJ zK uM tD uG nU aBG h_x1 h_x2 h_x3 h_x4 (by omega) h_m_rowMany h_m_thrown h_m_read h_m_length h_m_top h_m_at h_m_wrong h_m_isAsked h_m_askedFruit h_m_askedStanding h_m_askedHook h_m_askedApron h_m_wanted h_m_workMoves_20 h_m_hand h_m_moves h_m_handSeconds hn40
    · skip
      have c25 := mt (fa_le _ _).mpr c25
      have f49 := tp_r x3
      have f50 := tp_r x4
      have f51 := tp_r zJ
      have f52 := tp_r zK
      exact ts_X10_sweep_122 bW aG bU rD m_x jA pY rW oY pR pX rG rQ h_m_fruits h_m_standings h_m_ruleSize e0_m_now e1_m_now h_m_x h_m_height h_m_worth h_m_ripe h_m_foot h_m_fork e0_m_told e1_m_told h_m_text h_m_rule hc0 hc1 hpost hKn x1 x2 x3 x4 x5 bQ dG jY m_length qG uW eY dN aR aE bJ aW dU aAf zJ zK uM tD uG nU aBG h_x1 h_x2 h_x3 h_x4 (by omega) h_m_rowMany h_m_thrown h_m_read h_m_length h_m_top h_m_at h_m_wrong h_m_isAsked h_m_askedFruit h_m_askedStanding h_m_askedHook h_m_askedApron h_m_wanted h_m_workMoves_20 h_m_hand h_m_moves h_m_handSeconds hn40
set_option maxHeartbeats 8000000 in
set_option maxRecDepth 200000 in
theorem tb_X10_sweep_40 {post : Int32 → Int32 → Int32 → Nat → Int32 → Int32 → Int32 → Int32 → Int32 → Int32 → Int32 → Int32 → Int32 → Int32 → Int32 → Int32 → Int32 → (Nat → Int32) → (Nat → Int32) → (Nat → Int32) → (Nat → Int32) → (Nat → Int32) → Prop} {SB : Int} (bW aG bU : Int32) (rD m_x jA pY rW oY pR pX rG rQ : Nat → Int32) (h_m_fruits : 0 ≤ Int32.toInt bW ∧ Int32.toInt bW ≤ 16) (h_m_standings : 0 ≤ Int32.toInt aG ∧ Int32.toInt aG ≤ 8) (h_m_ruleSize : 0 ≤ Int32.toInt bU ∧ Int32.toInt bU ≤ 40) (e0_m_now : ∀ k : Nat, k = 17 → -1 ≤ Int32.toInt (rD k) ∧ Int32.toInt (rD k) ≤ SB) (e1_m_now : ∀ k : Nat, k = 19 → 0 ≤ Int32.toInt (rD k) ∧ Int32.toInt (rD k) ≤ 9) (h_m_x : ∀ k : Nat, 0 ≤ Int32.toInt (m_x k) ∧ Int32.toInt (m_x k) ≤ 99) (h_m_height : ∀ k : Nat, 0 ≤ Int32.toInt (jA k) ∧ Int32.toInt (jA k) ≤ 99) (h_m_worth : ∀ k : Nat, 0 ≤ Int32.toInt (pY k) ∧ Int32.toInt (pY k) ≤ 9) (h_m_ripe : ∀ k : Nat, 0 ≤ Int32.toInt (rW k) ∧ Int32.toInt (rW k) ≤ 9) (h_m_foot : ∀ k : Nat, 0 ≤ Int32.toInt (oY k) ∧ Int32.toInt (oY k) ≤ 99) (h_m_fork : ∀ k : Nat, 0 ≤ Int32.toInt (pR k) ∧ Int32.toInt (pR k) ≤ 99) (e0_m_told : ∀ k : Nat, k = 4 → 1 ≤ Int32.toInt (pX k) ∧ Int32.toInt (pX k) ≤ 30) (e1_m_told : ∀ k : Nat, k = 3 → 0 ≤ Int32.toInt (pX k) ∧ Int32.toInt (pX k) ≤ 9) (h_m_text : ∀ k : Nat, -128 ≤ Int32.toInt (rG k) ∧ Int32.toInt (rG k) ≤ 127) (h_m_rule : ∀ k : Nat, -128 ≤ Int32.toInt (rQ k) ∧ Int32.toInt (rQ k) ≤ 127) (hc0 : -1 ≤ SB ∧ SB ≤ 7) (hc1 : (Int32.toInt aG ≤ 0 ∧ SB = 0) ∨ (1 ≤ Int32.toInt aG ∧ SB = Int32.toInt aG - 1)) (hpost : ∀ (r : Int32) (m_rowMany' : Int32) (m_thrown' : Int32) (m_read' : Nat) (m_length' : Int32) (m_top' : Int32) (m_at' : Int32) (m_wrong' : Int32) (m_isAsked' : Int32) (m_askedFruit' : Int32) (m_askedStanding' : Int32) (m_askedHook' : Int32) (m_askedApron' : Int32) (m_wanted' : Int32) (m_workMoves' : Int32) (m_workPicks' : Int32) (m_workDowns' : Int32) (m_row' : Nat → Int32) (m_hand' : Nat → Int32) (m_moves' : Nat → Int32) (m_handSeconds' : Nat → Int32) (m_load' : Nat → Int32), (-1 ≤ Int32.toInt r ∧ Int32.toInt r ≤ 2147483647) → (0 ≤ Int32.toInt m_rowMany' ∧ Int32.toInt m_rowMany' ≤ 16) → (0 ≤ Int32.toInt m_thrown' ∧ Int32.toInt m_thrown' ≤ 0) → (m_read' = 0 ∨ m_read' = 1 ∨ m_read' = 2) → (0 ≤ Int32.toInt m_length' ∧ Int32.toInt m_length' ≤ 80) → (0 ≤ Int32.toInt m_top' ∧ Int32.toInt m_top' ≤ 80) → (0 ≤ Int32.toInt m_at' ∧ Int32.toInt m_at' ≤ 80) → (-1 ≤ Int32.toInt m_wrong' ∧ Int32.toInt m_wrong' ≤ 80) → (0 ≤ Int32.toInt m_isAsked' ∧ Int32.toInt m_isAsked' ≤ 0) → (0 ≤ Int32.toInt m_askedFruit' ∧ Int32.toInt m_askedFruit' ≤ 15) → (0 ≤ Int32.toInt m_askedStanding' ∧ Int32.toInt m_askedStanding' ≤ 7) → (0 ≤ Int32.toInt m_askedHook' ∧ Int32.toInt m_askedHook' ≤ 1) → (0 ≤ Int32.toInt m_askedApron' ∧ Int32.toInt m_askedApron' ≤ 63) → (0 ≤ Int32.toInt m_wanted' ∧ Int32.toInt m_wanted' ≤ 65535) → (0 ≤ Int32.toInt m_workMoves' ∧ Int32.toInt m_workMoves' ≤ 1000000) → (∀ k : Nat, 0 ≤ Int32.toInt (m_hand' k) ∧ Int32.toInt (m_hand' k) ≤ 65535) → (∀ k : Nat, 0 ≤ Int32.toInt (m_moves' k) ∧ Int32.toInt (m_moves' k) ≤ 1000000) → (∀ k : Nat, 0 ≤ Int32.toInt (m_handSeconds' k) ∧ Int32.toInt (m_handSeconds' k) ≤ 99) → post r m_rowMany' m_thrown' m_read' m_length' m_top' m_at' m_wrong' m_isAsked' m_askedFruit' m_askedStanding' m_askedHook' m_askedApron' m_wanted' m_workMoves' m_workPicks' m_workDowns' m_row' m_hand' m_moves' m_handSeconds' m_load') : ∀ (n : Nat) (x1 x2 x3 x4 x5 bQ dG : Int32) (jY : Nat) (m_length qG uW eY dN aR aE bJ aW dU bL bR bO : Int32) (uM tD uG nU vW : Nat → Int32), (0 ≤ Int32.toInt x1 ∧ Int32.toInt x1 ≤ 9999) → (-1 ≤ Int32.toInt x2 ∧ Int32.toInt x2 ≤ 255) → (-1 ≤ Int32.toInt x3 ∧ Int32.toInt x3 ≤ 2147483647) → (-2147483648 ≤ Int32.toInt x4 ∧ Int32.toInt x4 ≤ 9999) → (0 ≤ Int32.toInt x5 ∧ Int32.toInt x5 ≤ 256) → (0 ≤ Int32.toInt bQ ∧ Int32.toInt bQ ≤ 16) → (0 ≤ Int32.toInt dG ∧ Int32.toInt dG ≤ 0) → (jY = 0 ∨ jY = 1 ∨ jY = 2) → (0 ≤ Int32.toInt m_length ∧ Int32.toInt m_length ≤ 80) → (0 ≤ Int32.toInt qG ∧ Int32.toInt qG ≤ 80) → (0 ≤ Int32.toInt uW ∧ Int32.toInt uW ≤ 80) → (-1 ≤ Int32.toInt eY ∧ Int32.toInt eY ≤ 80) → (0 ≤ Int32.toInt dN ∧ Int32.toInt dN ≤ 0) → (0 ≤ Int32.toInt aR ∧ Int32.toInt aR ≤ 15) → (0 ≤ Int32.toInt aE ∧ Int32.toInt aE ≤ 7) → (0 ≤ Int32.toInt bJ ∧ Int32.toInt bJ ≤ 1) → (0 ≤ Int32.toInt aW ∧ Int32.toInt aW ≤ 63) → (0 ≤ Int32.toInt dU ∧ Int32.toInt dU ≤ 65535) → (0 ≤ Int32.toInt bL ∧ Int32.toInt bL ≤ 1000000) → (∀ k : Nat, 0 ≤ Int32.toInt (tD k) ∧ Int32.toInt (tD k) ≤ 65535) → (∀ k : Nat, 0 ≤ Int32.toInt (uG k) ∧ Int32.toInt (uG k) ≤ 1000000) → (∀ k : Nat, 0 ≤ Int32.toInt (nU k) ∧ Int32.toInt (nU k) ≤ 99) → (256 - Int32.toInt x5 < (n : Int)) → wb_X10_sweep_40 post bW aG bU rD m_x jA pY rW oY pR pX rG rQ n x1 x2 x3 x4 x5 bQ dG jY m_length qG uW eY dN aR aE bJ aW dU bL bR bO uM tD uG nU vW := by
  intro n
  induction n with
  | zero =>
    intro x1 x2 x3 x4 x5 bQ dG jY m_length qG uW eY dN aR aE bJ aW dU bL bR bO uM tD uG nU vW h_x1 h_x2 h_x3 h_x4 h_x5 h_m_rowMany h_m_thrown h_m_read h_m_length h_m_top h_m_at h_m_wrong h_m_isAsked h_m_askedFruit h_m_askedStanding h_m_askedHook h_m_askedApron h_m_wanted h_m_workMoves h_m_hand h_m_moves h_m_handSeconds hm
    exfalso; omega
  | succ n ih =>
    intro x1 x2 x3 x4 x5 bQ dG jY m_length qG uW eY dN aR aE bJ aW dU bL bR bO uM tD uG nU vW h_x1 h_x2 h_x3 h_x4 h_x5 h_m_rowMany h_m_thrown h_m_read h_m_length h_m_top h_m_at h_m_wrong h_m_isAsked h_m_askedFruit h_m_askedStanding h_m_askedHook h_m_askedApron h_m_wanted h_m_workMoves h_m_hand h_m_moves h_m_handSeconds hm
    exact ts_X10_sweep_40 bW aG bU rD m_x jA pY rW oY pR pX rG rQ h_m_fruits h_m_standings h_m_ruleSize e0_m_now e1_m_now h_m_x h_m_height h_m_worth h_m_ripe h_m_foot h_m_fork e0_m_told e1_m_told h_m_text h_m_rule hc0 hc1 hpost ih x1 x2 x3 x4 x5 bQ dG jY m_length qG uW eY dN aR aE bJ aW dU bL bR bO uM tD uG nU vW h_x1 h_x2 h_x3 h_x4 h_x5 h_m_rowMany h_m_thrown h_m_read h_m_length h_m_top h_m_at h_m_wrong h_m_isAsked h_m_askedFruit h_m_askedStanding h_m_askedHook h_m_askedApron h_m_wanted h_m_workMoves h_m_hand h_m_moves h_m_handSeconds (by omega)
set_option maxHeartbeats 8000000 in
set_option maxRecDepth 200000 in
theorem t_X10_sweep {post : Int32 → Int32 → Int32 → Nat → Int32 → Int32 → Int32 → Int32 → Int32 → Int32 → Int32 → Int32 → Int32 → Int32 → Int32 → Int32 → Int32 → (Nat → Int32) → (Nat → Int32) → (Nat → Int32) → (Nat → Int32) → (Nat → Int32) → Prop} {SB : Int} {p0 bW aG bQ dG : Int32} {jY : Nat} {m_length qG uW eY bU dN aR aE bJ aW dU bL bR bO : Int32} {rD m_x jA pY rW oY pR pX rG uM rQ tD uG nU vW : Nat → Int32} (h_m_fruits : 0 ≤ Int32.toInt bW ∧ Int32.toInt bW ≤ 16) (h_m_standings : 0 ≤ Int32.toInt aG ∧ Int32.toInt aG ≤ 8) (h_m_rowMany : 0 ≤ Int32.toInt bQ ∧ Int32.toInt bQ ≤ 16) (h_m_thrown : 0 ≤ Int32.toInt dG ∧ Int32.toInt dG ≤ 1) (h_m_read : jY = 0 ∨ jY = 1 ∨ jY = 2) (h_m_length : 0 ≤ Int32.toInt m_length ∧ Int32.toInt m_length ≤ 80) (h_m_top : 0 ≤ Int32.toInt qG ∧ Int32.toInt qG ≤ 80) (h_m_at : 0 ≤ Int32.toInt uW ∧ Int32.toInt uW ≤ 80) (h_m_wrong : -1 ≤ Int32.toInt eY ∧ Int32.toInt eY ≤ 80) (h_m_ruleSize : 0 ≤ Int32.toInt bU ∧ Int32.toInt bU ≤ 40) (h_m_isAsked : 0 ≤ Int32.toInt dN ∧ Int32.toInt dN ≤ 0) (h_m_askedFruit : 0 ≤ Int32.toInt aR ∧ Int32.toInt aR ≤ 15) (h_m_askedStanding : 0 ≤ Int32.toInt aE ∧ Int32.toInt aE ≤ 7) (h_m_askedHook : 0 ≤ Int32.toInt bJ ∧ Int32.toInt bJ ≤ 1) (h_m_askedApron : 0 ≤ Int32.toInt aW ∧ Int32.toInt aW ≤ 63) (h_m_wanted : 0 ≤ Int32.toInt dU ∧ Int32.toInt dU ≤ 65535) (h_m_workMoves : 0 ≤ Int32.toInt bL ∧ Int32.toInt bL ≤ 1000000) (e0_m_now : ∀ k : Nat, k = 17 → -1 ≤ Int32.toInt (rD k) ∧ Int32.toInt (rD k) ≤ SB) (e1_m_now : ∀ k : Nat, k = 19 → 0 ≤ Int32.toInt (rD k) ∧ Int32.toInt (rD k) ≤ 9) (h_m_x : ∀ k : Nat, 0 ≤ Int32.toInt (m_x k) ∧ Int32.toInt (m_x k) ≤ 99) (h_m_height : ∀ k : Nat, 0 ≤ Int32.toInt (jA k) ∧ Int32.toInt (jA k) ≤ 99) (h_m_worth : ∀ k : Nat, 0 ≤ Int32.toInt (pY k) ∧ Int32.toInt (pY k) ≤ 9) (h_m_ripe : ∀ k : Nat, 0 ≤ Int32.toInt (rW k) ∧ Int32.toInt (rW k) ≤ 9) (h_m_foot : ∀ k : Nat, 0 ≤ Int32.toInt (oY k) ∧ Int32.toInt (oY k) ≤ 99) (h_m_fork : ∀ k : Nat, 0 ≤ Int32.toInt (pR k) ∧ Int32.toInt (pR k) ≤ 99) (e0_m_told : ∀ k : Nat, k = 4 → 1 ≤ Int32.toInt (pX k) ∧ Int32.toInt (pX k) ≤ 30) (e1_m_told : ∀ k : Nat, k = 3 → 0 ≤ Int32.toInt (pX k) ∧ Int32.toInt (pX k) ≤ 9) (h_m_text : ∀ k : Nat, -128 ≤ Int32.toInt (rG k) ∧ Int32.toInt (rG k) ≤ 127) (h_m_rule : ∀ k : Nat, -128 ≤ Int32.toInt (rQ k) ∧ Int32.toInt (rQ k) ≤ 127) (h_m_hand : ∀ k : Nat, 0 ≤ Int32.toInt (tD k) ∧ Int32.toInt (tD k) ≤ 65535) (h_m_moves : ∀ k : Nat, 0 ≤ Int32.toInt (uG k) ∧ Int32.toInt (uG k) ≤ 1000000) (h_m_handSeconds : ∀ k : Nat, 0 ≤ Int32.toInt (nU k) ∧ Int32.toInt (nU k) ≤ 99) (hc0 : -1 ≤ SB ∧ SB ≤ 7) (hc1 : (Int32.toInt aG ≤ 0 ∧ SB = 0) ∨ (1 ≤ Int32.toInt aG ∧ SB = Int32.toInt aG - 1)) (hpost : ∀ (r : Int32) (m_rowMany' : Int32) (m_thrown' : Int32) (m_read' : Nat) (m_length' : Int32) (m_top' : Int32) (m_at' : Int32) (m_wrong' : Int32) (m_isAsked' : Int32) (m_askedFruit' : Int32) (m_askedStanding' : Int32) (m_askedHook' : Int32) (m_askedApron' : Int32) (m_wanted' : Int32) (m_workMoves' : Int32) (m_workPicks' : Int32) (m_workDowns' : Int32) (m_row' : Nat → Int32) (m_hand' : Nat → Int32) (m_moves' : Nat → Int32) (m_handSeconds' : Nat → Int32) (m_load' : Nat → Int32), (-1 ≤ Int32.toInt r ∧ Int32.toInt r ≤ 2147483647) → (0 ≤ Int32.toInt m_rowMany' ∧ Int32.toInt m_rowMany' ≤ 16) → (0 ≤ Int32.toInt m_thrown' ∧ Int32.toInt m_thrown' ≤ 0) → (m_read' = 0 ∨ m_read' = 1 ∨ m_read' = 2) → (0 ≤ Int32.toInt m_length' ∧ Int32.toInt m_length' ≤ 80) → (0 ≤ Int32.toInt m_top' ∧ Int32.toInt m_top' ≤ 80) → (0 ≤ Int32.toInt m_at' ∧ Int32.toInt m_at' ≤ 80) → (-1 ≤ Int32.toInt m_wrong' ∧ Int32.toInt m_wrong' ≤ 80) → (0 ≤ Int32.toInt m_isAsked' ∧ Int32.toInt m_isAsked' ≤ 0) → (0 ≤ Int32.toInt m_askedFruit' ∧ Int32.toInt m_askedFruit' ≤ 15) → (0 ≤ Int32.toInt m_askedStanding' ∧ Int32.toInt m_askedStanding' ≤ 7) → (0 ≤ Int32.toInt m_askedHook' ∧ Int32.toInt m_askedHook' ≤ 1) → (0 ≤ Int32.toInt m_askedApron' ∧ Int32.toInt m_askedApron' ≤ 63) → (0 ≤ Int32.toInt m_wanted' ∧ Int32.toInt m_wanted' ≤ 65535) → (0 ≤ Int32.toInt m_workMoves' ∧ Int32.toInt m_workMoves' ≤ 1000000) → (∀ k : Nat, 0 ≤ Int32.toInt (m_hand' k) ∧ Int32.toInt (m_hand' k) ≤ 65535) → (∀ k : Nat, 0 ≤ Int32.toInt (m_moves' k) ∧ Int32.toInt (m_moves' k) ≤ 1000000) → (∀ k : Nat, 0 ≤ Int32.toInt (m_handSeconds' k) ∧ Int32.toInt (m_handSeconds' k) ≤ 99) → post r m_rowMany' m_thrown' m_read' m_length' m_top' m_at' m_wrong' m_isAsked' m_askedFruit' m_askedStanding' m_askedHook' m_askedApron' m_wanted' m_workMoves' m_workPicks' m_workDowns' m_row' m_hand' m_moves' m_handSeconds' m_load') : wp_X10_sweep post p0 bW aG bQ dG jY m_length qG uW eY bU dN aR aE bJ aW dU bL bR bO rD m_x jA pY rW oY pR pX rG uM rQ tD uG nU vW := by
  have l0 := li_m1
  have l1 := li_0
  have l2 := li_18
  have l3 := li_9999
  have f54 := tp_r p0
  refine And.intro (fun c53 => ?_) (fun c53 => ?_)
  · skip
    have c53 := (fa_lt _ _).mp c53
    refine And.intro (fun h9 => absurd h9 (by decide)) (fun _ => ?_)
    exact hpost _ _ _ _ _ _ _ _ _ _ _ _ _ _ _ _ _ _ _ _ _ _ (by omega) h_m_rowMany (by omega) h_m_read h_m_length h_m_top h_m_at h_m_wrong h_m_isAsked h_m_askedFruit h_m_askedStanding h_m_askedHook h_m_askedApron h_m_wanted h_m_workMoves h_m_hand h_m_moves h_m_handSeconds
  · skip
    have c53 := mt (fa_lt _ _).mpr c53
    refine And.intro (fun c55 => ?_) (fun c55 => ?_)
    · skip
      have c55 := (fa_lt _ _).mp c55
      refine And.intro (fun h9 => absurd h9 (by decide)) (fun _ => ?_)
      exact hpost _ _ _ _ _ _ _ _ _ _ _ _ _ _ _ _ _ _ _ _ _ _ (by omega) h_m_rowMany (by omega) h_m_read h_m_length h_m_top h_m_at h_m_wrong h_m_isAsked h_m_askedFruit h_m_askedStanding h_m_askedHook h_m_askedApron h_m_wanted h_m_workMoves h_m_hand h_m_moves h_m_handSeconds
    · skip
      have c55 := mt (fa_lt _ _).mpr c55
      refine And.intro (fun _ => ?_) (fun h9 => absurd h9 (by decide))
      intro v56 ev56
      have hv56 := congrArg Int32.toInt ev56
      refine t_X10_layHands_ h_m_fruits h_m_standings h_m_wanted e0_m_now e1_m_now h_m_x h_m_height h_m_ripe h_m_foot h_m_fork e0_m_told e1_m_told h_m_hand (by omega) (by omega) (fun m_wanted_58 m_hand_59 h_m_wanted_58 h_m_hand_59 => ?_)
      refine t_X10_layMoves h_m_standings h_m_foot e0_m_told e1_m_told h_m_moves (fun m_moves_60 h_m_moves_60 ox61 => ?_)
      refine t_X10_laySeconds h_m_fruits h_m_standings h_m_read h_m_length h_m_top h_m_at h_m_wrong h_m_ruleSize h_m_isAsked h_m_askedFruit h_m_askedStanding h_m_askedHook h_m_askedApron h_m_x h_m_height h_m_worth h_m_foot h_m_fork h_m_text h_m_rule h_m_handSeconds (fun m_read_62 m_length_63 m_top_64 m_at_65 m_wrong_66 m_isAsked_67 m_askedFruit_68 m_askedStanding_69 m_askedHook_70 m_askedApron_71 m_handSeconds_72 h_m_read_62 h_m_length_63 h_m_top_64 h_m_at_65 h_m_wrong_66 h_m_isAsked_67 h_m_askedFruit_68 h_m_askedStanding_69 h_m_askedHook_70 h_m_askedApron_71 h_m_handSeconds_72 => ?_)
      have f73 := tp_r bR
      have f74 := tp_r bO
      exact ⟨258, tb_X10_sweep_40 bW aG bU rD m_x jA pY rW oY pR pX rG rQ h_m_fruits h_m_standings h_m_ruleSize e0_m_now e1_m_now h_m_x h_m_height h_m_worth h_m_ripe h_m_foot h_m_fork e0_m_told e1_m_told h_m_text h_m_rule hc0 hc1 hpost _ p0 (-1) (-1) 0 0 bQ 0 m_read_62 m_length_63 m_top_64 m_at_65 m_wrong_66 m_isAsked_67 m_askedFruit_68 m_askedStanding_69 m_askedHook_70 m_askedApron_71 m_wanted_58 bL bR bO uM m_hand_59 m_moves_60 m_handSeconds_72 vW (by omega) (by omega) (by omega) (by omega) (by omega) h_m_rowMany (by omega) h_m_read_62 h_m_length_63 h_m_top_64 h_m_at_65 h_m_wrong_66 h_m_isAsked_67 h_m_askedFruit_68 h_m_askedStanding_69 h_m_askedHook_70 h_m_askedApron_71 h_m_wanted_58 h_m_workMoves h_m_hand_59 h_m_moves_60 h_m_handSeconds_72 (by omega)⟩
set_option maxHeartbeats 8000000 in
set_option maxRecDepth 200000 in
theorem ts_X10_dusk_233 {post : Int32 → Int32 → Int32 → Nat → Int32 → Int32 → Int32 → Int32 → Int32 → Int32 → Int32 → Int32 → Int32 → (Nat → Int32) → (Nat → Int32) → Prop} {SB : Int} {K96 : Int32 → Int32 → Int32 → Int32 → Int32 → Int32 → Int32 → Int32 → Nat → Int32 → Int32 → Int32 → Int32 → Int32 → Int32 → Int32 → Int32 → Int32 → (Nat → Int32) → (Nat → Int32) → Prop} {n96 : Int} (bW bU : Int32) (rD m_x jA pY rW oY pR pX rG rQ : Nat → Int32) (h_m_fruits : 0 ≤ Int32.toInt bW ∧ Int32.toInt bW ≤ 16) (h_m_ruleSize : 0 ≤ Int32.toInt bU ∧ Int32.toInt bU ≤ 40) (e0_m_now : ∀ k : Nat, k = 17 → -1 ≤ Int32.toInt (rD k) ∧ Int32.toInt (rD k) ≤ SB) (e1_m_now : ∀ k : Nat, k = 19 → 0 ≤ Int32.toInt (rD k) ∧ Int32.toInt (rD k) ≤ 9) (h_m_x : ∀ k : Nat, 0 ≤ Int32.toInt (m_x k) ∧ Int32.toInt (m_x k) ≤ 99) (h_m_height : ∀ k : Nat, 0 ≤ Int32.toInt (jA k) ∧ Int32.toInt (jA k) ≤ 99) (h_m_worth : ∀ k : Nat, 0 ≤ Int32.toInt (pY k) ∧ Int32.toInt (pY k) ≤ 9) (h_m_ripe : ∀ k : Nat, 0 ≤ Int32.toInt (rW k) ∧ Int32.toInt (rW k) ≤ 9) (h_m_foot : ∀ k : Nat, 0 ≤ Int32.toInt (oY k) ∧ Int32.toInt (oY k) ≤ 99) (h_m_fork : ∀ k : Nat, 0 ≤ Int32.toInt (pR k) ∧ Int32.toInt (pR k) ≤ 99) (e0_m_told : ∀ k : Nat, k = 4 → 1 ≤ Int32.toInt (pX k) ∧ Int32.toInt (pX k) ≤ 30) (e1_m_told : ∀ k : Nat, k = 3 → 0 ≤ Int32.toInt (pX k) ∧ Int32.toInt (pX k) ≤ 9) (h_m_text : ∀ k : Nat, -128 ≤ Int32.toInt (rG k) ∧ Int32.toInt (rG k) ≤ 127) (h_m_rule : ∀ k : Nat, -128 ≤ Int32.toInt (rQ k) ∧ Int32.toInt (rQ k) ≤ 127) (hc0 : -1 ≤ SB ∧ SB ≤ 7) (hpost : ∀ (r : Int32) (m_rowMany' : Int32) (m_thrown' : Int32) (m_read' : Nat) (m_length' : Int32) (m_top' : Int32) (m_at' : Int32) (m_wrong' : Int32) (m_isAsked' : Int32) (m_askedFruit' : Int32) (m_askedStanding' : Int32) (m_askedHook' : Int32) (m_askedApron' : Int32) (m_row' : Nat → Int32) (m_handSeconds' : Nat → Int32), (-2 ≤ Int32.toInt r ∧ Int32.toInt r ≤ 2147483647) → (0 ≤ Int32.toInt m_rowMany' ∧ Int32.toInt m_rowMany' ≤ 16) → (0 ≤ Int32.toInt m_thrown' ∧ Int32.toInt m_thrown' ≤ 0) → (m_read' = 0 ∨ m_read' = 1 ∨ m_read' = 2) → (0 ≤ Int32.toInt m_length' ∧ Int32.toInt m_length' ≤ 80) → (0 ≤ Int32.toInt m_top' ∧ Int32.toInt m_top' ≤ 80) → (0 ≤ Int32.toInt m_at' ∧ Int32.toInt m_at' ≤ 80) → (-1 ≤ Int32.toInt m_wrong' ∧ Int32.toInt m_wrong' ≤ 80) → (0 ≤ Int32.toInt m_isAsked' ∧ Int32.toInt m_isAsked' ≤ 0) → (0 ≤ Int32.toInt m_askedFruit' ∧ Int32.toInt m_askedFruit' ≤ 15) → (0 ≤ Int32.toInt m_askedStanding' ∧ Int32.toInt m_askedStanding' ≤ 7) → (0 ≤ Int32.toInt m_askedHook' ∧ Int32.toInt m_askedHook' ≤ 1) → (0 ≤ Int32.toInt m_askedApron' ∧ Int32.toInt m_askedApron' ≤ 63) → (∀ k : Nat, 0 ≤ Int32.toInt (m_handSeconds' k) ∧ Int32.toInt (m_handSeconds' k) ≤ 99) → post r m_rowMany' m_thrown' m_read' m_length' m_top' m_at' m_wrong' m_isAsked' m_askedFruit' m_askedStanding' m_askedHook' m_askedApron' m_row' m_handSeconds') (hK96 : ∀ (x1 : Int32) (x2 : Int32) (x3 : Int32) (x4 : Int32) (x5 : Int32) (x6 : Int32) (bQ : Int32) (dG : Int32) (jY : Nat) (m_length : Int32) (qG : Int32) (uW : Int32) (eY : Int32) (dN : Int32) (aR : Int32) (aE : Int32) (bJ : Int32) (aW : Int32) (uM : Nat → Int32) (nU : Nat → Int32), (0 ≤ Int32.toInt x1 ∧ Int32.toInt x1 ≤ 300) → (0 ≤ Int32.toInt x2 ∧ Int32.toInt x2 ≤ 65535) → (0 ≤ Int32.toInt x3 ∧ Int32.toInt x3 ≤ 65535) → (0 ≤ Int32.toInt x4 ∧ Int32.toInt x4 ≤ 2147483647) → (0 ≤ Int32.toInt x5 ∧ Int32.toInt x5 ≤ 300) → (0 ≤ Int32.toInt x6 ∧ Int32.toInt x6 ≤ 65535) → (0 ≤ Int32.toInt bQ ∧ Int32.toInt bQ ≤ 16) → (0 ≤ Int32.toInt dG ∧ Int32.toInt dG ≤ 0) → (jY = 0 ∨ jY = 1 ∨ jY = 2) → (0 ≤ Int32.toInt m_length ∧ Int32.toInt m_length ≤ 80) → (0 ≤ Int32.toInt qG ∧ Int32.toInt qG ≤ 80) → (0 ≤ Int32.toInt uW ∧ Int32.toInt uW ≤ 80) → (-1 ≤ Int32.toInt eY ∧ Int32.toInt eY ≤ 80) → (0 ≤ Int32.toInt dN ∧ Int32.toInt dN ≤ 0) → (0 ≤ Int32.toInt aR ∧ Int32.toInt aR ≤ 15) → (0 ≤ Int32.toInt aE ∧ Int32.toInt aE ≤ 7) → (0 ≤ Int32.toInt bJ ∧ Int32.toInt bJ ≤ 1) → (0 ≤ Int32.toInt aW ∧ Int32.toInt aW ≤ 63) → (∀ k : Nat, 0 ≤ Int32.toInt (nU k) ∧ Int32.toInt (nU k) ≤ 99) → (Int32.toInt x6 < n96) → K96 x1 x2 x3 x4 x5 x6 bQ dG jY m_length qG uW eY dN aR aE bJ aW uM nU) (x1 x2 x3 x4 x5 x6 bQ dG : Int32) (jY : Nat) (m_length qG uW eY dN aR aE bJ aW : Int32) (uM nU : Nat → Int32) (h_x1 : 0 ≤ Int32.toInt x1 ∧ Int32.toInt x1 ≤ 300) (h_x2 : 0 ≤ Int32.toInt x2 ∧ Int32.toInt x2 ≤ 65535) (h_x3 : 0 ≤ Int32.toInt x3 ∧ Int32.toInt x3 ≤ 65535) (h_x4 : 0 ≤ Int32.toInt x4 ∧ Int32.toInt x4 ≤ 2147483647) (h_x5 : 0 ≤ Int32.toInt x5 ∧ Int32.toInt x5 ≤ 300) (h_x6 : 1 ≤ Int32.toInt x6 ∧ Int32.toInt x6 ≤ 65535) (h_m_rowMany : 0 ≤ Int32.toInt bQ ∧ Int32.toInt bQ ≤ 16) (h_m_thrown : 0 ≤ Int32.toInt dG ∧ Int32.toInt dG ≤ 0) (h_m_read : jY = 0 ∨ jY = 1 ∨ jY = 2) (h_m_length : 0 ≤ Int32.toInt m_length ∧ Int32.toInt m_length ≤ 80) (h_m_top : 0 ≤ Int32.toInt qG ∧ Int32.toInt qG ≤ 80) (h_m_at : 0 ≤ Int32.toInt uW ∧ Int32.toInt uW ≤ 80) (h_m_wrong : -1 ≤ Int32.toInt eY ∧ Int32.toInt eY ≤ 80) (h_m_isAsked : 0 ≤ Int32.toInt dN ∧ Int32.toInt dN ≤ 0) (h_m_askedFruit : 0 ≤ Int32.toInt aR ∧ Int32.toInt aR ≤ 15) (h_m_askedStanding : 0 ≤ Int32.toInt aE ∧ Int32.toInt aE ≤ 7) (h_m_askedHook : 0 ≤ Int32.toInt bJ ∧ Int32.toInt bJ ≤ 1) (h_m_askedApron : 0 ≤ Int32.toInt aW ∧ Int32.toInt aW ≤ 63) (h_m_handSeconds : ∀ k : Nat, 0 ≤ Int32.toInt (nU k) ∧ Int32.toInt (nU k) ≤ 99) (hn96 : Int32.toInt x6 ≤ n96) : ws_X10_dusk_233 post K96 bW bU rD m_x jA pY rW oY pR pX rG rQ x1 x2 x3 x4 x5 x6 bQ dG jY m_length qG uW eY dN aR aE bJ aW uM nU := by
  have l0 := li_1
  intro v1 ev1
  have f2 : Int32.toInt (x6 - 1) = Int32.toInt x6 - Int32.toInt (1 : Int32) := ta_sub _ _ (by omega)
  rw [← ev1] at f2
  intro v3 ev3
  have f4 := ti_andr v1 x2 (by omega)
  have f5 := ti_andl v1 x2 (by omega)
  have hv3 := congrArg Int32.toInt ev3
  have f6 := tp_r x4
  exact hK96 x1 x2 x3 x4 x5 v3 bQ dG jY m_length qG uW eY dN aR aE bJ aW uM nU h_x1 h_x2 h_x3 h_x4 h_x5 (by omega) h_m_rowMany h_m_thrown h_m_read h_m_length h_m_top h_m_at h_m_wrong h_m_isAsked h_m_askedFruit h_m_askedStanding h_m_askedHook h_m_askedApron h_m_handSeconds (by omega)
set_option maxHeartbeats 8000000 in
set_option maxRecDepth 200000 in
theorem ts_X10_dusk_222 {post : Int32 → Int32 → Int32 → Nat → Int32 → Int32 → Int32 → Int32 → Int32 → Int32 → Int32 → Int32 → Int32 → (Nat → Int32) → (Nat → Int32) → Prop} {SB : Int} {K96 : Int32 → Int32 → Int32 → Int32 → Int32 → Int32 → Int32 → Int32 → Nat → Int32 → Int32 → Int32 → Int32 → Int32 → Int32 → Int32 → Int32 → Int32 → (Nat → Int32) → (Nat → Int32) → Prop} {n96 : Int} (bW bU : Int32) (rD m_x jA pY rW oY pR pX rG rQ : Nat → Int32) (h_m_fruits : 0 ≤ Int32.toInt bW ∧ Int32.toInt bW ≤ 16) (h_m_ruleSize : 0 ≤ Int32.toInt bU ∧ Int32.toInt bU ≤ 40) (e0_m_now : ∀ k : Nat, k = 17 → -1 ≤ Int32.toInt (rD k) ∧ Int32.toInt (rD k) ≤ SB) (e1_m_now : ∀ k : Nat, k = 19 → 0 ≤ Int32.toInt (rD k) ∧ Int32.toInt (rD k) ≤ 9) (h_m_x : ∀ k : Nat, 0 ≤ Int32.toInt (m_x k) ∧ Int32.toInt (m_x k) ≤ 99) (h_m_height : ∀ k : Nat, 0 ≤ Int32.toInt (jA k) ∧ Int32.toInt (jA k) ≤ 99) (h_m_worth : ∀ k : Nat, 0 ≤ Int32.toInt (pY k) ∧ Int32.toInt (pY k) ≤ 9) (h_m_ripe : ∀ k : Nat, 0 ≤ Int32.toInt (rW k) ∧ Int32.toInt (rW k) ≤ 9) (h_m_foot : ∀ k : Nat, 0 ≤ Int32.toInt (oY k) ∧ Int32.toInt (oY k) ≤ 99) (h_m_fork : ∀ k : Nat, 0 ≤ Int32.toInt (pR k) ∧ Int32.toInt (pR k) ≤ 99) (e0_m_told : ∀ k : Nat, k = 4 → 1 ≤ Int32.toInt (pX k) ∧ Int32.toInt (pX k) ≤ 30) (e1_m_told : ∀ k : Nat, k = 3 → 0 ≤ Int32.toInt (pX k) ∧ Int32.toInt (pX k) ≤ 9) (h_m_text : ∀ k : Nat, -128 ≤ Int32.toInt (rG k) ∧ Int32.toInt (rG k) ≤ 127) (h_m_rule : ∀ k : Nat, -128 ≤ Int32.toInt (rQ k) ∧ Int32.toInt (rQ k) ≤ 127) (hc0 : -1 ≤ SB ∧ SB ≤ 7) (hpost : ∀ (r : Int32) (m_rowMany' : Int32) (m_thrown' : Int32) (m_read' : Nat) (m_length' : Int32) (m_top' : Int32) (m_at' : Int32) (m_wrong' : Int32) (m_isAsked' : Int32) (m_askedFruit' : Int32) (m_askedStanding' : Int32) (m_askedHook' : Int32) (m_askedApron' : Int32) (m_row' : Nat → Int32) (m_handSeconds' : Nat → Int32), (-2 ≤ Int32.toInt r ∧ Int32.toInt r ≤ 2147483647) → (0 ≤ Int32.toInt m_rowMany' ∧ Int32.toInt m_rowMany' ≤ 16) → (0 ≤ Int32.toInt m_thrown' ∧ Int32.toInt m_thrown' ≤ 0) → (m_read' = 0 ∨ m_read' = 1 ∨ m_read' = 2) → (0 ≤ Int32.toInt m_length' ∧ Int32.toInt m_length' ≤ 80) → (0 ≤ Int32.toInt m_top' ∧ Int32.toInt m_top' ≤ 80) → (0 ≤ Int32.toInt m_at' ∧ Int32.toInt m_at' ≤ 80) → (-1 ≤ Int32.toInt m_wrong' ∧ Int32.toInt m_wrong' ≤ 80) → (0 ≤ Int32.toInt m_isAsked' ∧ Int32.toInt m_isAsked' ≤ 0) → (0 ≤ Int32.toInt m_askedFruit' ∧ Int32.toInt m_askedFruit' ≤ 15) → (0 ≤ Int32.toInt m_askedStanding' ∧ Int32.toInt m_askedStanding' ≤ 7) → (0 ≤ Int32.toInt m_askedHook' ∧ Int32.toInt m_askedHook' ≤ 1) → (0 ≤ Int32.toInt m_askedApron' ∧ Int32.toInt m_askedApron' ≤ 63) → (∀ k : Nat, 0 ≤ Int32.toInt (m_handSeconds' k) ∧ Int32.toInt (m_handSeconds' k) ≤ 99) → post r m_rowMany' m_thrown' m_read' m_length' m_top' m_at' m_wrong' m_isAsked' m_askedFruit' m_askedStanding' m_askedHook' m_askedApron' m_row' m_handSeconds') (hK96 : ∀ (x1 : Int32) (x2 : Int32) (x3 : Int32) (x4 : Int32) (x5 : Int32) (x6 : Int32) (bQ : Int32) (dG : Int32) (jY : Nat) (m_length : Int32) (qG : Int32) (uW : Int32) (eY : Int32) (dN : Int32) (aR : Int32) (aE : Int32) (bJ : Int32) (aW : Int32) (uM : Nat → Int32) (nU : Nat → Int32), (0 ≤ Int32.toInt x1 ∧ Int32.toInt x1 ≤ 300) → (0 ≤ Int32.toInt x2 ∧ Int32.toInt x2 ≤ 65535) → (0 ≤ Int32.toInt x3 ∧ Int32.toInt x3 ≤ 65535) → (0 ≤ Int32.toInt x4 ∧ Int32.toInt x4 ≤ 2147483647) → (0 ≤ Int32.toInt x5 ∧ Int32.toInt x5 ≤ 300) → (0 ≤ Int32.toInt x6 ∧ Int32.toInt x6 ≤ 65535) → (0 ≤ Int32.toInt bQ ∧ Int32.toInt bQ ≤ 16) → (0 ≤ Int32.toInt dG ∧ Int32.toInt dG ≤ 0) → (jY = 0 ∨ jY = 1 ∨ jY = 2) → (0 ≤ Int32.toInt m_length ∧ Int32.toInt m_length ≤ 80) → (0 ≤ Int32.toInt qG ∧ Int32.toInt qG ≤ 80) → (0 ≤ Int32.toInt uW ∧ Int32.toInt uW ≤ 80) → (-1 ≤ Int32.toInt eY ∧ Int32.toInt eY ≤ 80) → (0 ≤ Int32.toInt dN ∧ Int32.toInt dN ≤ 0) → (0 ≤ Int32.toInt aR ∧ Int32.toInt aR ≤ 15) → (0 ≤ Int32.toInt aE ∧ Int32.toInt aE ≤ 7) → (0 ≤ Int32.toInt bJ ∧ Int32.toInt bJ ≤ 1) → (0 ≤ Int32.toInt aW ∧ Int32.toInt aW ≤ 63) → (∀ k : Nat, 0 ≤ Int32.toInt (nU k) ∧ Int32.toInt (nU k) ≤ 99) → (Int32.toInt x6 < n96) → K96 x1 x2 x3 x4 x5 x6 bQ dG jY m_length qG uW eY dN aR aE bJ aW uM nU) (x1 x2 x6 x7 x8 bQ dG : Int32) (jY : Nat) (m_length qG uW eY dN aR aE bJ aW : Int32) (uM nU : Nat → Int32) (h_x1 : 0 ≤ Int32.toInt x1 ∧ Int32.toInt x1 ≤ 300) (h_x2 : 0 ≤ Int32.toInt x2 ∧ Int32.toInt x2 ≤ 65535) (h_x6 : 1 ≤ Int32.toInt x6 ∧ Int32.toInt x6 ≤ 65535) (h_x7 : 0 ≤ Int32.toInt x7 ∧ Int32.toInt x7 ≤ 300) (h_x8 : 0 ≤ Int32.toInt x8 ∧ Int32.toInt x8 ≤ 2147483647) (h_m_rowMany : 0 ≤ Int32.toInt bQ ∧ Int32.toInt bQ ≤ 16) (h_m_thrown : 0 ≤ Int32.toInt dG ∧ Int32.toInt dG ≤ 0) (h_m_read : jY = 0 ∨ jY = 1 ∨ jY = 2) (h_m_length : 0 ≤ Int32.toInt m_length ∧ Int32.toInt m_length ≤ 80) (h_m_top : 0 ≤ Int32.toInt qG ∧ Int32.toInt qG ≤ 80) (h_m_at : 0 ≤ Int32.toInt uW ∧ Int32.toInt uW ≤ 80) (h_m_wrong : -1 ≤ Int32.toInt eY ∧ Int32.toInt eY ≤ 80) (h_m_isAsked : 0 ≤ Int32.toInt dN ∧ Int32.toInt dN ≤ 0) (h_m_askedFruit : 0 ≤ Int32.toInt aR ∧ Int32.toInt aR ≤ 15) (h_m_askedStanding : 0 ≤ Int32.toInt aE ∧ Int32.toInt aE ≤ 7) (h_m_askedHook : 0 ≤ Int32.toInt bJ ∧ Int32.toInt bJ ≤ 1) (h_m_askedApron : 0 ≤ Int32.toInt aW ∧ Int32.toInt aW ≤ 63) (h_m_handSeconds : ∀ k : Nat, 0 ≤ Int32.toInt (nU k) ∧ Int32.toInt (nU k) ≤ 99) (hn96 : Int32.toInt x6 ≤ n96) : ws_X10_dusk_222 post K96 bW bU rD m_x jA pY rW oY pR pX rG rQ x1 x2 x6 x7 x8 bQ dG jY m_length qG uW eY dN aR aE bJ aW uM nU := by
  have f7 := tp_r x8
  exact ts_X10_dusk_233 bW bU rD m_x jA pY rW oY pR pX rG rQ h_m_fruits h_m_ruleSize e0_m_now e1_m_now h_m_x h_m_height h_m_worth h_m_ripe h_m_foot h_m_fork e0_m_told e1_m_told h_m_text h_m_rule hc0 hpost hK96 x1 x2 x6 x8 x7 x6 bQ dG jY m_length qG uW eY dN aR aE bJ aW uM nU h_x1 h_x2 (by omega) h_x8 h_x7 h_x6 h_m_rowMany h_m_thrown h_m_read h_m_length h_m_top h_m_at h_m_wrong h_m_isAsked h_m_askedFruit h_m_askedStanding h_m_askedHook h_m_askedApron h_m_handSeconds hn96
set_option maxHeartbeats 8000000 in
set_option maxRecDepth 200000 in
theorem ts_X10_dusk_201 {post : Int32 → Int32 → Int32 → Nat → Int32 → Int32 → Int32 → Int32 → Int32 → Int32 → Int32 → Int32 → Int32 → (Nat → Int32) → (Nat → Int32) → Prop} {SB : Int} {K96 : Int32 → Int32 → Int32 → Int32 → Int32 → Int32 → Int32 → Int32 → Nat → Int32 → Int32 → Int32 → Int32 → Int32 → Int32 → Int32 → Int32 → Int32 → (Nat → Int32) → (Nat → Int32) → Prop} {n96 : Int} (bW bU : Int32) (rD m_x jA pY rW oY pR pX rG rQ : Nat → Int32) (h_m_fruits : 0 ≤ Int32.toInt bW ∧ Int32.toInt bW ≤ 16) (h_m_ruleSize : 0 ≤ Int32.toInt bU ∧ Int32.toInt bU ≤ 40) (e0_m_now : ∀ k : Nat, k = 17 → -1 ≤ Int32.toInt (rD k) ∧ Int32.toInt (rD k) ≤ SB) (e1_m_now : ∀ k : Nat, k = 19 → 0 ≤ Int32.toInt (rD k) ∧ Int32.toInt (rD k) ≤ 9) (h_m_x : ∀ k : Nat, 0 ≤ Int32.toInt (m_x k) ∧ Int32.toInt (m_x k) ≤ 99) (h_m_height : ∀ k : Nat, 0 ≤ Int32.toInt (jA k) ∧ Int32.toInt (jA k) ≤ 99) (h_m_worth : ∀ k : Nat, 0 ≤ Int32.toInt (pY k) ∧ Int32.toInt (pY k) ≤ 9) (h_m_ripe : ∀ k : Nat, 0 ≤ Int32.toInt (rW k) ∧ Int32.toInt (rW k) ≤ 9) (h_m_foot : ∀ k : Nat, 0 ≤ Int32.toInt (oY k) ∧ Int32.toInt (oY k) ≤ 99) (h_m_fork : ∀ k : Nat, 0 ≤ Int32.toInt (pR k) ∧ Int32.toInt (pR k) ≤ 99) (e0_m_told : ∀ k : Nat, k = 4 → 1 ≤ Int32.toInt (pX k) ∧ Int32.toInt (pX k) ≤ 30) (e1_m_told : ∀ k : Nat, k = 3 → 0 ≤ Int32.toInt (pX k) ∧ Int32.toInt (pX k) ≤ 9) (h_m_text : ∀ k : Nat, -128 ≤ Int32.toInt (rG k) ∧ Int32.toInt (rG k) ≤ 127) (h_m_rule : ∀ k : Nat, -128 ≤ Int32.toInt (rQ k) ∧ Int32.toInt (rQ k) ≤ 127) (hc0 : -1 ≤ SB ∧ SB ≤ 7) (hpost : ∀ (r : Int32) (m_rowMany' : Int32) (m_thrown' : Int32) (m_read' : Nat) (m_length' : Int32) (m_top' : Int32) (m_at' : Int32) (m_wrong' : Int32) (m_isAsked' : Int32) (m_askedFruit' : Int32) (m_askedStanding' : Int32) (m_askedHook' : Int32) (m_askedApron' : Int32) (m_row' : Nat → Int32) (m_handSeconds' : Nat → Int32), (-2 ≤ Int32.toInt r ∧ Int32.toInt r ≤ 2147483647) → (0 ≤ Int32.toInt m_rowMany' ∧ Int32.toInt m_rowMany' ≤ 16) → (0 ≤ Int32.toInt m_thrown' ∧ Int32.toInt m_thrown' ≤ 0) → (m_read' = 0 ∨ m_read' = 1 ∨ m_read' = 2) → (0 ≤ Int32.toInt m_length' ∧ Int32.toInt m_length' ≤ 80) → (0 ≤ Int32.toInt m_top' ∧ Int32.toInt m_top' ≤ 80) → (0 ≤ Int32.toInt m_at' ∧ Int32.toInt m_at' ≤ 80) → (-1 ≤ Int32.toInt m_wrong' ∧ Int32.toInt m_wrong' ≤ 80) → (0 ≤ Int32.toInt m_isAsked' ∧ Int32.toInt m_isAsked' ≤ 0) → (0 ≤ Int32.toInt m_askedFruit' ∧ Int32.toInt m_askedFruit' ≤ 15) → (0 ≤ Int32.toInt m_askedStanding' ∧ Int32.toInt m_askedStanding' ≤ 7) → (0 ≤ Int32.toInt m_askedHook' ∧ Int32.toInt m_askedHook' ≤ 1) → (0 ≤ Int32.toInt m_askedApron' ∧ Int32.toInt m_askedApron' ≤ 63) → (∀ k : Nat, 0 ≤ Int32.toInt (m_handSeconds' k) ∧ Int32.toInt (m_handSeconds' k) ≤ 99) → post r m_rowMany' m_thrown' m_read' m_length' m_top' m_at' m_wrong' m_isAsked' m_askedFruit' m_askedStanding' m_askedHook' m_askedApron' m_row' m_handSeconds') (hK96 : ∀ (x1 : Int32) (x2 : Int32) (x3 : Int32) (x4 : Int32) (x5 : Int32) (x6 : Int32) (bQ : Int32) (dG : Int32) (jY : Nat) (m_length : Int32) (qG : Int32) (uW : Int32) (eY : Int32) (dN : Int32) (aR : Int32) (aE : Int32) (bJ : Int32) (aW : Int32) (uM : Nat → Int32) (nU : Nat → Int32), (0 ≤ Int32.toInt x1 ∧ Int32.toInt x1 ≤ 300) → (0 ≤ Int32.toInt x2 ∧ Int32.toInt x2 ≤ 65535) → (0 ≤ Int32.toInt x3 ∧ Int32.toInt x3 ≤ 65535) → (0 ≤ Int32.toInt x4 ∧ Int32.toInt x4 ≤ 2147483647) → (0 ≤ Int32.toInt x5 ∧ Int32.toInt x5 ≤ 300) → (0 ≤ Int32.toInt x6 ∧ Int32.toInt x6 ≤ 65535) → (0 ≤ Int32.toInt bQ ∧ Int32.toInt bQ ≤ 16) → (0 ≤ Int32.toInt dG ∧ Int32.toInt dG ≤ 0) → (jY = 0 ∨ jY = 1 ∨ jY = 2) → (0 ≤ Int32.toInt m_length ∧ Int32.toInt m_length ≤ 80) → (0 ≤ Int32.toInt qG ∧ Int32.toInt qG ≤ 80) → (0 ≤ Int32.toInt uW ∧ Int32.toInt uW ≤ 80) → (-1 ≤ Int32.toInt eY ∧ Int32.toInt eY ≤ 80) → (0 ≤ Int32.toInt dN ∧ Int32.toInt dN ≤ 0) → (0 ≤ Int32.toInt aR ∧ Int32.toInt aR ≤ 15) → (0 ≤ Int32.toInt aE ∧ Int32.toInt aE ≤ 7) → (0 ≤ Int32.toInt bJ ∧ Int32.toInt bJ ≤ 1) → (0 ≤ Int32.toInt aW ∧ Int32.toInt aW ≤ 63) → (∀ k : Nat, 0 ≤ Int32.toInt (nU k) ∧ Int32.toInt (nU k) ≤ 99) → (Int32.toInt x6 < n96) → K96 x1 x2 x3 x4 x5 x6 bQ dG jY m_length qG uW eY dN aR aE bJ aW uM nU) (x1 x2 x3 x4 x5 x6 x7 x8 bQ dG : Int32) (jY : Nat) (m_length qG uW eY dN aR aE bJ aW : Int32) (uM nU : Nat → Int32) (h_x1 : 0 ≤ Int32.toInt x1 ∧ Int32.toInt x1 ≤ 300) (h_x2 : 0 ≤ Int32.toInt x2 ∧ Int32.toInt x2 ≤ 65535) (h_x3 : 0 ≤ Int32.toInt x3 ∧ Int32.toInt x3 ≤ 65535) (h_x4 : 0 ≤ Int32.toInt x4 ∧ Int32.toInt x4 ≤ 2147483647) (h_x5 : 0 ≤ Int32.toInt x5 ∧ Int32.toInt x5 ≤ 300) (h_x6 : 1 ≤ Int32.toInt x6 ∧ Int32.toInt x6 ≤ 65535) (h_x7 : 0 ≤ Int32.toInt x7 ∧ Int32.toInt x7 ≤ 300) (h_x8 : 0 ≤ Int32.toInt x8 ∧ Int32.toInt x8 ≤ 2147483647) (h_m_rowMany : 0 ≤ Int32.toInt bQ ∧ Int32.toInt bQ ≤ 16) (h_m_thrown : 0 ≤ Int32.toInt dG ∧ Int32.toInt dG ≤ 0) (h_m_read : jY = 0 ∨ jY = 1 ∨ jY = 2) (h_m_length : 0 ≤ Int32.toInt m_length ∧ Int32.toInt m_length ≤ 80) (h_m_top : 0 ≤ Int32.toInt qG ∧ Int32.toInt qG ≤ 80) (h_m_at : 0 ≤ Int32.toInt uW ∧ Int32.toInt uW ≤ 80) (h_m_wrong : -1 ≤ Int32.toInt eY ∧ Int32.toInt eY ≤ 80) (h_m_isAsked : 0 ≤ Int32.toInt dN ∧ Int32.toInt dN ≤ 0) (h_m_askedFruit : 0 ≤ Int32.toInt aR ∧ Int32.toInt aR ≤ 15) (h_m_askedStanding : 0 ≤ Int32.toInt aE ∧ Int32.toInt aE ≤ 7) (h_m_askedHook : 0 ≤ Int32.toInt bJ ∧ Int32.toInt bJ ≤ 1) (h_m_askedApron : 0 ≤ Int32.toInt aW ∧ Int32.toInt aW ≤ 63) (h_m_handSeconds : ∀ k : Nat, 0 ≤ Int32.toInt (nU k) ∧ Int32.toInt (nU k) ≤ 99) (hn96 : Int32.toInt x6 ≤ n96) : ws_X10_dusk_201 post K96 bW bU rD m_x jA pY rW oY pR pX rG rQ x1 x2 x3 x4 x5 x6 x7 x8 bQ dG jY m_length qG uW eY dN aR aE bJ aW uM nU := by
  have l0 := li_0
  have f9 := tp_r x8
  have f10 := tp_r x4
  refine And.intro (fun c8 => ?_) (fun c8 => ?_)
  · skip
    have c8 := mt (fa_eq _ _).mpr c8
    exact ts_X10_dusk_222 bW bU rD m_x jA pY rW oY pR pX rG rQ h_m_fruits h_m_ruleSize e0_m_now e1_m_now h_m_x h_m_height h_m_worth h_m_ripe h_m_foot h_m_fork e0_m_told e1_m_told h_m_text h_m_rule hc0 hpost hK96 x1 x2 x6 x7 x8 bQ dG jY m_length qG uW eY dN aR aE bJ aW uM nU h_x1 h_x2 h_x6 h_x7 h_x8 h_m_rowMany h_m_thrown h_m_read h_m_length h_m_top h_m_at h_m_wrong h_m_isAsked h_m_askedFruit h_m_askedStanding h_m_askedHook h_m_askedApron h_m_handSeconds hn96
  · skip
    have c8 := (fa_eq _ _).mp c8
    refine And.intro (fun c11 => ?_) (fun c11 => ?_)
    · skip
      have c11 := mt (fa_eq _ _).mpr c11
      exact ts_X10_dusk_222 bW bU rD m_x jA pY rW oY pR pX rG rQ h_m_fruits h_m_ruleSize e0_m_now e1_m_now h_m_x h_m_height h_m_worth h_m_ripe h_m_foot h_m_fork e0_m_told e1_m_told h_m_text h_m_rule hc0 hpost hK96 x1 x2 x6 x7 x8 bQ dG jY m_length qG uW eY dN aR aE bJ aW uM nU h_x1 h_x2 h_x6 h_x7 h_x8 h_m_rowMany h_m_thrown h_m_read h_m_length h_m_top h_m_at h_m_wrong h_m_isAsked h_m_askedFruit h_m_askedStanding h_m_askedHook h_m_askedApron h_m_handSeconds hn96
    · skip
      have c11 := (fa_eq _ _).mp c11
      refine And.intro (fun c12 => ?_) (fun c12 => ?_)
      · skip
        have c12 := mt (fa_eq _ _).mpr c12
        exact ts_X10_dusk_222 bW bU rD m_x jA pY rW oY pR pX rG rQ h_m_fruits h_m_ruleSize e0_m_now e1_m_now h_m_x h_m_height h_m_worth h_m_ripe h_m_foot h_m_fork e0_m_told e1_m_told h_m_text h_m_rule hc0 hpost hK96 x1 x2 x6 x7 x8 bQ dG jY m_length qG uW eY dN aR aE bJ aW uM nU h_x1 h_x2 h_x6 h_x7 h_x8 h_m_rowMany h_m_thrown h_m_read h_m_length h_m_top h_m_at h_m_wrong h_m_isAsked h_m_askedFruit h_m_askedStanding h_m_askedHook h_m_askedApron h_m_handSeconds hn96
      · skip
        have c12 := (fa_eq _ _).mp c12
        exact ts_X10_dusk_233 bW bU rD m_x jA pY rW oY pR pX rG rQ h_m_fruits h_m_ruleSize e0_m_now e1_m_now h_m_x h_m_height h_m_worth h_m_ripe h_m_foot h_m_fork e0_m_told e1_m_told h_m_text h_m_rule hc0 hpost hK96 x1 x2 x3 x4 x5 x6 bQ dG jY m_length qG uW eY dN aR aE bJ aW uM nU h_x1 h_x2 h_x3 h_x4 h_x5 h_x6 h_m_rowMany h_m_thrown h_m_read h_m_length h_m_top h_m_at h_m_wrong h_m_isAsked h_m_askedFruit h_m_askedStanding h_m_askedHook h_m_askedApron h_m_handSeconds hn96
set_option maxHeartbeats 8000000 in
set_option maxRecDepth 200000 in
theorem ts_X10_dusk_171 {post : Int32 → Int32 → Int32 → Nat → Int32 → Int32 → Int32 → Int32 → Int32 → Int32 → Int32 → Int32 → Int32 → (Nat → Int32) → (Nat → Int32) → Prop} {SB : Int} {K96 : Int32 → Int32 → Int32 → Int32 → Int32 → Int32 → Int32 → Int32 → Nat → Int32 → Int32 → Int32 → Int32 → Int32 → Int32 → Int32 → Int32 → Int32 → (Nat → Int32) → (Nat → Int32) → Prop} {n96 : Int} (bW bU : Int32) (rD m_x jA pY rW oY pR pX rG rQ : Nat → Int32) (h_m_fruits : 0 ≤ Int32.toInt bW ∧ Int32.toInt bW ≤ 16) (h_m_ruleSize : 0 ≤ Int32.toInt bU ∧ Int32.toInt bU ≤ 40) (e0_m_now : ∀ k : Nat, k = 17 → -1 ≤ Int32.toInt (rD k) ∧ Int32.toInt (rD k) ≤ SB) (e1_m_now : ∀ k : Nat, k = 19 → 0 ≤ Int32.toInt (rD k) ∧ Int32.toInt (rD k) ≤ 9) (h_m_x : ∀ k : Nat, 0 ≤ Int32.toInt (m_x k) ∧ Int32.toInt (m_x k) ≤ 99) (h_m_height : ∀ k : Nat, 0 ≤ Int32.toInt (jA k) ∧ Int32.toInt (jA k) ≤ 99) (h_m_worth : ∀ k : Nat, 0 ≤ Int32.toInt (pY k) ∧ Int32.toInt (pY k) ≤ 9) (h_m_ripe : ∀ k : Nat, 0 ≤ Int32.toInt (rW k) ∧ Int32.toInt (rW k) ≤ 9) (h_m_foot : ∀ k : Nat, 0 ≤ Int32.toInt (oY k) ∧ Int32.toInt (oY k) ≤ 99) (h_m_fork : ∀ k : Nat, 0 ≤ Int32.toInt (pR k) ∧ Int32.toInt (pR k) ≤ 99) (e0_m_told : ∀ k : Nat, k = 4 → 1 ≤ Int32.toInt (pX k) ∧ Int32.toInt (pX k) ≤ 30) (e1_m_told : ∀ k : Nat, k = 3 → 0 ≤ Int32.toInt (pX k) ∧ Int32.toInt (pX k) ≤ 9) (h_m_text : ∀ k : Nat, -128 ≤ Int32.toInt (rG k) ∧ Int32.toInt (rG k) ≤ 127) (h_m_rule : ∀ k : Nat, -128 ≤ Int32.toInt (rQ k) ∧ Int32.toInt (rQ k) ≤ 127) (hc0 : -1 ≤ SB ∧ SB ≤ 7) (hpost : ∀ (r : Int32) (m_rowMany' : Int32) (m_thrown' : Int32) (m_read' : Nat) (m_length' : Int32) (m_top' : Int32) (m_at' : Int32) (m_wrong' : Int32) (m_isAsked' : Int32) (m_askedFruit' : Int32) (m_askedStanding' : Int32) (m_askedHook' : Int32) (m_askedApron' : Int32) (m_row' : Nat → Int32) (m_handSeconds' : Nat → Int32), (-2 ≤ Int32.toInt r ∧ Int32.toInt r ≤ 2147483647) → (0 ≤ Int32.toInt m_rowMany' ∧ Int32.toInt m_rowMany' ≤ 16) → (0 ≤ Int32.toInt m_thrown' ∧ Int32.toInt m_thrown' ≤ 0) → (m_read' = 0 ∨ m_read' = 1 ∨ m_read' = 2) → (0 ≤ Int32.toInt m_length' ∧ Int32.toInt m_length' ≤ 80) → (0 ≤ Int32.toInt m_top' ∧ Int32.toInt m_top' ≤ 80) → (0 ≤ Int32.toInt m_at' ∧ Int32.toInt m_at' ≤ 80) → (-1 ≤ Int32.toInt m_wrong' ∧ Int32.toInt m_wrong' ≤ 80) → (0 ≤ Int32.toInt m_isAsked' ∧ Int32.toInt m_isAsked' ≤ 0) → (0 ≤ Int32.toInt m_askedFruit' ∧ Int32.toInt m_askedFruit' ≤ 15) → (0 ≤ Int32.toInt m_askedStanding' ∧ Int32.toInt m_askedStanding' ≤ 7) → (0 ≤ Int32.toInt m_askedHook' ∧ Int32.toInt m_askedHook' ≤ 1) → (0 ≤ Int32.toInt m_askedApron' ∧ Int32.toInt m_askedApron' ≤ 63) → (∀ k : Nat, 0 ≤ Int32.toInt (m_handSeconds' k) ∧ Int32.toInt (m_handSeconds' k) ≤ 99) → post r m_rowMany' m_thrown' m_read' m_length' m_top' m_at' m_wrong' m_isAsked' m_askedFruit' m_askedStanding' m_askedHook' m_askedApron' m_row' m_handSeconds') (hK96 : ∀ (x1 : Int32) (x2 : Int32) (x3 : Int32) (x4 : Int32) (x5 : Int32) (x6 : Int32) (bQ : Int32) (dG : Int32) (jY : Nat) (m_length : Int32) (qG : Int32) (uW : Int32) (eY : Int32) (dN : Int32) (aR : Int32) (aE : Int32) (bJ : Int32) (aW : Int32) (uM : Nat → Int32) (nU : Nat → Int32), (0 ≤ Int32.toInt x1 ∧ Int32.toInt x1 ≤ 300) → (0 ≤ Int32.toInt x2 ∧ Int32.toInt x2 ≤ 65535) → (0 ≤ Int32.toInt x3 ∧ Int32.toInt x3 ≤ 65535) → (0 ≤ Int32.toInt x4 ∧ Int32.toInt x4 ≤ 2147483647) → (0 ≤ Int32.toInt x5 ∧ Int32.toInt x5 ≤ 300) → (0 ≤ Int32.toInt x6 ∧ Int32.toInt x6 ≤ 65535) → (0 ≤ Int32.toInt bQ ∧ Int32.toInt bQ ≤ 16) → (0 ≤ Int32.toInt dG ∧ Int32.toInt dG ≤ 0) → (jY = 0 ∨ jY = 1 ∨ jY = 2) → (0 ≤ Int32.toInt m_length ∧ Int32.toInt m_length ≤ 80) → (0 ≤ Int32.toInt qG ∧ Int32.toInt qG ≤ 80) → (0 ≤ Int32.toInt uW ∧ Int32.toInt uW ≤ 80) → (-1 ≤ Int32.toInt eY ∧ Int32.toInt eY ≤ 80) → (0 ≤ Int32.toInt dN ∧ Int32.toInt dN ≤ 0) → (0 ≤ Int32.toInt aR ∧ Int32.toInt aR ≤ 15) → (0 ≤ Int32.toInt aE ∧ Int32.toInt aE ≤ 7) → (0 ≤ Int32.toInt bJ ∧ Int32.toInt bJ ≤ 1) → (0 ≤ Int32.toInt aW ∧ Int32.toInt aW ≤ 63) → (∀ k : Nat, 0 ≤ Int32.toInt (nU k) ∧ Int32.toInt (nU k) ≤ 99) → (Int32.toInt x6 < n96) → K96 x1 x2 x3 x4 x5 x6 bQ dG jY m_length qG uW eY dN aR aE bJ aW uM nU) (x1 x2 x3 x4 x5 x6 x7 x8 bQ dG : Int32) (jY : Nat) (m_length qG uW eY dN aR aE bJ aW : Int32) (uM nU : Nat → Int32) (h_x1 : 0 ≤ Int32.toInt x1 ∧ Int32.toInt x1 ≤ 300) (h_x2 : 0 ≤ Int32.toInt x2 ∧ Int32.toInt x2 ≤ 65535) (h_x3 : 0 ≤ Int32.toInt x3 ∧ Int32.toInt x3 ≤ 65535) (h_x4 : 0 ≤ Int32.toInt x4 ∧ Int32.toInt x4 ≤ 2147483647) (h_x5 : 0 ≤ Int32.toInt x5 ∧ Int32.toInt x5 ≤ 300) (h_x6 : 1 ≤ Int32.toInt x6 ∧ Int32.toInt x6 ≤ 65535) (h_x7 : 0 ≤ Int32.toInt x7 ∧ Int32.toInt x7 ≤ 511) (h_m_rowMany : 0 ≤ Int32.toInt bQ ∧ Int32.toInt bQ ≤ 16) (h_m_thrown : 0 ≤ Int32.toInt dG ∧ Int32.toInt dG ≤ 0) (h_m_read : jY = 0 ∨ jY = 1 ∨ jY = 2) (h_m_length : 0 ≤ Int32.toInt m_length ∧ Int32.toInt m_length ≤ 80) (h_m_top : 0 ≤ Int32.toInt qG ∧ Int32.toInt qG ≤ 80) (h_m_at : 0 ≤ Int32.toInt uW ∧ Int32.toInt uW ≤ 80) (h_m_wrong : -1 ≤ Int32.toInt eY ∧ Int32.toInt eY ≤ 80) (h_m_isAsked : 0 ≤ Int32.toInt dN ∧ Int32.toInt dN ≤ 0) (h_m_askedFruit : 0 ≤ Int32.toInt aR ∧ Int32.toInt aR ≤ 15) (h_m_askedStanding : 0 ≤ Int32.toInt aE ∧ Int32.toInt aE ≤ 7) (h_m_askedHook : 0 ≤ Int32.toInt bJ ∧ Int32.toInt bJ ≤ 1) (h_m_askedApron : 0 ≤ Int32.toInt aW ∧ Int32.toInt aW ≤ 63) (h_m_handSeconds : ∀ k : Nat, 0 ≤ Int32.toInt (nU k) ∧ Int32.toInt (nU k) ≤ 99) (hn96 : Int32.toInt x6 ≤ n96) : ws_X10_dusk_171 post K96 bW bU rD m_x jA pY rW oY pR pX rG rQ x1 x2 x3 x4 x5 x6 x7 x8 bQ dG jY m_length qG uW eY dN aR aE bJ aW uM nU := by
  refine And.intro (fun c13 => ?_) (fun c13 => ?_)
  · skip
    have c13 := (fa_lt _ _).mp c13
    have f14 := tp_r x4
    exact ts_X10_dusk_233 bW bU rD m_x jA pY rW oY pR pX rG rQ h_m_fruits h_m_ruleSize e0_m_now e1_m_now h_m_x h_m_height h_m_worth h_m_ripe h_m_foot h_m_fork e0_m_told e1_m_told h_m_text h_m_rule hc0 hpost hK96 x1 x2 x3 x4 x5 x6 bQ dG jY m_length qG uW eY dN aR aE bJ aW uM nU h_x1 h_x2 h_x3 h_x4 h_x5 h_x6 h_m_rowMany h_m_thrown h_m_read h_m_length h_m_top h_m_at h_m_wrong h_m_isAsked h_m_askedFruit h_m_askedStanding h_m_askedHook h_m_askedApron h_m_handSeconds hn96
  · skip
    have c13 := mt (fa_lt _ _).mpr c13
    have f16 := tp_r x8
    have f17 := tp_r x4
    refine And.intro (fun c15 => ?_) (fun c15 => ?_)
    · skip
      have c15 := (fa_lt _ _).mp c15
      exact ts_X10_dusk_233 bW bU rD m_x jA pY rW oY pR pX rG rQ h_m_fruits h_m_ruleSize e0_m_now e1_m_now h_m_x h_m_height h_m_worth h_m_ripe h_m_foot h_m_fork e0_m_told e1_m_told h_m_text h_m_rule hc0 hpost hK96 x1 x2 x3 x4 x5 x6 bQ dG jY m_length qG uW eY dN aR aE bJ aW uM nU h_x1 h_x2 h_x3 h_x4 h_x5 h_x6 h_m_rowMany h_m_thrown h_m_read h_m_length h_m_top h_m_at h_m_wrong h_m_isAsked h_m_askedFruit h_m_askedStanding h_m_askedHook h_m_askedApron h_m_handSeconds hn96
    · skip
      have c15 := mt (fa_lt _ _).mpr c15
      refine And.intro (fun c18 => ?_) (fun c18 => ?_)
      · skip
        have c18 := mt (fa_eq _ _).mpr c18
        exact ts_X10_dusk_201 bW bU rD m_x jA pY rW oY pR pX rG rQ h_m_fruits h_m_ruleSize e0_m_now e1_m_now h_m_x h_m_height h_m_worth h_m_ripe h_m_foot h_m_fork e0_m_told e1_m_told h_m_text h_m_rule hc0 hpost hK96 x1 x2 x3 x4 x5 x6 x7 x8 bQ dG jY m_length qG uW eY dN aR aE bJ aW uM nU h_x1 h_x2 h_x3 h_x4 h_x5 h_x6 (by omega) (by omega) h_m_rowMany h_m_thrown h_m_read h_m_length h_m_top h_m_at h_m_wrong h_m_isAsked h_m_askedFruit h_m_askedStanding h_m_askedHook h_m_askedApron h_m_handSeconds hn96
      · skip
        have c18 := (fa_eq _ _).mp c18
        refine And.intro (fun c19 => ?_) (fun c19 => ?_)
        · skip
          have c19 := (fa_le _ _).mp c19
          exact ts_X10_dusk_201 bW bU rD m_x jA pY rW oY pR pX rG rQ h_m_fruits h_m_ruleSize e0_m_now e1_m_now h_m_x h_m_height h_m_worth h_m_ripe h_m_foot h_m_fork e0_m_told e1_m_told h_m_text h_m_rule hc0 hpost hK96 x1 x2 x3 x4 x5 x6 x7 x8 bQ dG jY m_length qG uW eY dN aR aE bJ aW uM nU h_x1 h_x2 h_x3 h_x4 h_x5 h_x6 (by omega) (by omega) h_m_rowMany h_m_thrown h_m_read h_m_length h_m_top h_m_at h_m_wrong h_m_isAsked h_m_askedFruit h_m_askedStanding h_m_askedHook h_m_askedApron h_m_handSeconds hn96
        · skip
          have c19 := mt (fa_le _ _).mpr c19
          exact ts_X10_dusk_233 bW bU rD m_x jA pY rW oY pR pX rG rQ h_m_fruits h_m_ruleSize e0_m_now e1_m_now h_m_x h_m_height h_m_worth h_m_ripe h_m_foot h_m_fork e0_m_told e1_m_told h_m_text h_m_rule hc0 hpost hK96 x1 x2 x3 x4 x5 x6 bQ dG jY m_length qG uW eY dN aR aE bJ aW uM nU h_x1 h_x2 h_x3 h_x4 h_x5 h_x6 h_m_rowMany h_m_thrown h_m_read h_m_length h_m_top h_m_at h_m_wrong h_m_isAsked h_m_askedFruit h_m_askedStanding h_m_askedHook h_m_askedApron h_m_handSeconds hn96
set_option maxHeartbeats 8000000 in
set_option maxRecDepth 200000 in
theorem ts_X10_dusk_111 {post : Int32 → Int32 → Int32 → Nat → Int32 → Int32 → Int32 → Int32 → Int32 → Int32 → Int32 → Int32 → Int32 → (Nat → Int32) → (Nat → Int32) → Prop} {SB : Int} {K96 : Int32 → Int32 → Int32 → Int32 → Int32 → Int32 → Int32 → Int32 → Nat → Int32 → Int32 → Int32 → Int32 → Int32 → Int32 → Int32 → Int32 → Int32 → (Nat → Int32) → (Nat → Int32) → Prop} {next : Int32 → Int32 → Int32 → Int32 → Int32 → Int32 → Int32 → Int32 → Int32 → Int32 → Int32 → Nat → Int32 → Int32 → Int32 → Int32 → Int32 → Int32 → Int32 → Int32 → Int32 → (Nat → Int32) → (Nat → Int32) → Prop} {n111 n96 : Int} (bW bU : Int32) (rD m_x jA pY rW oY pR pX rG rQ : Nat → Int32) (h_m_fruits : 0 ≤ Int32.toInt bW ∧ Int32.toInt bW ≤ 16) (h_m_ruleSize : 0 ≤ Int32.toInt bU ∧ Int32.toInt bU ≤ 40) (e0_m_now : ∀ k : Nat, k = 17 → -1 ≤ Int32.toInt (rD k) ∧ Int32.toInt (rD k) ≤ SB) (e1_m_now : ∀ k : Nat, k = 19 → 0 ≤ Int32.toInt (rD k) ∧ Int32.toInt (rD k) ≤ 9) (h_m_x : ∀ k : Nat, 0 ≤ Int32.toInt (m_x k) ∧ Int32.toInt (m_x k) ≤ 99) (h_m_height : ∀ k : Nat, 0 ≤ Int32.toInt (jA k) ∧ Int32.toInt (jA k) ≤ 99) (h_m_worth : ∀ k : Nat, 0 ≤ Int32.toInt (pY k) ∧ Int32.toInt (pY k) ≤ 9) (h_m_ripe : ∀ k : Nat, 0 ≤ Int32.toInt (rW k) ∧ Int32.toInt (rW k) ≤ 9) (h_m_foot : ∀ k : Nat, 0 ≤ Int32.toInt (oY k) ∧ Int32.toInt (oY k) ≤ 99) (h_m_fork : ∀ k : Nat, 0 ≤ Int32.toInt (pR k) ∧ Int32.toInt (pR k) ≤ 99) (e0_m_told : ∀ k : Nat, k = 4 → 1 ≤ Int32.toInt (pX k) ∧ Int32.toInt (pX k) ≤ 30) (e1_m_told : ∀ k : Nat, k = 3 → 0 ≤ Int32.toInt (pX k) ∧ Int32.toInt (pX k) ≤ 9) (h_m_text : ∀ k : Nat, -128 ≤ Int32.toInt (rG k) ∧ Int32.toInt (rG k) ≤ 127) (h_m_rule : ∀ k : Nat, -128 ≤ Int32.toInt (rQ k) ∧ Int32.toInt (rQ k) ≤ 127) (hc0 : -1 ≤ SB ∧ SB ≤ 7) (hpost : ∀ (r : Int32) (m_rowMany' : Int32) (m_thrown' : Int32) (m_read' : Nat) (m_length' : Int32) (m_top' : Int32) (m_at' : Int32) (m_wrong' : Int32) (m_isAsked' : Int32) (m_askedFruit' : Int32) (m_askedStanding' : Int32) (m_askedHook' : Int32) (m_askedApron' : Int32) (m_row' : Nat → Int32) (m_handSeconds' : Nat → Int32), (-2 ≤ Int32.toInt r ∧ Int32.toInt r ≤ 2147483647) → (0 ≤ Int32.toInt m_rowMany' ∧ Int32.toInt m_rowMany' ≤ 16) → (0 ≤ Int32.toInt m_thrown' ∧ Int32.toInt m_thrown' ≤ 0) → (m_read' = 0 ∨ m_read' = 1 ∨ m_read' = 2) → (0 ≤ Int32.toInt m_length' ∧ Int32.toInt m_length' ≤ 80) → (0 ≤ Int32.toInt m_top' ∧ Int32.toInt m_top' ≤ 80) → (0 ≤ Int32.toInt m_at' ∧ Int32.toInt m_at' ≤ 80) → (-1 ≤ Int32.toInt m_wrong' ∧ Int32.toInt m_wrong' ≤ 80) → (0 ≤ Int32.toInt m_isAsked' ∧ Int32.toInt m_isAsked' ≤ 0) → (0 ≤ Int32.toInt m_askedFruit' ∧ Int32.toInt m_askedFruit' ≤ 15) → (0 ≤ Int32.toInt m_askedStanding' ∧ Int32.toInt m_askedStanding' ≤ 7) → (0 ≤ Int32.toInt m_askedHook' ∧ Int32.toInt m_askedHook' ≤ 1) → (0 ≤ Int32.toInt m_askedApron' ∧ Int32.toInt m_askedApron' ≤ 63) → (∀ k : Nat, 0 ≤ Int32.toInt (m_handSeconds' k) ∧ Int32.toInt (m_handSeconds' k) ≤ 99) → post r m_rowMany' m_thrown' m_read' m_length' m_top' m_at' m_wrong' m_isAsked' m_askedFruit' m_askedStanding' m_askedHook' m_askedApron' m_row' m_handSeconds') (hK96 : ∀ (x1 : Int32) (x2 : Int32) (x3 : Int32) (x4 : Int32) (x5 : Int32) (x6 : Int32) (bQ : Int32) (dG : Int32) (jY : Nat) (m_length : Int32) (qG : Int32) (uW : Int32) (eY : Int32) (dN : Int32) (aR : Int32) (aE : Int32) (bJ : Int32) (aW : Int32) (uM : Nat → Int32) (nU : Nat → Int32), (0 ≤ Int32.toInt x1 ∧ Int32.toInt x1 ≤ 300) → (0 ≤ Int32.toInt x2 ∧ Int32.toInt x2 ≤ 65535) → (0 ≤ Int32.toInt x3 ∧ Int32.toInt x3 ≤ 65535) → (0 ≤ Int32.toInt x4 ∧ Int32.toInt x4 ≤ 2147483647) → (0 ≤ Int32.toInt x5 ∧ Int32.toInt x5 ≤ 300) → (0 ≤ Int32.toInt x6 ∧ Int32.toInt x6 ≤ 65535) → (0 ≤ Int32.toInt bQ ∧ Int32.toInt bQ ≤ 16) → (0 ≤ Int32.toInt dG ∧ Int32.toInt dG ≤ 0) → (jY = 0 ∨ jY = 1 ∨ jY = 2) → (0 ≤ Int32.toInt m_length ∧ Int32.toInt m_length ≤ 80) → (0 ≤ Int32.toInt qG ∧ Int32.toInt qG ≤ 80) → (0 ≤ Int32.toInt uW ∧ Int32.toInt uW ≤ 80) → (-1 ≤ Int32.toInt eY ∧ Int32.toInt eY ≤ 80) → (0 ≤ Int32.toInt dN ∧ Int32.toInt dN ≤ 0) → (0 ≤ Int32.toInt aR ∧ Int32.toInt aR ≤ 15) → (0 ≤ Int32.toInt aE ∧ Int32.toInt aE ≤ 7) → (0 ≤ Int32.toInt bJ ∧ Int32.toInt bJ ≤ 1) → (0 ≤ Int32.toInt aW ∧ Int32.toInt aW ≤ 63) → (∀ k : Nat, 0 ≤ Int32.toInt (nU k) ∧ Int32.toInt (nU k) ≤ 99) → (Int32.toInt x6 < n96) → K96 x1 x2 x3 x4 x5 x6 bQ dG jY m_length qG uW eY dN aR aE bJ aW uM nU) (hKn : ∀ (x1 : Int32) (x2 : Int32) (x3 : Int32) (x4 : Int32) (x5 : Int32) (x6 : Int32) (x7 : Int32) (x8 : Int32) (x9 : Int32) (bQ : Int32) (dG : Int32) (jY : Nat) (m_length : Int32) (qG : Int32) (uW : Int32) (eY : Int32) (dN : Int32) (aR : Int32) (aE : Int32) (bJ : Int32) (aW : Int32) (uM : Nat → Int32) (nU : Nat → Int32), (0 ≤ Int32.toInt x1 ∧ Int32.toInt x1 ≤ 300) → (0 ≤ Int32.toInt x2 ∧ Int32.toInt x2 ≤ 65535) → (0 ≤ Int32.toInt x3 ∧ Int32.toInt x3 ≤ 65535) → (0 ≤ Int32.toInt x4 ∧ Int32.toInt x4 ≤ 2147483647) → (0 ≤ Int32.toInt x5 ∧ Int32.toInt x5 ≤ 300) → (1 ≤ Int32.toInt x6 ∧ Int32.toInt x6 ≤ 65535) → (0 ≤ Int32.toInt x7 ∧ Int32.toInt x7 ≤ 511) → (0 ≤ Int32.toInt x9 ∧ Int32.toInt x9 ≤ 65535) → (0 ≤ Int32.toInt bQ ∧ Int32.toInt bQ ≤ 16) → (0 ≤ Int32.toInt dG ∧ Int32.toInt dG ≤ 0) → (jY = 0 ∨ jY = 1 ∨ jY = 2) → (0 ≤ Int32.toInt m_length ∧ Int32.toInt m_length ≤ 80) → (0 ≤ Int32.toInt qG ∧ Int32.toInt qG ≤ 80) → (0 ≤ Int32.toInt uW ∧ Int32.toInt uW ≤ 80) → (-1 ≤ Int32.toInt eY ∧ Int32.toInt eY ≤ 80) → (0 ≤ Int32.toInt dN ∧ Int32.toInt dN ≤ 0) → (0 ≤ Int32.toInt aR ∧ Int32.toInt aR ≤ 15) → (0 ≤ Int32.toInt aE ∧ Int32.toInt aE ≤ 7) → (0 ≤ Int32.toInt bJ ∧ Int32.toInt bJ ≤ 1) → (0 ≤ Int32.toInt aW ∧ Int32.toInt aW ≤ 63) → (∀ k : Nat, 0 ≤ Int32.toInt (nU k) ∧ Int32.toInt (nU k) ≤ 99) → (Int32.toInt x6 ≤ n96) → (Int32.toInt x9 < n111) → next x1 x2 x3 x4 x5 x6 x7 x8 x9 bQ dG jY m_length qG uW eY dN aR aE bJ aW uM nU) (x1 x2 x3 x4 x5 x6 x7 x8 x9 bQ dG : Int32) (jY : Nat) (m_length qG uW eY dN aR aE bJ aW : Int32) (uM nU : Nat → Int32) (h_x1 : 0 ≤ Int32.toInt x1 ∧ Int32.toInt x1 ≤ 300) (h_x2 : 0 ≤ Int32.toInt x2 ∧ Int32.toInt x2 ≤ 65535) (h_x3 : 0 ≤ Int32.toInt x3 ∧ Int32.toInt x3 ≤ 65535) (h_x4 : 0 ≤ Int32.toInt x4 ∧ Int32.toInt x4 ≤ 2147483647) (h_x5 : 0 ≤ Int32.toInt x5 ∧ Int32.toInt x5 ≤ 300) (h_x6 : 1 ≤ Int32.toInt x6 ∧ Int32.toInt x6 ≤ 65535) (h_x7 : 0 ≤ Int32.toInt x7 ∧ Int32.toInt x7 ≤ 511) (h_x9 : 0 ≤ Int32.toInt x9 ∧ Int32.toInt x9 ≤ 65535) (h_m_rowMany : 0 ≤ Int32.toInt bQ ∧ Int32.toInt bQ ≤ 16) (h_m_thrown : 0 ≤ Int32.toInt dG ∧ Int32.toInt dG ≤ 0) (h_m_read : jY = 0 ∨ jY = 1 ∨ jY = 2) (h_m_length : 0 ≤ Int32.toInt m_length ∧ Int32.toInt m_length ≤ 80) (h_m_top : 0 ≤ Int32.toInt qG ∧ Int32.toInt qG ≤ 80) (h_m_at : 0 ≤ Int32.toInt uW ∧ Int32.toInt uW ≤ 80) (h_m_wrong : -1 ≤ Int32.toInt eY ∧ Int32.toInt eY ≤ 80) (h_m_isAsked : 0 ≤ Int32.toInt dN ∧ Int32.toInt dN ≤ 0) (h_m_askedFruit : 0 ≤ Int32.toInt aR ∧ Int32.toInt aR ≤ 15) (h_m_askedStanding : 0 ≤ Int32.toInt aE ∧ Int32.toInt aE ≤ 7) (h_m_askedHook : 0 ≤ Int32.toInt bJ ∧ Int32.toInt bJ ≤ 1) (h_m_askedApron : 0 ≤ Int32.toInt aW ∧ Int32.toInt aW ≤ 63) (h_m_handSeconds : ∀ k : Nat, 0 ≤ Int32.toInt (nU k) ∧ Int32.toInt (nU k) ≤ 99) (hn96 : Int32.toInt x6 ≤ n96) (hn111 : Int32.toInt x9 ≤ n111) : ws_X10_dusk_111 post K96 next bW bU rD m_x jA pY rW oY pR pX rG rQ x1 x2 x3 x4 x5 x6 x7 x8 x9 bQ dG jY m_length qG uW eY dN aR aE bJ aW uM nU := by
  have l0 := li_0
  have l1 := li_1
  have l2 := li_16
  have l3 := li_2
  refine And.intro (fun c20 => ?_) (fun c20 => ?_)
  · skip
    have c20 := (fa_eq _ _).mp c20
    have f21 := tp_r x4
    have f22 := tp_r x8
    exact ts_X10_dusk_171 bW bU rD m_x jA pY rW oY pR pX rG rQ h_m_fruits h_m_ruleSize e0_m_now e1_m_now h_m_x h_m_height h_m_worth h_m_ripe h_m_foot h_m_fork e0_m_told e1_m_told h_m_text h_m_rule hc0 hpost hK96 x1 x2 x3 x4 x5 x6 x7 x8 bQ dG jY m_length qG uW eY dN aR aE bJ aW uM nU h_x1 h_x2 h_x3 h_x4 h_x5 h_x6 h_x7 h_m_rowMany h_m_thrown h_m_read h_m_length h_m_top h_m_at h_m_wrong h_m_isAsked h_m_askedFruit h_m_askedStanding h_m_askedHook h_m_askedApron h_m_handSeconds hn96
  · skip
    have c20 := mt (fa_eq _ _).mpr c20
    refine And.intro (fun c23 => ?_) (fun c23 => ?_)
    · skip
      have c23 := (fa_lt _ _).mp c23
      have f24 := tp_r x4
      have f25 := tp_r x8
      exact ts_X10_dusk_171 bW bU rD m_x jA pY rW oY pR pX rG rQ h_m_fruits h_m_ruleSize e0_m_now e1_m_now h_m_x h_m_height h_m_worth h_m_ripe h_m_foot h_m_fork e0_m_told e1_m_told h_m_text h_m_rule hc0 hpost hK96 x1 x2 x3 x4 x5 x6 x7 x8 bQ dG jY m_length qG uW eY dN aR aE bJ aW uM nU h_x1 h_x2 h_x3 h_x4 h_x5 h_x6 h_x7 h_m_rowMany h_m_thrown h_m_read h_m_length h_m_top h_m_at h_m_wrong h_m_isAsked h_m_askedFruit h_m_askedStanding h_m_askedHook h_m_askedApron h_m_handSeconds hn96
    · skip
      have c23 := mt (fa_lt _ _).mpr c23
      refine t_J6_numberOfTrailingZeros_0f7a4  (fun r26 ox27 => ?_)
      refine And.intro (t_in (by omega)) ?_
      intro v28 ev28
      have f30 := h_m_handSeconds r26.toNatClampNeg
      have f29 : Int32.toInt (x7 + (nU r26.toNatClampNeg)) = Int32.toInt x7 + Int32.toInt (nU r26.toNatClampNeg) := ta_add _ _ (by omega)
      rw [← ev28] at f29
      intro v31 ev31
      have hv31 := congrArg Int32.toInt ev31
      intro v33 ev33
      intro v34 ev34
      have f35 := ti_andr v33 1 (by omega)
      have hv34 := congrArg Int32.toInt ev34
      refine And.intro (fun c36 => ?_) (fun c36 => ?_)
      · skip
        have c36 := mt (fa_eq _ _).mpr c36
        refine And.intro (fun _ => ?_) (fun h9 => absurd h9 (by decide))
        refine And.intro (t_in (by omega)) ?_
        intro v37 ev37
        have hv37 := congrArg Int32.toInt ev37
        intro v39 ev39
        have f41 : Int32.toInt (x9 - 1) = Int32.toInt x9 - Int32.toInt (1 : Int32) := ta_sub _ _ (by omega)
        have f40 := ti_andr x9 (x9 - 1) (by omega)
        have f42 := ti_andl x9 (x9 - 1) (by omega)
        have hv39 := congrArg Int32.toInt ev39
        have f43 := tp_r x4
        have f44 := tp_r v37
        exact hKn x1 x2 x3 x4 x5 x6 v28 v37 v39 bQ dG jY m_length qG uW eY dN aR aE bJ aW uM nU h_x1 h_x2 h_x3 h_x4 h_x5 h_x6 (by omega) (by omega) h_m_rowMany h_m_thrown h_m_read h_m_length h_m_top h_m_at h_m_wrong h_m_isAsked h_m_askedFruit h_m_askedStanding h_m_askedHook h_m_askedApron h_m_handSeconds hn96 (by omega)
      · skip
        have c36 := (fa_eq _ _).mp c36
        refine And.intro (fun h9 => absurd h9 (by decide)) (fun _ => ?_)
        refine And.intro (t_in (by omega)) ?_
        intro v45 ev45
        have f46 := h_m_worth r26.toNatClampNeg
        have hv45 := congrArg Int32.toInt ev45
        intro v47 ev47
        have f48 : Int32.toInt (v45 / 2) = Int32.toInt v45 / 2 := ti_div _ _ (by decide) (by omega) (by decide)
        rw [← ev47] at f48
        intro v49 ev49
        have hv49 := congrArg Int32.toInt ev49
        intro v51 ev51
        have f53 : Int32.toInt (x9 - 1) = Int32.toInt x9 - Int32.toInt (1 : Int32) := ta_sub _ _ (by omega)
        have f52 := ti_andr x9 (x9 - 1) (by omega)
        have f54 := ti_andl x9 (x9 - 1) (by omega)
        have hv51 := congrArg Int32.toInt ev51
        have f55 := tp_r x4
        have f56 := tp_r v49
        exact hKn x1 x2 x3 x4 x5 x6 v28 v49 v51 bQ dG jY m_length qG uW eY dN aR aE bJ aW uM nU h_x1 h_x2 h_x3 h_x4 h_x5 h_x6 (by omega) (by omega) h_m_rowMany h_m_thrown h_m_read h_m_length h_m_top h_m_at h_m_wrong h_m_isAsked h_m_askedFruit h_m_askedStanding h_m_askedHook h_m_askedApron h_m_handSeconds hn96 (by omega)
set_option maxHeartbeats 8000000 in
set_option maxRecDepth 200000 in
theorem tb_X10_dusk_111 {post : Int32 → Int32 → Int32 → Nat → Int32 → Int32 → Int32 → Int32 → Int32 → Int32 → Int32 → Int32 → Int32 → (Nat → Int32) → (Nat → Int32) → Prop} {SB : Int} {K96 : Int32 → Int32 → Int32 → Int32 → Int32 → Int32 → Int32 → Int32 → Nat → Int32 → Int32 → Int32 → Int32 → Int32 → Int32 → Int32 → Int32 → Int32 → (Nat → Int32) → (Nat → Int32) → Prop} {n96 : Int} (bW bU : Int32) (rD m_x jA pY rW oY pR pX rG rQ : Nat → Int32) (h_m_fruits : 0 ≤ Int32.toInt bW ∧ Int32.toInt bW ≤ 16) (h_m_ruleSize : 0 ≤ Int32.toInt bU ∧ Int32.toInt bU ≤ 40) (e0_m_now : ∀ k : Nat, k = 17 → -1 ≤ Int32.toInt (rD k) ∧ Int32.toInt (rD k) ≤ SB) (e1_m_now : ∀ k : Nat, k = 19 → 0 ≤ Int32.toInt (rD k) ∧ Int32.toInt (rD k) ≤ 9) (h_m_x : ∀ k : Nat, 0 ≤ Int32.toInt (m_x k) ∧ Int32.toInt (m_x k) ≤ 99) (h_m_height : ∀ k : Nat, 0 ≤ Int32.toInt (jA k) ∧ Int32.toInt (jA k) ≤ 99) (h_m_worth : ∀ k : Nat, 0 ≤ Int32.toInt (pY k) ∧ Int32.toInt (pY k) ≤ 9) (h_m_ripe : ∀ k : Nat, 0 ≤ Int32.toInt (rW k) ∧ Int32.toInt (rW k) ≤ 9) (h_m_foot : ∀ k : Nat, 0 ≤ Int32.toInt (oY k) ∧ Int32.toInt (oY k) ≤ 99) (h_m_fork : ∀ k : Nat, 0 ≤ Int32.toInt (pR k) ∧ Int32.toInt (pR k) ≤ 99) (e0_m_told : ∀ k : Nat, k = 4 → 1 ≤ Int32.toInt (pX k) ∧ Int32.toInt (pX k) ≤ 30) (e1_m_told : ∀ k : Nat, k = 3 → 0 ≤ Int32.toInt (pX k) ∧ Int32.toInt (pX k) ≤ 9) (h_m_text : ∀ k : Nat, -128 ≤ Int32.toInt (rG k) ∧ Int32.toInt (rG k) ≤ 127) (h_m_rule : ∀ k : Nat, -128 ≤ Int32.toInt (rQ k) ∧ Int32.toInt (rQ k) ≤ 127) (hc0 : -1 ≤ SB ∧ SB ≤ 7) (hpost : ∀ (r : Int32) (m_rowMany' : Int32) (m_thrown' : Int32) (m_read' : Nat) (m_length' : Int32) (m_top' : Int32) (m_at' : Int32) (m_wrong' : Int32) (m_isAsked' : Int32) (m_askedFruit' : Int32) (m_askedStanding' : Int32) (m_askedHook' : Int32) (m_askedApron' : Int32) (m_row' : Nat → Int32) (m_handSeconds' : Nat → Int32), (-2 ≤ Int32.toInt r ∧ Int32.toInt r ≤ 2147483647) → (0 ≤ Int32.toInt m_rowMany' ∧ Int32.toInt m_rowMany' ≤ 16) → (0 ≤ Int32.toInt m_thrown' ∧ Int32.toInt m_thrown' ≤ 0) → (m_read' = 0 ∨ m_read' = 1 ∨ m_read' = 2) → (0 ≤ Int32.toInt m_length' ∧ Int32.toInt m_length' ≤ 80) → (0 ≤ Int32.toInt m_top' ∧ Int32.toInt m_top' ≤ 80) → (0 ≤ Int32.toInt m_at' ∧ Int32.toInt m_at' ≤ 80) → (-1 ≤ Int32.toInt m_wrong' ∧ Int32.toInt m_wrong' ≤ 80) → (0 ≤ Int32.toInt m_isAsked' ∧ Int32.toInt m_isAsked' ≤ 0) → (0 ≤ Int32.toInt m_askedFruit' ∧ Int32.toInt m_askedFruit' ≤ 15) → (0 ≤ Int32.toInt m_askedStanding' ∧ Int32.toInt m_askedStanding' ≤ 7) → (0 ≤ Int32.toInt m_askedHook' ∧ Int32.toInt m_askedHook' ≤ 1) → (0 ≤ Int32.toInt m_askedApron' ∧ Int32.toInt m_askedApron' ≤ 63) → (∀ k : Nat, 0 ≤ Int32.toInt (m_handSeconds' k) ∧ Int32.toInt (m_handSeconds' k) ≤ 99) → post r m_rowMany' m_thrown' m_read' m_length' m_top' m_at' m_wrong' m_isAsked' m_askedFruit' m_askedStanding' m_askedHook' m_askedApron' m_row' m_handSeconds') (hK96 : ∀ (x1 : Int32) (x2 : Int32) (x3 : Int32) (x4 : Int32) (x5 : Int32) (x6 : Int32) (bQ : Int32) (dG : Int32) (jY : Nat) (m_length : Int32) (qG : Int32) (uW : Int32) (eY : Int32) (dN : Int32) (aR : Int32) (aE : Int32) (bJ : Int32) (aW : Int32) (uM : Nat → Int32) (nU : Nat → Int32), (0 ≤ Int32.toInt x1 ∧ Int32.toInt x1 ≤ 300) → (0 ≤ Int32.toInt x2 ∧ Int32.toInt x2 ≤ 65535) → (0 ≤ Int32.toInt x3 ∧ Int32.toInt x3 ≤ 65535) → (0 ≤ Int32.toInt x4 ∧ Int32.toInt x4 ≤ 2147483647) → (0 ≤ Int32.toInt x5 ∧ Int32.toInt x5 ≤ 300) → (0 ≤ Int32.toInt x6 ∧ Int32.toInt x6 ≤ 65535) → (0 ≤ Int32.toInt bQ ∧ Int32.toInt bQ ≤ 16) → (0 ≤ Int32.toInt dG ∧ Int32.toInt dG ≤ 0) → (jY = 0 ∨ jY = 1 ∨ jY = 2) → (0 ≤ Int32.toInt m_length ∧ Int32.toInt m_length ≤ 80) → (0 ≤ Int32.toInt qG ∧ Int32.toInt qG ≤ 80) → (0 ≤ Int32.toInt uW ∧ Int32.toInt uW ≤ 80) → (-1 ≤ Int32.toInt eY ∧ Int32.toInt eY ≤ 80) → (0 ≤ Int32.toInt dN ∧ Int32.toInt dN ≤ 0) → (0 ≤ Int32.toInt aR ∧ Int32.toInt aR ≤ 15) → (0 ≤ Int32.toInt aE ∧ Int32.toInt aE ≤ 7) → (0 ≤ Int32.toInt bJ ∧ Int32.toInt bJ ≤ 1) → (0 ≤ Int32.toInt aW ∧ Int32.toInt aW ≤ 63) → (∀ k : Nat, 0 ≤ Int32.toInt (nU k) ∧ Int32.toInt (nU k) ≤ 99) → (Int32.toInt x6 < n96) → K96 x1 x2 x3 x4 x5 x6 bQ dG jY m_length qG uW eY dN aR aE bJ aW uM nU) : ∀ (n : Nat) (x1 x2 x3 x4 x5 x6 x7 x8 x9 bQ dG : Int32) (jY : Nat) (m_length qG uW eY dN aR aE bJ aW : Int32) (uM nU : Nat → Int32), (0 ≤ Int32.toInt x1 ∧ Int32.toInt x1 ≤ 300) → (0 ≤ Int32.toInt x2 ∧ Int32.toInt x2 ≤ 65535) → (0 ≤ Int32.toInt x3 ∧ Int32.toInt x3 ≤ 65535) → (0 ≤ Int32.toInt x4 ∧ Int32.toInt x4 ≤ 2147483647) → (0 ≤ Int32.toInt x5 ∧ Int32.toInt x5 ≤ 300) → (1 ≤ Int32.toInt x6 ∧ Int32.toInt x6 ≤ 65535) → (0 ≤ Int32.toInt x7 ∧ Int32.toInt x7 ≤ 511) → (0 ≤ Int32.toInt x9 ∧ Int32.toInt x9 ≤ 65535) → (0 ≤ Int32.toInt bQ ∧ Int32.toInt bQ ≤ 16) → (0 ≤ Int32.toInt dG ∧ Int32.toInt dG ≤ 0) → (jY = 0 ∨ jY = 1 ∨ jY = 2) → (0 ≤ Int32.toInt m_length ∧ Int32.toInt m_length ≤ 80) → (0 ≤ Int32.toInt qG ∧ Int32.toInt qG ≤ 80) → (0 ≤ Int32.toInt uW ∧ Int32.toInt uW ≤ 80) → (-1 ≤ Int32.toInt eY ∧ Int32.toInt eY ≤ 80) → (0 ≤ Int32.toInt dN ∧ Int32.toInt dN ≤ 0) → (0 ≤ Int32.toInt aR ∧ Int32.toInt aR ≤ 15) → (0 ≤ Int32.toInt aE ∧ Int32.toInt aE ≤ 7) → (0 ≤ Int32.toInt bJ ∧ Int32.toInt bJ ≤ 1) → (0 ≤ Int32.toInt aW ∧ Int32.toInt aW ≤ 63) → (∀ k : Nat, 0 ≤ Int32.toInt (nU k) ∧ Int32.toInt (nU k) ≤ 99) → (Int32.toInt x6 ≤ n96) → (Int32.toInt x9 < (n : Int)) → wb_X10_dusk_111 post K96 bW bU rD m_x jA pY rW oY pR pX rG rQ n x1 x2 x3 x4 x5 x6 x7 x8 x9 bQ dG jY m_length qG uW eY dN aR aE bJ aW uM nU := by
  intro n
  induction n with
  | zero =>
    intro x1 x2 x3 x4 x5 x6 x7 x8 x9 bQ dG jY m_length qG uW eY dN aR aE bJ aW uM nU h_x1 h_x2 h_x3 h_x4 h_x5 h_x6 h_x7 h_x9 h_m_rowMany h_m_thrown h_m_read h_m_length h_m_top h_m_at h_m_wrong h_m_isAsked h_m_askedFruit h_m_askedStanding h_m_askedHook h_m_askedApron h_m_handSeconds hn96 hm
    exfalso; omega
  | succ n ih =>
    intro x1 x2 x3 x4 x5 x6 x7 x8 x9 bQ dG jY m_length qG uW eY dN aR aE bJ aW uM nU h_x1 h_x2 h_x3 h_x4 h_x5 h_x6 h_x7 h_x9 h_m_rowMany h_m_thrown h_m_read h_m_length h_m_top h_m_at h_m_wrong h_m_isAsked h_m_askedFruit h_m_askedStanding h_m_askedHook h_m_askedApron h_m_handSeconds hn96 hm
    exact ts_X10_dusk_111 bW bU rD m_x jA pY rW oY pR pX rG rQ h_m_fruits h_m_ruleSize e0_m_now e1_m_now h_m_x h_m_height h_m_worth h_m_ripe h_m_foot h_m_fork e0_m_told e1_m_told h_m_text h_m_rule hc0 hpost hK96 ih x1 x2 x3 x4 x5 x6 x7 x8 x9 bQ dG jY m_length qG uW eY dN aR aE bJ aW uM nU h_x1 h_x2 h_x3 h_x4 h_x5 h_x6 h_x7 h_x9 h_m_rowMany h_m_thrown h_m_read h_m_length h_m_top h_m_at h_m_wrong h_m_isAsked h_m_askedFruit h_m_askedStanding h_m_askedHook h_m_askedApron h_m_handSeconds hn96 (by omega)
set_option maxHeartbeats 8000000 in
set_option maxRecDepth 200000 in
theorem ts_X10_dusk_96 {post : Int32 → Int32 → Int32 → Nat → Int32 → Int32 → Int32 → Int32 → Int32 → Int32 → Int32 → Int32 → Int32 → (Nat → Int32) → (Nat → Int32) → Prop} {SB : Int} {next : Int32 → Int32 → Int32 → Int32 → Int32 → Int32 → Int32 → Int32 → Nat → Int32 → Int32 → Int32 → Int32 → Int32 → Int32 → Int32 → Int32 → Int32 → (Nat → Int32) → (Nat → Int32) → Prop} {n96 : Int} (bW bU : Int32) (rD m_x jA pY rW oY pR pX rG rQ : Nat → Int32) (h_m_fruits : 0 ≤ Int32.toInt bW ∧ Int32.toInt bW ≤ 16) (h_m_ruleSize : 0 ≤ Int32.toInt bU ∧ Int32.toInt bU ≤ 40) (e0_m_now : ∀ k : Nat, k = 17 → -1 ≤ Int32.toInt (rD k) ∧ Int32.toInt (rD k) ≤ SB) (e1_m_now : ∀ k : Nat, k = 19 → 0 ≤ Int32.toInt (rD k) ∧ Int32.toInt (rD k) ≤ 9) (h_m_x : ∀ k : Nat, 0 ≤ Int32.toInt (m_x k) ∧ Int32.toInt (m_x k) ≤ 99) (h_m_height : ∀ k : Nat, 0 ≤ Int32.toInt (jA k) ∧ Int32.toInt (jA k) ≤ 99) (h_m_worth : ∀ k : Nat, 0 ≤ Int32.toInt (pY k) ∧ Int32.toInt (pY k) ≤ 9) (h_m_ripe : ∀ k : Nat, 0 ≤ Int32.toInt (rW k) ∧ Int32.toInt (rW k) ≤ 9) (h_m_foot : ∀ k : Nat, 0 ≤ Int32.toInt (oY k) ∧ Int32.toInt (oY k) ≤ 99) (h_m_fork : ∀ k : Nat, 0 ≤ Int32.toInt (pR k) ∧ Int32.toInt (pR k) ≤ 99) (e0_m_told : ∀ k : Nat, k = 4 → 1 ≤ Int32.toInt (pX k) ∧ Int32.toInt (pX k) ≤ 30) (e1_m_told : ∀ k : Nat, k = 3 → 0 ≤ Int32.toInt (pX k) ∧ Int32.toInt (pX k) ≤ 9) (h_m_text : ∀ k : Nat, -128 ≤ Int32.toInt (rG k) ∧ Int32.toInt (rG k) ≤ 127) (h_m_rule : ∀ k : Nat, -128 ≤ Int32.toInt (rQ k) ∧ Int32.toInt (rQ k) ≤ 127) (hc0 : -1 ≤ SB ∧ SB ≤ 7) (hpost : ∀ (r : Int32) (m_rowMany' : Int32) (m_thrown' : Int32) (m_read' : Nat) (m_length' : Int32) (m_top' : Int32) (m_at' : Int32) (m_wrong' : Int32) (m_isAsked' : Int32) (m_askedFruit' : Int32) (m_askedStanding' : Int32) (m_askedHook' : Int32) (m_askedApron' : Int32) (m_row' : Nat → Int32) (m_handSeconds' : Nat → Int32), (-2 ≤ Int32.toInt r ∧ Int32.toInt r ≤ 2147483647) → (0 ≤ Int32.toInt m_rowMany' ∧ Int32.toInt m_rowMany' ≤ 16) → (0 ≤ Int32.toInt m_thrown' ∧ Int32.toInt m_thrown' ≤ 0) → (m_read' = 0 ∨ m_read' = 1 ∨ m_read' = 2) → (0 ≤ Int32.toInt m_length' ∧ Int32.toInt m_length' ≤ 80) → (0 ≤ Int32.toInt m_top' ∧ Int32.toInt m_top' ≤ 80) → (0 ≤ Int32.toInt m_at' ∧ Int32.toInt m_at' ≤ 80) → (-1 ≤ Int32.toInt m_wrong' ∧ Int32.toInt m_wrong' ≤ 80) → (0 ≤ Int32.toInt m_isAsked' ∧ Int32.toInt m_isAsked' ≤ 0) → (0 ≤ Int32.toInt m_askedFruit' ∧ Int32.toInt m_askedFruit' ≤ 15) → (0 ≤ Int32.toInt m_askedStanding' ∧ Int32.toInt m_askedStanding' ≤ 7) → (0 ≤ Int32.toInt m_askedHook' ∧ Int32.toInt m_askedHook' ≤ 1) → (0 ≤ Int32.toInt m_askedApron' ∧ Int32.toInt m_askedApron' ≤ 63) → (∀ k : Nat, 0 ≤ Int32.toInt (m_handSeconds' k) ∧ Int32.toInt (m_handSeconds' k) ≤ 99) → post r m_rowMany' m_thrown' m_read' m_length' m_top' m_at' m_wrong' m_isAsked' m_askedFruit' m_askedStanding' m_askedHook' m_askedApron' m_row' m_handSeconds') (hKn : ∀ (x1 : Int32) (x2 : Int32) (x3 : Int32) (x4 : Int32) (x5 : Int32) (x6 : Int32) (bQ : Int32) (dG : Int32) (jY : Nat) (m_length : Int32) (qG : Int32) (uW : Int32) (eY : Int32) (dN : Int32) (aR : Int32) (aE : Int32) (bJ : Int32) (aW : Int32) (uM : Nat → Int32) (nU : Nat → Int32), (0 ≤ Int32.toInt x1 ∧ Int32.toInt x1 ≤ 300) → (0 ≤ Int32.toInt x2 ∧ Int32.toInt x2 ≤ 65535) → (0 ≤ Int32.toInt x3 ∧ Int32.toInt x3 ≤ 65535) → (0 ≤ Int32.toInt x4 ∧ Int32.toInt x4 ≤ 2147483647) → (0 ≤ Int32.toInt x5 ∧ Int32.toInt x5 ≤ 300) → (0 ≤ Int32.toInt x6 ∧ Int32.toInt x6 ≤ 65535) → (0 ≤ Int32.toInt bQ ∧ Int32.toInt bQ ≤ 16) → (0 ≤ Int32.toInt dG ∧ Int32.toInt dG ≤ 0) → (jY = 0 ∨ jY = 1 ∨ jY = 2) → (0 ≤ Int32.toInt m_length ∧ Int32.toInt m_length ≤ 80) → (0 ≤ Int32.toInt qG ∧ Int32.toInt qG ≤ 80) → (0 ≤ Int32.toInt uW ∧ Int32.toInt uW ≤ 80) → (-1 ≤ Int32.toInt eY ∧ Int32.toInt eY ≤ 80) → (0 ≤ Int32.toInt dN ∧ Int32.toInt dN ≤ 0) → (0 ≤ Int32.toInt aR ∧ Int32.toInt aR ≤ 15) → (0 ≤ Int32.toInt aE ∧ Int32.toInt aE ≤ 7) → (0 ≤ Int32.toInt bJ ∧ Int32.toInt bJ ≤ 1) → (0 ≤ Int32.toInt aW ∧ Int32.toInt aW ≤ 63) → (∀ k : Nat, 0 ≤ Int32.toInt (nU k) ∧ Int32.toInt (nU k) ≤ 99) → (Int32.toInt x6 < n96) → next x1 x2 x3 x4 x5 x6 bQ dG jY m_length qG uW eY dN aR aE bJ aW uM nU) (x1 x2 x3 x4 x5 x6 bQ dG : Int32) (jY : Nat) (m_length qG uW eY dN aR aE bJ aW : Int32) (uM nU : Nat → Int32) (h_x1 : 0 ≤ Int32.toInt x1 ∧ Int32.toInt x1 ≤ 300) (h_x2 : 0 ≤ Int32.toInt x2 ∧ Int32.toInt x2 ≤ 65535) (h_x3 : 0 ≤ Int32.toInt x3 ∧ Int32.toInt x3 ≤ 65535) (h_x4 : 0 ≤ Int32.toInt x4 ∧ Int32.toInt x4 ≤ 2147483647) (h_x5 : 0 ≤ Int32.toInt x5 ∧ Int32.toInt x5 ≤ 300) (h_x6 : 0 ≤ Int32.toInt x6 ∧ Int32.toInt x6 ≤ 65535) (h_m_rowMany : 0 ≤ Int32.toInt bQ ∧ Int32.toInt bQ ≤ 16) (h_m_thrown : 0 ≤ Int32.toInt dG ∧ Int32.toInt dG ≤ 0) (h_m_read : jY = 0 ∨ jY = 1 ∨ jY = 2) (h_m_length : 0 ≤ Int32.toInt m_length ∧ Int32.toInt m_length ≤ 80) (h_m_top : 0 ≤ Int32.toInt qG ∧ Int32.toInt qG ≤ 80) (h_m_at : 0 ≤ Int32.toInt uW ∧ Int32.toInt uW ≤ 80) (h_m_wrong : -1 ≤ Int32.toInt eY ∧ Int32.toInt eY ≤ 80) (h_m_isAsked : 0 ≤ Int32.toInt dN ∧ Int32.toInt dN ≤ 0) (h_m_askedFruit : 0 ≤ Int32.toInt aR ∧ Int32.toInt aR ≤ 15) (h_m_askedStanding : 0 ≤ Int32.toInt aE ∧ Int32.toInt aE ≤ 7) (h_m_askedHook : 0 ≤ Int32.toInt bJ ∧ Int32.toInt bJ ≤ 1) (h_m_askedApron : 0 ≤ Int32.toInt aW ∧ Int32.toInt aW ≤ 63) (h_m_handSeconds : ∀ k : Nat, 0 ≤ Int32.toInt (nU k) ∧ Int32.toInt (nU k) ≤ 99) (hn96 : Int32.toInt x6 ≤ n96) : ws_X10_dusk_96 post next bW bU rD m_x jA pY rW oY pR pX rG rQ x1 x2 x3 x4 x5 x6 bQ dG jY m_length qG uW eY dN aR aE bJ aW uM nU := by
  have l0 := li_0
  have l1 := li_1
  refine And.intro (fun c57 => ?_) (fun c57 => ?_)
  · skip
    have c57 := (fa_le _ _).mp c57
    refine And.intro (t_in (by omega)) ?_
    intro v58 ev58
    have f59 : Int32.toInt (0 + 1) = Int32.toInt (0 : Int32) + Int32.toInt (1 : Int32) := ta_add _ _ (by omega)
    rw [← ev58] at f59
    refine And.intro (t_in (by omega)) ?_
    intro v60 ev60
    have f61 : Int32.toInt (v58 + 1) = Int32.toInt v58 + Int32.toInt (1 : Int32) := ta_add _ _ (by omega)
    rw [← ev60] at f61
    have f62 := tp_r x4
    exact hpost _ _ _ _ _ _ _ _ _ _ _ _ _ _ _ (by omega) (by omega) h_m_thrown h_m_read h_m_length h_m_top h_m_at h_m_wrong h_m_isAsked h_m_askedFruit h_m_askedStanding h_m_askedHook h_m_askedApron h_m_handSeconds
  · skip
    have c57 := mt (fa_le _ _).mpr c57
    have f63 := tp_r x4
    exact ⟨65537, tb_X10_dusk_111 bW bU rD m_x jA pY rW oY pR pX rG rQ h_m_fruits h_m_ruleSize e0_m_now e1_m_now h_m_x h_m_height h_m_worth h_m_ripe h_m_foot h_m_fork e0_m_told e1_m_told h_m_text h_m_rule hc0 hpost hKn _ x1 x2 x3 x4 x5 x6 0 0 x6 bQ dG jY m_length qG uW eY dN aR aE bJ aW uM nU h_x1 h_x2 h_x3 h_x4 h_x5 (by omega) (by omega) h_x6 h_m_rowMany h_m_thrown h_m_read h_m_length h_m_top h_m_at h_m_wrong h_m_isAsked h_m_askedFruit h_m_askedStanding h_m_askedHook h_m_askedApron h_m_handSeconds hn96 (by omega)⟩
set_option maxHeartbeats 8000000 in
set_option maxRecDepth 200000 in
theorem tb_X10_dusk_96 {post : Int32 → Int32 → Int32 → Nat → Int32 → Int32 → Int32 → Int32 → Int32 → Int32 → Int32 → Int32 → Int32 → (Nat → Int32) → (Nat → Int32) → Prop} {SB : Int} (bW bU : Int32) (rD m_x jA pY rW oY pR pX rG rQ : Nat → Int32) (h_m_fruits : 0 ≤ Int32.toInt bW ∧ Int32.toInt bW ≤ 16) (h_m_ruleSize : 0 ≤ Int32.toInt bU ∧ Int32.toInt bU ≤ 40) (e0_m_now : ∀ k : Nat, k = 17 → -1 ≤ Int32.toInt (rD k) ∧ Int32.toInt (rD k) ≤ SB) (e1_m_now : ∀ k : Nat, k = 19 → 0 ≤ Int32.toInt (rD k) ∧ Int32.toInt (rD k) ≤ 9) (h_m_x : ∀ k : Nat, 0 ≤ Int32.toInt (m_x k) ∧ Int32.toInt (m_x k) ≤ 99) (h_m_height : ∀ k : Nat, 0 ≤ Int32.toInt (jA k) ∧ Int32.toInt (jA k) ≤ 99) (h_m_worth : ∀ k : Nat, 0 ≤ Int32.toInt (pY k) ∧ Int32.toInt (pY k) ≤ 9) (h_m_ripe : ∀ k : Nat, 0 ≤ Int32.toInt (rW k) ∧ Int32.toInt (rW k) ≤ 9) (h_m_foot : ∀ k : Nat, 0 ≤ Int32.toInt (oY k) ∧ Int32.toInt (oY k) ≤ 99) (h_m_fork : ∀ k : Nat, 0 ≤ Int32.toInt (pR k) ∧ Int32.toInt (pR k) ≤ 99) (e0_m_told : ∀ k : Nat, k = 4 → 1 ≤ Int32.toInt (pX k) ∧ Int32.toInt (pX k) ≤ 30) (e1_m_told : ∀ k : Nat, k = 3 → 0 ≤ Int32.toInt (pX k) ∧ Int32.toInt (pX k) ≤ 9) (h_m_text : ∀ k : Nat, -128 ≤ Int32.toInt (rG k) ∧ Int32.toInt (rG k) ≤ 127) (h_m_rule : ∀ k : Nat, -128 ≤ Int32.toInt (rQ k) ∧ Int32.toInt (rQ k) ≤ 127) (hc0 : -1 ≤ SB ∧ SB ≤ 7) (hpost : ∀ (r : Int32) (m_rowMany' : Int32) (m_thrown' : Int32) (m_read' : Nat) (m_length' : Int32) (m_top' : Int32) (m_at' : Int32) (m_wrong' : Int32) (m_isAsked' : Int32) (m_askedFruit' : Int32) (m_askedStanding' : Int32) (m_askedHook' : Int32) (m_askedApron' : Int32) (m_row' : Nat → Int32) (m_handSeconds' : Nat → Int32), (-2 ≤ Int32.toInt r ∧ Int32.toInt r ≤ 2147483647) → (0 ≤ Int32.toInt m_rowMany' ∧ Int32.toInt m_rowMany' ≤ 16) → (0 ≤ Int32.toInt m_thrown' ∧ Int32.toInt m_thrown' ≤ 0) → (m_read' = 0 ∨ m_read' = 1 ∨ m_read' = 2) → (0 ≤ Int32.toInt m_length' ∧ Int32.toInt m_length' ≤ 80) → (0 ≤ Int32.toInt m_top' ∧ Int32.toInt m_top' ≤ 80) → (0 ≤ Int32.toInt m_at' ∧ Int32.toInt m_at' ≤ 80) → (-1 ≤ Int32.toInt m_wrong' ∧ Int32.toInt m_wrong' ≤ 80) → (0 ≤ Int32.toInt m_isAsked' ∧ Int32.toInt m_isAsked' ≤ 0) → (0 ≤ Int32.toInt m_askedFruit' ∧ Int32.toInt m_askedFruit' ≤ 15) → (0 ≤ Int32.toInt m_askedStanding' ∧ Int32.toInt m_askedStanding' ≤ 7) → (0 ≤ Int32.toInt m_askedHook' ∧ Int32.toInt m_askedHook' ≤ 1) → (0 ≤ Int32.toInt m_askedApron' ∧ Int32.toInt m_askedApron' ≤ 63) → (∀ k : Nat, 0 ≤ Int32.toInt (m_handSeconds' k) ∧ Int32.toInt (m_handSeconds' k) ≤ 99) → post r m_rowMany' m_thrown' m_read' m_length' m_top' m_at' m_wrong' m_isAsked' m_askedFruit' m_askedStanding' m_askedHook' m_askedApron' m_row' m_handSeconds') : ∀ (n : Nat) (x1 x2 x3 x4 x5 x6 bQ dG : Int32) (jY : Nat) (m_length qG uW eY dN aR aE bJ aW : Int32) (uM nU : Nat → Int32), (0 ≤ Int32.toInt x1 ∧ Int32.toInt x1 ≤ 300) → (0 ≤ Int32.toInt x2 ∧ Int32.toInt x2 ≤ 65535) → (0 ≤ Int32.toInt x3 ∧ Int32.toInt x3 ≤ 65535) → (0 ≤ Int32.toInt x4 ∧ Int32.toInt x4 ≤ 2147483647) → (0 ≤ Int32.toInt x5 ∧ Int32.toInt x5 ≤ 300) → (0 ≤ Int32.toInt x6 ∧ Int32.toInt x6 ≤ 65535) → (0 ≤ Int32.toInt bQ ∧ Int32.toInt bQ ≤ 16) → (0 ≤ Int32.toInt dG ∧ Int32.toInt dG ≤ 0) → (jY = 0 ∨ jY = 1 ∨ jY = 2) → (0 ≤ Int32.toInt m_length ∧ Int32.toInt m_length ≤ 80) → (0 ≤ Int32.toInt qG ∧ Int32.toInt qG ≤ 80) → (0 ≤ Int32.toInt uW ∧ Int32.toInt uW ≤ 80) → (-1 ≤ Int32.toInt eY ∧ Int32.toInt eY ≤ 80) → (0 ≤ Int32.toInt dN ∧ Int32.toInt dN ≤ 0) → (0 ≤ Int32.toInt aR ∧ Int32.toInt aR ≤ 15) → (0 ≤ Int32.toInt aE ∧ Int32.toInt aE ≤ 7) → (0 ≤ Int32.toInt bJ ∧ Int32.toInt bJ ≤ 1) → (0 ≤ Int32.toInt aW ∧ Int32.toInt aW ≤ 63) → (∀ k : Nat, 0 ≤ Int32.toInt (nU k) ∧ Int32.toInt (nU k) ≤ 99) → (Int32.toInt x6 < (n : Int)) → wb_X10_dusk_96 post bW bU rD m_x jA pY rW oY pR pX rG rQ n x1 x2 x3 x4 x5 x6 bQ dG jY m_length qG uW eY dN aR aE bJ aW uM nU := by
  intro n
  induction n with
  | zero =>
    intro x1 x2 x3 x4 x5 x6 bQ dG jY m_length qG uW eY dN aR aE bJ aW uM nU h_x1 h_x2 h_x3 h_x4 h_x5 h_x6 h_m_rowMany h_m_thrown h_m_read h_m_length h_m_top h_m_at h_m_wrong h_m_isAsked h_m_askedFruit h_m_askedStanding h_m_askedHook h_m_askedApron h_m_handSeconds hm
    exfalso; omega
  | succ n ih =>
    intro x1 x2 x3 x4 x5 x6 bQ dG jY m_length qG uW eY dN aR aE bJ aW uM nU h_x1 h_x2 h_x3 h_x4 h_x5 h_x6 h_m_rowMany h_m_thrown h_m_read h_m_length h_m_top h_m_at h_m_wrong h_m_isAsked h_m_askedFruit h_m_askedStanding h_m_askedHook h_m_askedApron h_m_handSeconds hm
    exact ts_X10_dusk_96 bW bU rD m_x jA pY rW oY pR pX rG rQ h_m_fruits h_m_ruleSize e0_m_now e1_m_now h_m_x h_m_height h_m_worth h_m_ripe h_m_foot h_m_fork e0_m_told e1_m_told h_m_text h_m_rule hc0 hpost ih x1 x2 x3 x4 x5 x6 bQ dG jY m_length qG uW eY dN aR aE bJ aW uM nU h_x1 h_x2 h_x3 h_x4 h_x5 h_x6 h_m_rowMany h_m_thrown h_m_read h_m_length h_m_top h_m_at h_m_wrong h_m_isAsked h_m_askedFruit h_m_askedStanding h_m_askedHook h_m_askedApron h_m_handSeconds (by omega)
set_option maxHeartbeats 8000000 in
set_option maxRecDepth 200000 in
theorem ts_X10_dusk_78 {post : Int32 → Int32 → Int32 → Nat → Int32 → Int32 → Int32 → Int32 → Int32 → Int32 → Int32 → Int32 → Int32 → (Nat → Int32) → (Nat → Int32) → Prop} {SB : Int} {K39 : Int32 → Int32 → Int32 → Int32 → Int32 → Nat → Int32 → Int32 → Int32 → Int32 → Int32 → Int32 → Int32 → Int32 → Int32 → (Nat → Int32) → (Nat → Int32) → Prop} {n39 : Int} (bW bU : Int32) (rD m_x jA pY rW oY pR pX rG rQ : Nat → Int32) (h_m_fruits : 0 ≤ Int32.toInt bW ∧ Int32.toInt bW ≤ 16) (h_m_ruleSize : 0 ≤ Int32.toInt bU ∧ Int32.toInt bU ≤ 40) (e0_m_now : ∀ k : Nat, k = 17 → -1 ≤ Int32.toInt (rD k) ∧ Int32.toInt (rD k) ≤ SB) (e1_m_now : ∀ k : Nat, k = 19 → 0 ≤ Int32.toInt (rD k) ∧ Int32.toInt (rD k) ≤ 9) (h_m_x : ∀ k : Nat, 0 ≤ Int32.toInt (m_x k) ∧ Int32.toInt (m_x k) ≤ 99) (h_m_height : ∀ k : Nat, 0 ≤ Int32.toInt (jA k) ∧ Int32.toInt (jA k) ≤ 99) (h_m_worth : ∀ k : Nat, 0 ≤ Int32.toInt (pY k) ∧ Int32.toInt (pY k) ≤ 9) (h_m_ripe : ∀ k : Nat, 0 ≤ Int32.toInt (rW k) ∧ Int32.toInt (rW k) ≤ 9) (h_m_foot : ∀ k : Nat, 0 ≤ Int32.toInt (oY k) ∧ Int32.toInt (oY k) ≤ 99) (h_m_fork : ∀ k : Nat, 0 ≤ Int32.toInt (pR k) ∧ Int32.toInt (pR k) ≤ 99) (e0_m_told : ∀ k : Nat, k = 4 → 1 ≤ Int32.toInt (pX k) ∧ Int32.toInt (pX k) ≤ 30) (e1_m_told : ∀ k : Nat, k = 3 → 0 ≤ Int32.toInt (pX k) ∧ Int32.toInt (pX k) ≤ 9) (h_m_text : ∀ k : Nat, -128 ≤ Int32.toInt (rG k) ∧ Int32.toInt (rG k) ≤ 127) (h_m_rule : ∀ k : Nat, -128 ≤ Int32.toInt (rQ k) ∧ Int32.toInt (rQ k) ≤ 127) (hc0 : -1 ≤ SB ∧ SB ≤ 7) (hpost : ∀ (r : Int32) (m_rowMany' : Int32) (m_thrown' : Int32) (m_read' : Nat) (m_length' : Int32) (m_top' : Int32) (m_at' : Int32) (m_wrong' : Int32) (m_isAsked' : Int32) (m_askedFruit' : Int32) (m_askedStanding' : Int32) (m_askedHook' : Int32) (m_askedApron' : Int32) (m_row' : Nat → Int32) (m_handSeconds' : Nat → Int32), (-2 ≤ Int32.toInt r ∧ Int32.toInt r ≤ 2147483647) → (0 ≤ Int32.toInt m_rowMany' ∧ Int32.toInt m_rowMany' ≤ 16) → (0 ≤ Int32.toInt m_thrown' ∧ Int32.toInt m_thrown' ≤ 0) → (m_read' = 0 ∨ m_read' = 1 ∨ m_read' = 2) → (0 ≤ Int32.toInt m_length' ∧ Int32.toInt m_length' ≤ 80) → (0 ≤ Int32.toInt m_top' ∧ Int32.toInt m_top' ≤ 80) → (0 ≤ Int32.toInt m_at' ∧ Int32.toInt m_at' ≤ 80) → (-1 ≤ Int32.toInt m_wrong' ∧ Int32.toInt m_wrong' ≤ 80) → (0 ≤ Int32.toInt m_isAsked' ∧ Int32.toInt m_isAsked' ≤ 0) → (0 ≤ Int32.toInt m_askedFruit' ∧ Int32.toInt m_askedFruit' ≤ 15) → (0 ≤ Int32.toInt m_askedStanding' ∧ Int32.toInt m_askedStanding' ≤ 7) → (0 ≤ Int32.toInt m_askedHook' ∧ Int32.toInt m_askedHook' ≤ 1) → (0 ≤ Int32.toInt m_askedApron' ∧ Int32.toInt m_askedApron' ≤ 63) → (∀ k : Nat, 0 ≤ Int32.toInt (m_handSeconds' k) ∧ Int32.toInt (m_handSeconds' k) ≤ 99) → post r m_rowMany' m_thrown' m_read' m_length' m_top' m_at' m_wrong' m_isAsked' m_askedFruit' m_askedStanding' m_askedHook' m_askedApron' m_row' m_handSeconds') (hK39 : ∀ (x1 : Int32) (x2 : Int32) (x3 : Int32) (bQ : Int32) (dG : Int32) (jY : Nat) (m_length : Int32) (qG : Int32) (uW : Int32) (eY : Int32) (dN : Int32) (aR : Int32) (aE : Int32) (bJ : Int32) (aW : Int32) (uM : Nat → Int32) (nU : Nat → Int32), (0 ≤ Int32.toInt x1 ∧ Int32.toInt x1 ≤ 300) → (0 ≤ Int32.toInt x2 ∧ Int32.toInt x2 ≤ 65535) → (0 ≤ Int32.toInt x3 ∧ Int32.toInt x3 ≤ 16) → (0 ≤ Int32.toInt bQ ∧ Int32.toInt bQ ≤ 16) → (0 ≤ Int32.toInt dG ∧ Int32.toInt dG ≤ 0) → (jY = 0 ∨ jY = 1 ∨ jY = 2) → (0 ≤ Int32.toInt m_length ∧ Int32.toInt m_length ≤ 80) → (0 ≤ Int32.toInt qG ∧ Int32.toInt qG ≤ 80) → (0 ≤ Int32.toInt uW ∧ Int32.toInt uW ≤ 80) → (-1 ≤ Int32.toInt eY ∧ Int32.toInt eY ≤ 80) → (0 ≤ Int32.toInt dN ∧ Int32.toInt dN ≤ 0) → (0 ≤ Int32.toInt aR ∧ Int32.toInt aR ≤ 15) → (0 ≤ Int32.toInt aE ∧ Int32.toInt aE ≤ 7) → (0 ≤ Int32.toInt bJ ∧ Int32.toInt bJ ≤ 1) → (0 ≤ Int32.toInt aW ∧ Int32.toInt aW ≤ 63) → (∀ k : Nat, 0 ≤ Int32.toInt (nU k) ∧ Int32.toInt (nU k) ≤ 99) → (0 ≤ Int32.toInt (rD (17 : Int32).toNatClampNeg)) → (16 - Int32.toInt x3 < n39) → K39 x1 x2 x3 bQ dG jY m_length qG uW eY dN aR aE bJ aW uM nU) (x1 x2 x3 k1 k2 bQ dG : Int32) (jY : Nat) (m_length qG uW eY dN aR aE bJ aW : Int32) (uM nU : Nat → Int32) (h_x1 : 0 ≤ Int32.toInt x1 ∧ Int32.toInt x1 ≤ 300) (h_x2 : 0 ≤ Int32.toInt x2 ∧ Int32.toInt x2 ≤ 65535) (h_x3 : 0 ≤ Int32.toInt x3 ∧ Int32.toInt x3 ≤ 15) (h_k1 : 0 ≤ Int32.toInt k1 ∧ Int32.toInt k1 ≤ 15) (h_k2 : 0 ≤ Int32.toInt k2 ∧ Int32.toInt k2 ≤ 99) (h_m_rowMany : 0 ≤ Int32.toInt bQ ∧ Int32.toInt bQ ≤ 16) (h_m_thrown : 0 ≤ Int32.toInt dG ∧ Int32.toInt dG ≤ 0) (h_m_read : jY = 0 ∨ jY = 1 ∨ jY = 2) (h_m_length : 0 ≤ Int32.toInt m_length ∧ Int32.toInt m_length ≤ 80) (h_m_top : 0 ≤ Int32.toInt qG ∧ Int32.toInt qG ≤ 80) (h_m_at : 0 ≤ Int32.toInt uW ∧ Int32.toInt uW ≤ 80) (h_m_wrong : -1 ≤ Int32.toInt eY ∧ Int32.toInt eY ≤ 80) (h_m_isAsked : 0 ≤ Int32.toInt dN ∧ Int32.toInt dN ≤ 0) (h_m_askedFruit : 0 ≤ Int32.toInt aR ∧ Int32.toInt aR ≤ 15) (h_m_askedStanding : 0 ≤ Int32.toInt aE ∧ Int32.toInt aE ≤ 7) (h_m_askedHook : 0 ≤ Int32.toInt bJ ∧ Int32.toInt bJ ≤ 1) (h_m_askedApron : 0 ≤ Int32.toInt aW ∧ Int32.toInt aW ≤ 63) (h_m_handSeconds : ∀ k : Nat, 0 ≤ Int32.toInt (nU k) ∧ Int32.toInt (nU k) ≤ 99) (hx0 : 0 ≤ Int32.toInt (rD (17 : Int32).toNatClampNeg)) (hn39 : 16 - Int32.toInt x3 ≤ n39) : ws_X10_dusk_78 post K39 bW bU rD m_x jA pY rW oY pR pX rG rQ x1 x2 x3 k1 k2 bQ dG jY m_length qG uW eY dN aR aE bJ aW uM nU := by
  have l0 := li_1
  refine And.intro (t_in (by omega)) ?_
  have a64 : ∀ k : Nat, 0 ≤ Int32.toInt ((upd nU k1.toNatClampNeg k2) k) ∧ Int32.toInt ((upd nU k1.toNatClampNeg k2) k) ≤ 99 := t_upd (fun k => by have q9 := h_m_handSeconds k; omega) (by omega)
  intro v65 ev65
  have f66 : Int32.toInt (x3 + 1) = Int32.toInt x3 + Int32.toInt (1 : Int32) := ta_add _ _ (by omega)
  rw [← ev65] at f66
  exact hK39 x1 x2 v65 bQ dG jY m_length qG uW eY dN aR aE bJ aW uM (upd nU k1.toNatClampNeg k2) h_x1 h_x2 (by omega) h_m_rowMany h_m_thrown h_m_read h_m_length h_m_top h_m_at h_m_wrong h_m_isAsked h_m_askedFruit h_m_askedStanding h_m_askedHook h_m_askedApron (fun k => by have q9 := a64 k; omega) hx0 (by omega)
set_option maxHeartbeats 8000000 in
set_option maxRecDepth 200000 in
theorem ts_X10_dusk_39 {post : Int32 → Int32 → Int32 → Nat → Int32 → Int32 → Int32 → Int32 → Int32 → Int32 → Int32 → Int32 → Int32 → (Nat → Int32) → (Nat → Int32) → Prop} {SB : Int} {next : Int32 → Int32 → Int32 → Int32 → Int32 → Nat → Int32 → Int32 → Int32 → Int32 → Int32 → Int32 → Int32 → Int32 → Int32 → (Nat → Int32) → (Nat → Int32) → Prop} {n39 : Int} (bW bU : Int32) (rD m_x jA pY rW oY pR pX rG rQ : Nat → Int32) (h_m_fruits : 0 ≤ Int32.toInt bW ∧ Int32.toInt bW ≤ 16) (h_m_ruleSize : 0 ≤ Int32.toInt bU ∧ Int32.toInt bU ≤ 40) (e0_m_now : ∀ k : Nat, k = 17 → -1 ≤ Int32.toInt (rD k) ∧ Int32.toInt (rD k) ≤ SB) (e1_m_now : ∀ k : Nat, k = 19 → 0 ≤ Int32.toInt (rD k) ∧ Int32.toInt (rD k) ≤ 9) (h_m_x : ∀ k : Nat, 0 ≤ Int32.toInt (m_x k) ∧ Int32.toInt (m_x k) ≤ 99) (h_m_height : ∀ k : Nat, 0 ≤ Int32.toInt (jA k) ∧ Int32.toInt (jA k) ≤ 99) (h_m_worth : ∀ k : Nat, 0 ≤ Int32.toInt (pY k) ∧ Int32.toInt (pY k) ≤ 9) (h_m_ripe : ∀ k : Nat, 0 ≤ Int32.toInt (rW k) ∧ Int32.toInt (rW k) ≤ 9) (h_m_foot : ∀ k : Nat, 0 ≤ Int32.toInt (oY k) ∧ Int32.toInt (oY k) ≤ 99) (h_m_fork : ∀ k : Nat, 0 ≤ Int32.toInt (pR k) ∧ Int32.toInt (pR k) ≤ 99) (e0_m_told : ∀ k : Nat, k = 4 → 1 ≤ Int32.toInt (pX k) ∧ Int32.toInt (pX k) ≤ 30) (e1_m_told : ∀ k : Nat, k = 3 → 0 ≤ Int32.toInt (pX k) ∧ Int32.toInt (pX k) ≤ 9) (h_m_text : ∀ k : Nat, -128 ≤ Int32.toInt (rG k) ∧ Int32.toInt (rG k) ≤ 127) (h_m_rule : ∀ k : Nat, -128 ≤ Int32.toInt (rQ k) ∧ Int32.toInt (rQ k) ≤ 127) (hc0 : -1 ≤ SB ∧ SB ≤ 7) (hpost : ∀ (r : Int32) (m_rowMany' : Int32) (m_thrown' : Int32) (m_read' : Nat) (m_length' : Int32) (m_top' : Int32) (m_at' : Int32) (m_wrong' : Int32) (m_isAsked' : Int32) (m_askedFruit' : Int32) (m_askedStanding' : Int32) (m_askedHook' : Int32) (m_askedApron' : Int32) (m_row' : Nat → Int32) (m_handSeconds' : Nat → Int32), (-2 ≤ Int32.toInt r ∧ Int32.toInt r ≤ 2147483647) → (0 ≤ Int32.toInt m_rowMany' ∧ Int32.toInt m_rowMany' ≤ 16) → (0 ≤ Int32.toInt m_thrown' ∧ Int32.toInt m_thrown' ≤ 0) → (m_read' = 0 ∨ m_read' = 1 ∨ m_read' = 2) → (0 ≤ Int32.toInt m_length' ∧ Int32.toInt m_length' ≤ 80) → (0 ≤ Int32.toInt m_top' ∧ Int32.toInt m_top' ≤ 80) → (0 ≤ Int32.toInt m_at' ∧ Int32.toInt m_at' ≤ 80) → (-1 ≤ Int32.toInt m_wrong' ∧ Int32.toInt m_wrong' ≤ 80) → (0 ≤ Int32.toInt m_isAsked' ∧ Int32.toInt m_isAsked' ≤ 0) → (0 ≤ Int32.toInt m_askedFruit' ∧ Int32.toInt m_askedFruit' ≤ 15) → (0 ≤ Int32.toInt m_askedStanding' ∧ Int32.toInt m_askedStanding' ≤ 7) → (0 ≤ Int32.toInt m_askedHook' ∧ Int32.toInt m_askedHook' ≤ 1) → (0 ≤ Int32.toInt m_askedApron' ∧ Int32.toInt m_askedApron' ≤ 63) → (∀ k : Nat, 0 ≤ Int32.toInt (m_handSeconds' k) ∧ Int32.toInt (m_handSeconds' k) ≤ 99) → post r m_rowMany' m_thrown' m_read' m_length' m_top' m_at' m_wrong' m_isAsked' m_askedFruit' m_askedStanding' m_askedHook' m_askedApron' m_row' m_handSeconds') (hKn : ∀ (x1 : Int32) (x2 : Int32) (x3 : Int32) (bQ : Int32) (dG : Int32) (jY : Nat) (m_length : Int32) (qG : Int32) (uW : Int32) (eY : Int32) (dN : Int32) (aR : Int32) (aE : Int32) (bJ : Int32) (aW : Int32) (uM : Nat → Int32) (nU : Nat → Int32), (0 ≤ Int32.toInt x1 ∧ Int32.toInt x1 ≤ 300) → (0 ≤ Int32.toInt x2 ∧ Int32.toInt x2 ≤ 65535) → (0 ≤ Int32.toInt x3 ∧ Int32.toInt x3 ≤ 16) → (0 ≤ Int32.toInt bQ ∧ Int32.toInt bQ ≤ 16) → (0 ≤ Int32.toInt dG ∧ Int32.toInt dG ≤ 0) → (jY = 0 ∨ jY = 1 ∨ jY = 2) → (0 ≤ Int32.toInt m_length ∧ Int32.toInt m_length ≤ 80) → (0 ≤ Int32.toInt qG ∧ Int32.toInt qG ≤ 80) → (0 ≤ Int32.toInt uW ∧ Int32.toInt uW ≤ 80) → (-1 ≤ Int32.toInt eY ∧ Int32.toInt eY ≤ 80) → (0 ≤ Int32.toInt dN ∧ Int32.toInt dN ≤ 0) → (0 ≤ Int32.toInt aR ∧ Int32.toInt aR ≤ 15) → (0 ≤ Int32.toInt aE ∧ Int32.toInt aE ≤ 7) → (0 ≤ Int32.toInt bJ ∧ Int32.toInt bJ ≤ 1) → (0 ≤ Int32.toInt aW ∧ Int32.toInt aW ≤ 63) → (∀ k : Nat, 0 ≤ Int32.toInt (nU k) ∧ Int32.toInt (nU k) ≤ 99) → (0 ≤ Int32.toInt (rD (17 : Int32).toNatClampNeg)) → (16 - Int32.toInt x3 < n39) → next x1 x2 x3 bQ dG jY m_length qG uW eY dN aR aE bJ aW uM nU) (x1 x2 x3 bQ dG : Int32) (jY : Nat) (m_length qG uW eY dN aR aE bJ aW : Int32) (uM nU : Nat → Int32) (h_x1 : 0 ≤ Int32.toInt x1 ∧ Int32.toInt x1 ≤ 300) (h_x2 : 0 ≤ Int32.toInt x2 ∧ Int32.toInt x2 ≤ 65535) (h_x3 : 0 ≤ Int32.toInt x3 ∧ Int32.toInt x3 ≤ 16) (h_m_rowMany : 0 ≤ Int32.toInt bQ ∧ Int32.toInt bQ ≤ 16) (h_m_thrown : 0 ≤ Int32.toInt dG ∧ Int32.toInt dG ≤ 0) (h_m_read : jY = 0 ∨ jY = 1 ∨ jY = 2) (h_m_length : 0 ≤ Int32.toInt m_length ∧ Int32.toInt m_length ≤ 80) (h_m_top : 0 ≤ Int32.toInt qG ∧ Int32.toInt qG ≤ 80) (h_m_at : 0 ≤ Int32.toInt uW ∧ Int32.toInt uW ≤ 80) (h_m_wrong : -1 ≤ Int32.toInt eY ∧ Int32.toInt eY ≤ 80) (h_m_isAsked : 0 ≤ Int32.toInt dN ∧ Int32.toInt dN ≤ 0) (h_m_askedFruit : 0 ≤ Int32.toInt aR ∧ Int32.toInt aR ≤ 15) (h_m_askedStanding : 0 ≤ Int32.toInt aE ∧ Int32.toInt aE ≤ 7) (h_m_askedHook : 0 ≤ Int32.toInt bJ ∧ Int32.toInt bJ ≤ 1) (h_m_askedApron : 0 ≤ Int32.toInt aW ∧ Int32.toInt aW ≤ 63) (h_m_handSeconds : ∀ k : Nat, 0 ≤ Int32.toInt (nU k) ∧ Int32.toInt (nU k) ≤ 99) (hx0 : 0 ≤ Int32.toInt (rD (17 : Int32).toNatClampNeg)) (hn39 : 16 - Int32.toInt x3 ≤ n39) : ws_X10_dusk_39 post next bW bU rD m_x jA pY rW oY pR pX rG rQ x1 x2 x3 bQ dG jY m_length qG uW eY dN aR aE bJ aW uM nU := by
  have l0 := li_0
  have l1 := li_1
  have l2 := li_17
  refine And.intro (fun c67 => ?_) (fun c67 => ?_)
  · skip
    have c67 := (fa_le _ _).mp c67
    exact ⟨65537, tb_X10_dusk_96 bW bU rD m_x jA pY rW oY pR pX rG rQ h_m_fruits h_m_ruleSize e0_m_now e1_m_now h_m_x h_m_height h_m_worth h_m_ripe h_m_foot h_m_fork e0_m_told e1_m_told h_m_text h_m_rule hc0 hpost _ x1 x2 0 0 0 x2 bQ dG jY m_length qG uW eY dN aR aE bJ aW uM nU h_x1 h_x2 (by omega) (by omega) (by omega) h_x2 h_m_rowMany h_m_thrown h_m_read h_m_length h_m_top h_m_at h_m_wrong h_m_isAsked h_m_askedFruit h_m_askedStanding h_m_askedHook h_m_askedApron h_m_handSeconds (by omega)⟩
  · skip
    have c67 := mt (fa_le _ _).mpr c67
    intro v68 ev68
    have f69 := ti_shr x2 x3 (by omega)
    have hv68 := congrArg Int32.toInt ev68
    intro v70 ev70
    have f71 := ti_andr v68 1 (by omega)
    have f72 := ti_andl v68 1 (by omega)
    have hv70 := congrArg Int32.toInt ev70
    refine And.intro (fun c73 => ?_) (fun c73 => ?_)
    · skip
      have c73 := mt (fa_eq _ _).mpr c73
      refine And.intro (fun _ => ?_) (fun h9 => absurd h9 (by decide))
      exact ts_X10_dusk_78 bW bU rD m_x jA pY rW oY pR pX rG rQ h_m_fruits h_m_ruleSize e0_m_now e1_m_now h_m_x h_m_height h_m_worth h_m_ripe h_m_foot h_m_fork e0_m_told e1_m_told h_m_text h_m_rule hc0 hpost hKn x1 x2 x3 x3 0 bQ dG jY m_length qG uW eY dN aR aE bJ aW uM nU h_x1 h_x2 (by omega) (by omega) (by omega) h_m_rowMany h_m_thrown h_m_read h_m_length h_m_top h_m_at h_m_wrong h_m_isAsked h_m_askedFruit h_m_askedStanding h_m_askedHook h_m_askedApron h_m_handSeconds hx0 hn39
    · skip
      have c73 := (fa_eq _ _).mp c73
      refine And.intro (fun h9 => absurd h9 (by decide)) (fun _ => ?_)
      have q74 := e0_m_now (17 : Int32).toNatClampNeg (by have e9 : (17 : Int32).toNatClampNeg = (Int32.toInt (17 : Int32)).toNat := rfl; omega)
      intro v75 ev75
      have hv75 := congrArg Int32.toInt ev75
      refine t_X10_secondsOf (by omega) (by omega) (by omega) (by omega) h_m_read h_m_length h_m_top h_m_at h_m_wrong h_m_ruleSize h_m_isAsked h_m_askedFruit h_m_askedStanding h_m_askedHook h_m_askedApron h_m_x h_m_height h_m_worth h_m_foot h_m_fork h_m_text h_m_rule (fun r87 m_read_77 m_length_78 m_top_79 m_at_80 m_wrong_81 m_isAsked_82 m_askedFruit_83 m_askedStanding_84 m_askedHook_85 m_askedApron_86 h_r87 h_m_read_77 h_m_length_78 h_m_top_79 h_m_at_80 h_m_wrong_81 h_m_isAsked_82 h_m_askedFruit_83 h_m_askedStanding_84 h_m_askedHook_85 h_m_askedApron_86 => ?_)
      exact ts_X10_dusk_78 bW bU rD m_x jA pY rW oY pR pX rG rQ h_m_fruits h_m_ruleSize e0_m_now e1_m_now h_m_x h_m_height h_m_worth h_m_ripe h_m_foot h_m_fork e0_m_told e1_m_told h_m_text h_m_rule hc0 hpost hKn x1 x2 x3 x3 r87 bQ dG m_read_77 m_length_78 m_top_79 m_at_80 m_wrong_81 m_isAsked_82 m_askedFruit_83 m_askedStanding_84 m_askedHook_85 m_askedApron_86 uM nU h_x1 h_x2 (by omega) (by omega) (by omega) h_m_rowMany h_m_thrown h_m_read_77 h_m_length_78 h_m_top_79 h_m_at_80 h_m_wrong_81 h_m_isAsked_82 h_m_askedFruit_83 h_m_askedStanding_84 h_m_askedHook_85 h_m_askedApron_86 h_m_handSeconds hx0 hn39
set_option maxHeartbeats 8000000 in
set_option maxRecDepth 200000 in
theorem tb_X10_dusk_39 {post : Int32 → Int32 → Int32 → Nat → Int32 → Int32 → Int32 → Int32 → Int32 → Int32 → Int32 → Int32 → Int32 → (Nat → Int32) → (Nat → Int32) → Prop} {SB : Int} (bW bU : Int32) (rD m_x jA pY rW oY pR pX rG rQ : Nat → Int32) (h_m_fruits : 0 ≤ Int32.toInt bW ∧ Int32.toInt bW ≤ 16) (h_m_ruleSize : 0 ≤ Int32.toInt bU ∧ Int32.toInt bU ≤ 40) (e0_m_now : ∀ k : Nat, k = 17 → -1 ≤ Int32.toInt (rD k) ∧ Int32.toInt (rD k) ≤ SB) (e1_m_now : ∀ k : Nat, k = 19 → 0 ≤ Int32.toInt (rD k) ∧ Int32.toInt (rD k) ≤ 9) (h_m_x : ∀ k : Nat, 0 ≤ Int32.toInt (m_x k) ∧ Int32.toInt (m_x k) ≤ 99) (h_m_height : ∀ k : Nat, 0 ≤ Int32.toInt (jA k) ∧ Int32.toInt (jA k) ≤ 99) (h_m_worth : ∀ k : Nat, 0 ≤ Int32.toInt (pY k) ∧ Int32.toInt (pY k) ≤ 9) (h_m_ripe : ∀ k : Nat, 0 ≤ Int32.toInt (rW k) ∧ Int32.toInt (rW k) ≤ 9) (h_m_foot : ∀ k : Nat, 0 ≤ Int32.toInt (oY k) ∧ Int32.toInt (oY k) ≤ 99) (h_m_fork : ∀ k : Nat, 0 ≤ Int32.toInt (pR k) ∧ Int32.toInt (pR k) ≤ 99) (e0_m_told : ∀ k : Nat, k = 4 → 1 ≤ Int32.toInt (pX k) ∧ Int32.toInt (pX k) ≤ 30) (e1_m_told : ∀ k : Nat, k = 3 → 0 ≤ Int32.toInt (pX k) ∧ Int32.toInt (pX k) ≤ 9) (h_m_text : ∀ k : Nat, -128 ≤ Int32.toInt (rG k) ∧ Int32.toInt (rG k) ≤ 127) (h_m_rule : ∀ k : Nat, -128 ≤ Int32.toInt (rQ k) ∧ Int32.toInt (rQ k) ≤ 127) (hc0 : -1 ≤ SB ∧ SB ≤ 7) (hpost : ∀ (r : Int32) (m_rowMany' : Int32) (m_thrown' : Int32) (m_read' : Nat) (m_length' : Int32) (m_top' : Int32) (m_at' : Int32) (m_wrong' : Int32) (m_isAsked' : Int32) (m_askedFruit' : Int32) (m_askedStanding' : Int32) (m_askedHook' : Int32) (m_askedApron' : Int32) (m_row' : Nat → Int32) (m_handSeconds' : Nat → Int32), (-2 ≤ Int32.toInt r ∧ Int32.toInt r ≤ 2147483647) → (0 ≤ Int32.toInt m_rowMany' ∧ Int32.toInt m_rowMany' ≤ 16) → (0 ≤ Int32.toInt m_thrown' ∧ Int32.toInt m_thrown' ≤ 0) → (m_read' = 0 ∨ m_read' = 1 ∨ m_read' = 2) → (0 ≤ Int32.toInt m_length' ∧ Int32.toInt m_length' ≤ 80) → (0 ≤ Int32.toInt m_top' ∧ Int32.toInt m_top' ≤ 80) → (0 ≤ Int32.toInt m_at' ∧ Int32.toInt m_at' ≤ 80) → (-1 ≤ Int32.toInt m_wrong' ∧ Int32.toInt m_wrong' ≤ 80) → (0 ≤ Int32.toInt m_isAsked' ∧ Int32.toInt m_isAsked' ≤ 0) → (0 ≤ Int32.toInt m_askedFruit' ∧ Int32.toInt m_askedFruit' ≤ 15) → (0 ≤ Int32.toInt m_askedStanding' ∧ Int32.toInt m_askedStanding' ≤ 7) → (0 ≤ Int32.toInt m_askedHook' ∧ Int32.toInt m_askedHook' ≤ 1) → (0 ≤ Int32.toInt m_askedApron' ∧ Int32.toInt m_askedApron' ≤ 63) → (∀ k : Nat, 0 ≤ Int32.toInt (m_handSeconds' k) ∧ Int32.toInt (m_handSeconds' k) ≤ 99) → post r m_rowMany' m_thrown' m_read' m_length' m_top' m_at' m_wrong' m_isAsked' m_askedFruit' m_askedStanding' m_askedHook' m_askedApron' m_row' m_handSeconds') : ∀ (n : Nat) (x1 x2 x3 bQ dG : Int32) (jY : Nat) (m_length qG uW eY dN aR aE bJ aW : Int32) (uM nU : Nat → Int32), (0 ≤ Int32.toInt x1 ∧ Int32.toInt x1 ≤ 300) → (0 ≤ Int32.toInt x2 ∧ Int32.toInt x2 ≤ 65535) → (0 ≤ Int32.toInt x3 ∧ Int32.toInt x3 ≤ 16) → (0 ≤ Int32.toInt bQ ∧ Int32.toInt bQ ≤ 16) → (0 ≤ Int32.toInt dG ∧ Int32.toInt dG ≤ 0) → (jY = 0 ∨ jY = 1 ∨ jY = 2) → (0 ≤ Int32.toInt m_length ∧ Int32.toInt m_length ≤ 80) → (0 ≤ Int32.toInt qG ∧ Int32.toInt qG ≤ 80) → (0 ≤ Int32.toInt uW ∧ Int32.toInt uW ≤ 80) → (-1 ≤ Int32.toInt eY ∧ Int32.toInt eY ≤ 80) → (0 ≤ Int32.toInt dN ∧ Int32.toInt dN ≤ 0) → (0 ≤ Int32.toInt aR ∧ Int32.toInt aR ≤ 15) → (0 ≤ Int32.toInt aE ∧ Int32.toInt aE ≤ 7) → (0 ≤ Int32.toInt bJ ∧ Int32.toInt bJ ≤ 1) → (0 ≤ Int32.toInt aW ∧ Int32.toInt aW ≤ 63) → (∀ k : Nat, 0 ≤ Int32.toInt (nU k) ∧ Int32.toInt (nU k) ≤ 99) → (0 ≤ Int32.toInt (rD (17 : Int32).toNatClampNeg)) → (16 - Int32.toInt x3 < (n : Int)) → wb_X10_dusk_39 post bW bU rD m_x jA pY rW oY pR pX rG rQ n x1 x2 x3 bQ dG jY m_length qG uW eY dN aR aE bJ aW uM nU := by
  intro n
  induction n with
  | zero =>
    intro x1 x2 x3 bQ dG jY m_length qG uW eY dN aR aE bJ aW uM nU h_x1 h_x2 h_x3 h_m_rowMany h_m_thrown h_m_read h_m_length h_m_top h_m_at h_m_wrong h_m_isAsked h_m_askedFruit h_m_askedStanding h_m_askedHook h_m_askedApron h_m_handSeconds hx0 hm
    exfalso; omega
  | succ n ih =>
    intro x1 x2 x3 bQ dG jY m_length qG uW eY dN aR aE bJ aW uM nU h_x1 h_x2 h_x3 h_m_rowMany h_m_thrown h_m_read h_m_length h_m_top h_m_at h_m_wrong h_m_isAsked h_m_askedFruit h_m_askedStanding h_m_askedHook h_m_askedApron h_m_handSeconds hx0 hm
    exact ts_X10_dusk_39 bW bU rD m_x jA pY rW oY pR pX rG rQ h_m_fruits h_m_ruleSize e0_m_now e1_m_now h_m_x h_m_height h_m_worth h_m_ripe h_m_foot h_m_fork e0_m_told e1_m_told h_m_text h_m_rule hc0 hpost ih x1 x2 x3 bQ dG jY m_length qG uW eY dN aR aE bJ aW uM nU h_x1 h_x2 h_x3 h_m_rowMany h_m_thrown h_m_read h_m_length h_m_top h_m_at h_m_wrong h_m_isAsked h_m_askedFruit h_m_askedStanding h_m_askedHook h_m_askedApron h_m_handSeconds hx0 (by omega)
set_option maxHeartbeats 8000000 in
set_option maxRecDepth 200000 in
theorem t_X10_dusk {post : Int32 → Int32 → Int32 → Nat → Int32 → Int32 → Int32 → Int32 → Int32 → Int32 → Int32 → Int32 → Int32 → (Nat → Int32) → (Nat → Int32) → Prop} {SB : Int} {p0 bW bQ dG : Int32} {jY : Nat} {m_length qG uW eY bU dN aR aE bJ aW : Int32} {rD m_x jA pY rW oY pR pX rG uM rQ nU : Nat → Int32} (h_m_fruits : 0 ≤ Int32.toInt bW ∧ Int32.toInt bW ≤ 16) (h_m_rowMany : 0 ≤ Int32.toInt bQ ∧ Int32.toInt bQ ≤ 16) (h_m_thrown : 0 ≤ Int32.toInt dG ∧ Int32.toInt dG ≤ 1) (h_m_read : jY = 0 ∨ jY = 1 ∨ jY = 2) (h_m_length : 0 ≤ Int32.toInt m_length ∧ Int32.toInt m_length ≤ 80) (h_m_top : 0 ≤ Int32.toInt qG ∧ Int32.toInt qG ≤ 80) (h_m_at : 0 ≤ Int32.toInt uW ∧ Int32.toInt uW ≤ 80) (h_m_wrong : -1 ≤ Int32.toInt eY ∧ Int32.toInt eY ≤ 80) (h_m_ruleSize : 0 ≤ Int32.toInt bU ∧ Int32.toInt bU ≤ 40) (h_m_isAsked : 0 ≤ Int32.toInt dN ∧ Int32.toInt dN ≤ 0) (h_m_askedFruit : 0 ≤ Int32.toInt aR ∧ Int32.toInt aR ≤ 15) (h_m_askedStanding : 0 ≤ Int32.toInt aE ∧ Int32.toInt aE ≤ 7) (h_m_askedHook : 0 ≤ Int32.toInt bJ ∧ Int32.toInt bJ ≤ 1) (h_m_askedApron : 0 ≤ Int32.toInt aW ∧ Int32.toInt aW ≤ 63) (e0_m_now : ∀ k : Nat, k = 17 → -1 ≤ Int32.toInt (rD k) ∧ Int32.toInt (rD k) ≤ SB) (e1_m_now : ∀ k : Nat, k = 19 → 0 ≤ Int32.toInt (rD k) ∧ Int32.toInt (rD k) ≤ 9) (h_m_x : ∀ k : Nat, 0 ≤ Int32.toInt (m_x k) ∧ Int32.toInt (m_x k) ≤ 99) (h_m_height : ∀ k : Nat, 0 ≤ Int32.toInt (jA k) ∧ Int32.toInt (jA k) ≤ 99) (h_m_worth : ∀ k : Nat, 0 ≤ Int32.toInt (pY k) ∧ Int32.toInt (pY k) ≤ 9) (h_m_ripe : ∀ k : Nat, 0 ≤ Int32.toInt (rW k) ∧ Int32.toInt (rW k) ≤ 9) (h_m_foot : ∀ k : Nat, 0 ≤ Int32.toInt (oY k) ∧ Int32.toInt (oY k) ≤ 99) (h_m_fork : ∀ k : Nat, 0 ≤ Int32.toInt (pR k) ∧ Int32.toInt (pR k) ≤ 99) (e0_m_told : ∀ k : Nat, k = 4 → 1 ≤ Int32.toInt (pX k) ∧ Int32.toInt (pX k) ≤ 30) (e1_m_told : ∀ k : Nat, k = 3 → 0 ≤ Int32.toInt (pX k) ∧ Int32.toInt (pX k) ≤ 9) (h_m_text : ∀ k : Nat, -128 ≤ Int32.toInt (rG k) ∧ Int32.toInt (rG k) ≤ 127) (h_m_rule : ∀ k : Nat, -128 ≤ Int32.toInt (rQ k) ∧ Int32.toInt (rQ k) ≤ 127) (h_m_handSeconds : ∀ k : Nat, 0 ≤ Int32.toInt (nU k) ∧ Int32.toInt (nU k) ≤ 99) (hc0 : -1 ≤ SB ∧ SB ≤ 7) (hpost : ∀ (r : Int32) (m_rowMany' : Int32) (m_thrown' : Int32) (m_read' : Nat) (m_length' : Int32) (m_top' : Int32) (m_at' : Int32) (m_wrong' : Int32) (m_isAsked' : Int32) (m_askedFruit' : Int32) (m_askedStanding' : Int32) (m_askedHook' : Int32) (m_askedApron' : Int32) (m_row' : Nat → Int32) (m_handSeconds' : Nat → Int32), (-2 ≤ Int32.toInt r ∧ Int32.toInt r ≤ 2147483647) → (0 ≤ Int32.toInt m_rowMany' ∧ Int32.toInt m_rowMany' ≤ 16) → (0 ≤ Int32.toInt m_thrown' ∧ Int32.toInt m_thrown' ≤ 0) → (m_read' = 0 ∨ m_read' = 1 ∨ m_read' = 2) → (0 ≤ Int32.toInt m_length' ∧ Int32.toInt m_length' ≤ 80) → (0 ≤ Int32.toInt m_top' ∧ Int32.toInt m_top' ≤ 80) → (0 ≤ Int32.toInt m_at' ∧ Int32.toInt m_at' ≤ 80) → (-1 ≤ Int32.toInt m_wrong' ∧ Int32.toInt m_wrong' ≤ 80) → (0 ≤ Int32.toInt m_isAsked' ∧ Int32.toInt m_isAsked' ≤ 0) → (0 ≤ Int32.toInt m_askedFruit' ∧ Int32.toInt m_askedFruit' ≤ 15) → (0 ≤ Int32.toInt m_askedStanding' ∧ Int32.toInt m_askedStanding' ≤ 7) → (0 ≤ Int32.toInt m_askedHook' ∧ Int32.toInt m_askedHook' ≤ 1) → (0 ≤ Int32.toInt m_askedApron' ∧ Int32.toInt m_askedApron' ≤ 63) → (∀ k : Nat, 0 ≤ Int32.toInt (m_handSeconds' k) ∧ Int32.toInt (m_handSeconds' k) ≤ 99) → post r m_rowMany' m_thrown' m_read' m_length' m_top' m_at' m_wrong' m_isAsked' m_askedFruit' m_askedStanding' m_askedHook' m_askedApron' m_row' m_handSeconds') : wp_X10_dusk post p0 bW bQ dG jY m_length qG uW eY bU dN aR aE bJ aW rD m_x jA pY rW oY pR pX rG uM rQ nU := by
  have l0 := li_m1
  have l1 := li_m2
  have l2 := li_0
  have l3 := li_17
  have l4 := li_18
  have l5 := li_19
  have l6 := li_300
  have f89 := tp_r p0
  refine And.intro (fun c88 => ?_) (fun c88 => ?_)
  · skip
    have c88 := (fa_lt _ _).mp c88
    refine And.intro (fun h9 => absurd h9 (by decide)) (fun _ => ?_)
    exact hpost _ _ _ _ _ _ _ _ _ _ _ _ _ _ _ (by omega) h_m_rowMany (by omega) h_m_read h_m_length h_m_top h_m_at h_m_wrong h_m_isAsked h_m_askedFruit h_m_askedStanding h_m_askedHook h_m_askedApron h_m_handSeconds
  · skip
    have c88 := mt (fa_lt _ _).mpr c88
    refine And.intro (fun c90 => ?_) (fun c90 => ?_)
    · skip
      have c90 := (fa_lt _ _).mp c90
      refine And.intro (fun h9 => absurd h9 (by decide)) (fun _ => ?_)
      exact hpost _ _ _ _ _ _ _ _ _ _ _ _ _ _ _ (by omega) h_m_rowMany (by omega) h_m_read h_m_length h_m_top h_m_at h_m_wrong h_m_isAsked h_m_askedFruit h_m_askedStanding h_m_askedHook h_m_askedApron h_m_handSeconds
    · skip
      have c90 := mt (fa_lt _ _).mpr c90
      refine And.intro (fun _ => ?_) (fun h9 => absurd h9 (by decide))
      have q91 := e0_m_now (17 : Int32).toNatClampNeg (by have e9 : (17 : Int32).toNatClampNeg = (Int32.toInt (17 : Int32)).toNat := rfl; omega)
      intro v92 ev92
      have hv92 := congrArg Int32.toInt ev92
      refine And.intro (fun c94 => ?_) (fun c94 => ?_)
      · skip
        have c94 := mt (fa_eq _ _).mpr c94
        refine t_X10_which (by omega) h_m_fruits e0_m_now e1_m_now (by omega) (fun r95 h_r95 ox96 => ?_)
        have q97 := e1_m_now (19 : Int32).toNatClampNeg (by have e9 : (19 : Int32).toNatClampNeg = (Int32.toInt (19 : Int32)).toNat := rfl; omega)
        intro v98 ev98
        have hv98 := congrArg Int32.toInt ev98
        refine t_X10_ripeOnes (by omega) h_m_fruits h_m_ripe (fun r100 h_r100 ox101 => ?_)
        intro v102 ev102
        have f103 := ti_andr r95 r100 (by omega)
        have f104 := ti_andl r95 r100 (by omega)
        have hv102 := congrArg Int32.toInt ev102
        have q105 := e0_m_now (17 : Int32).toNatClampNeg (by have e9 : (17 : Int32).toNatClampNeg = (Int32.toInt (17 : Int32)).toNat := rfl; omega)
        intro v106 ev106
        have hv106 := congrArg Int32.toInt ev106
        intro v107 ev107
        have hv107 := congrArg Int32.toInt ev107
        refine t_X10_reachedFrom (by omega) (by omega) h_m_fruits h_m_x h_m_height h_m_foot h_m_fork e0_m_told e1_m_told (fun r109 h_r109 => ?_)
        have f110 := ti_andr v102 r109 (by omega)
        have f111 := ti_andl v102 r109 (by omega)
        exact ⟨18, tb_X10_dusk_39 bW bU rD m_x jA pY rW oY pR pX rG rQ h_m_fruits h_m_ruleSize e0_m_now e1_m_now h_m_x h_m_height h_m_worth h_m_ripe h_m_foot h_m_fork e0_m_told e1_m_told h_m_text h_m_rule hc0 hpost _ p0 (v102 &&& r109) 0 bQ 0 jY m_length qG uW eY dN aR aE bJ aW uM nU (by omega) (by omega) (by omega) h_m_rowMany (by omega) h_m_read h_m_length h_m_top h_m_at h_m_wrong h_m_isAsked h_m_askedFruit h_m_askedStanding h_m_askedHook h_m_askedApron h_m_handSeconds (by omega) (by omega)⟩
      · skip
        have c94 := (fa_eq _ _).mp c94
        exact hpost _ _ _ _ _ _ _ _ _ _ _ _ _ _ _ (by omega) h_m_rowMany (by omega) h_m_read h_m_length h_m_top h_m_at h_m_wrong h_m_isAsked h_m_askedFruit h_m_askedStanding h_m_askedHook h_m_askedApron h_m_handSeconds
