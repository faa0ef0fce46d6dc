set_option maxHeartbeats 8000000 in
set_option maxRecDepth 200000 in
theorem ts_X10_route_105 {post : Int32 → Int32 → Int32 → (Nat → Int32) → (Nat → Int32) → Prop} {SB : Int} {K54 : Int32 → Int32 → Int32 → Int32 → Int32 → (Nat → Int32) → (Nat → Int32) → Prop} {K61 : Int32 → Int32 → Int32 → Int32 → Int32 → Int32 → (Nat → Int32) → (Nat → Int32) → Prop} {n54 n61 : Int} (aG : Int32) (qG nG pJ : Nat → Int32) (vZ : 0 ≤ Int32.toInt aG ∧ Int32.toInt aG ≤ 8) (xU : ∀ k : Nat, k = 17 → -1 ≤ Int32.toInt (qG k) ∧ Int32.toInt (qG k) ≤ SB) (xV : ∀ k : Nat, k = 19 → 0 ≤ Int32.toInt (qG k) ∧ Int32.toInt (qG k) ≤ 9) (xT : ∀ k : Nat, 0 ≤ Int32.toInt (nG k) ∧ Int32.toInt (nG k) ≤ 99) (yD : ∀ k : Nat, k = 4 → 1 ≤ Int32.toInt (pJ k) ∧ Int32.toInt (pJ k) ≤ 30) (xZ : ∀ k : Nat, k = 3 → 0 ≤ Int32.toInt (pJ k) ∧ Int32.toInt (pJ k) ≤ 9) (hc0 : -1 ≤ SB ∧ SB ≤ 7) (hc1 : (Int32.toInt aG ≤ 0 ∧ SB = 0) ∨ (1 ≤ Int32.toInt aG ∧ SB = Int32.toInt aG - 1)) (hpost : ∀ (r : Int32) (xM : Int32) (xG : Int32) (aBX : Nat → Int32) (aCX : Nat → Int32), (-1 ≤ Int32.toInt r ∧ Int32.toInt r ≤ 1000000) → (0 ≤ Int32.toInt xM ∧ Int32.toInt xM ≤ 16) → (0 ≤ Int32.toInt xG ∧ Int32.toInt xG ≤ 0) → (∀ k : Nat, 0 ≤ Int32.toInt (aCX k) ∧ Int32.toInt (aCX k) ≤ 1000000) → post r xM xG aBX aCX) (hK54 : ∀ (x2 : Int32) (x3 : Int32) (x4 : Int32) (bL : Int32) (bY : Int32) (sW : Nat → Int32) (uE : Nat → Int32), (0 ≤ Int32.toInt x2 ∧ Int32.toInt x2 ≤ 255) → (-1 ≤ Int32.toInt x3 ∧ Int32.toInt x3 ≤ 7) → (0 ≤ Int32.toInt x4 ∧ Int32.toInt x4 ≤ 1000000) → (0 ≤ Int32.toInt bL ∧ Int32.toInt bL ≤ 16) → (0 ≤ Int32.toInt bY ∧ Int32.toInt bY ≤ 0) → (∀ k : Nat, 0 ≤ Int32.toInt (uE k) ∧ Int32.toInt (uE k) ≤ 1000000) → (MVT uE nG pJ aG) → (VALz aG (plc x3) x2) → (LB x2 aG) → (Int32.toInt bL + ((pcn 16 x2 : Nat) : Int) ≤ 16) → (((pcn 16 x2 : Nat) : Int) < n54) → K54 x2 x3 x4 bL bY sW uE) (hK61 : ∀ (x2 : Int32) (x3 : Int32) (x4 : Int32) (x5 : Int32) (bL : Int32) (bY : Int32) (sW : Nat → Int32) (uE : Nat → Int32), (1 ≤ Int32.toInt x2 ∧ Int32.toInt x2 ≤ 255) → (-1 ≤ Int32.toInt x3 ∧ Int32.toInt x3 ≤ 7) → (0 ≤ Int32.toInt x4 ∧ Int32.toInt x4 ≤ 1000000) → (0 ≤ Int32.toInt x5 ∧ Int32.toInt x5 ≤ 7) → (0 ≤ Int32.toInt bL ∧ Int32.toInt bL ≤ 16) → (0 ≤ Int32.toInt bY ∧ Int32.toInt bY ≤ 0) → (∀ k : Nat, 0 ≤ Int32.toInt (uE k) ∧ Int32.toInt (uE k) ≤ 1000000) → (MVT uE nG pJ aG) → (VALz aG (plc x3) x2) → (LB x2 aG) → (Int32.toInt bL + ((pcn 16 x2 : Nat) : Int) ≤ 16) → (RtX uE nG pJ aG x3 x2 x5) → (((pcn 16 x2 : Nat) : Int) ≤ n54) → (7 - Int32.toInt x5 < n61) → K61 x2 x3 x4 x5 bL bY sW uE) (x2 x3 x4 x5 bL bY : Int32) (sW uE : Nat → Int32) (aBN : 1 ≤ Int32.toInt x2 ∧ Int32.toInt x2 ≤ 255) (aCH : -1 ≤ Int32.toInt x3 ∧ Int32.toInt x3 ≤ 7) (aDO : 0 ≤ Int32.toInt x4 ∧ Int32.toInt x4 ≤ 1000000) (aF7 : 0 ≤ Int32.toInt x5 ∧ Int32.toInt x5 ≤ 7) (yJ : 0 ≤ Int32.toInt bL ∧ Int32.toInt bL ≤ 16) (yG : 0 ≤ Int32.toInt bY ∧ Int32.toInt bY ≤ 0) (aAw : ∀ k : Nat, 0 ≤ Int32.toInt (uE k) ∧ Int32.toInt (uE k) ≤ 1000000) (hx0 : MVT uE nG pJ aG) (hx1 : VALz aG (plc x3) x2) (hx2 : LB x2 aG) (hx3 : Int32.toInt bL + ((pcn 16 x2 : Nat) : Int) ≤ 16) (hx4 : RtY uE nG pJ aG x3 x2 x5) (hn54 : ((pcn 16 x2 : Nat) : Int) ≤ n54) (hn61 : 7 - Int32.toInt x5 ≤ n61) : ws_X10_route_105 post K54 K61 aG qG nG pJ x2 x3 x4 x5 bL bY sW uE := by
  have l0 := aEc
  have j1 := RtY_le (x := x5) (by assumption) (by omega)
  intro v2 ev2
  have f3 : Int32.toInt (x5 + 1) = Int32.toInt x5 + Int32.toInt (1 : Int32) := aAD _ _ (by omega)
  rw [← ev2] at f3
  have j4 := pcn_le 16 (x2)
  exact hK61 x2 x3 x4 v2 bL bY sW uE aBN aCH aDO (by omega) yJ yG aAw (by assumption) (by first | assumption | exact VALz_p (by omega) | exact VALz_i (by assumption) (by assumption) (by omega) (by omega) (by assumption) (by omega) (by omega) (by omega) | exact VALz_c (by assumption) (by assumption) (by assumption) (by assumption) (by assumption) (by assumption) (by omega)) (by first | assumption | exact LB_of (by assumption) (by omega) (by omega) (by omega) | exact LB_e (by assumption) (by assumption) | exact LB_c (LB_of (by assumption) (by omega) (by omega) (by omega))) hx3 (by first | assumption | exact RtX_0 (by assumption) (by assumption) (by assumption) (by omega) (by assumption) (by omega) | exact RtX_s (by assumption) (by omega)) hn54 (by omega)
set_option maxHeartbeats 8000000 in
set_option maxRecDepth 200000 in
theorem ts_X10_route_61 {post : Int32 → Int32 → Int32 → (Nat → Int32) → (Nat → Int32) → Prop} {SB : Int} {K54 : Int32 → Int32 → Int32 → Int32 → Int32 → (Nat → Int32) → (Nat → Int32) → Prop} {next : Int32 → Int32 → Int32 → Int32 → Int32 → Int32 → (Nat → Int32) → (Nat → Int32) → Prop} {n61 n54 : Int} (aG : Int32) (qG nG pJ : Nat → Int32) (vZ : 0 ≤ Int32.toInt aG ∧ Int32.toInt aG ≤ 8) (xU : ∀ k : Nat, k = 17 → -1 ≤ Int32.toInt (qG k) ∧ Int32.toInt (qG k) ≤ SB) (xV : ∀ k : Nat, k = 19 → 0 ≤ Int32.toInt (qG k) ∧ Int32.toInt (qG k) ≤ 9) (xT : ∀ k : Nat, 0 ≤ Int32.toInt (nG k) ∧ Int32.toInt (nG k) ≤ 99) (yD : ∀ k : Nat, k = 4 → 1 ≤ Int32.toInt (pJ k) ∧ Int32.toInt (pJ k) ≤ 30) (xZ : ∀ k : Nat, k = 3 → 0 ≤ Int32.toInt (pJ k) ∧ Int32.toInt (pJ k) ≤ 9) (hc0 : -1 ≤ SB ∧ SB ≤ 7) (hc1 : (Int32.toInt aG ≤ 0 ∧ SB = 0) ∨ (1 ≤ Int32.toInt aG ∧ SB = Int32.toInt aG - 1)) (hpost : ∀ (r : Int32) (xM : Int32) (xG : Int32) (aBX : Nat → Int32) (aCX : Nat → Int32), (-1 ≤ Int32.toInt r ∧ Int32.toInt r ≤ 1000000) → (0 ≤ Int32.toInt xM ∧ Int32.toInt xM ≤ 16) → (0 ≤ Int32.toInt xG ∧ Int32.toInt xG ≤ 0) → (∀ k : Nat, 0 ≤ Int32.toInt (aCX k) ∧ Int32.toInt (aCX k) ≤ 1000000) → post r xM xG aBX aCX) (hK54 : ∀ (x2 : Int32) (x3 : Int32) (x4 : Int32) (bL : Int32) (bY : Int32) (sW : Nat → Int32) (uE : Nat → Int32), (0 ≤ Int32.toInt x2 ∧ Int32.toInt x2 ≤ 255) → (-1 ≤ Int32.toInt x3 ∧ Int32.toInt x3 ≤ 7) → (0 ≤ Int32.toInt x4 ∧ Int32.toInt x4 ≤ 1000000) → (0 ≤ Int32.toInt bL ∧ Int32.toInt bL ≤ 16) → (0 ≤ Int32.toInt bY ∧ Int32.toInt bY ≤ 0) → (∀ k : Nat, 0 ≤ Int32.toInt (uE k) ∧ Int32.toInt (uE k) ≤ 1000000) → (MVT uE nG pJ aG) → (VALz aG (plc x3) x2) → (LB x2 aG) → (Int32.toInt bL + ((pcn 16 x2 : Nat) : Int) ≤ 16) → (((pcn 16 x2 : Nat) : Int) < n54) → K54 x2 x3 x4 bL bY sW uE) (hKn : ∀ (x2 : Int32) (x3 : Int32) (x4 : Int32) (x5 : Int32) (bL : Int32) (bY : Int32) (sW : Nat → Int32) (uE : Nat → Int32), (1 ≤ Int32.toInt x2 ∧ Int32.toInt x2 ≤ 255) → (-1 ≤ Int32.toInt x3 ∧ Int32.toInt x3 ≤ 7) → (0 ≤ Int32.toInt x4 ∧ Int32.toInt x4 ≤ 1000000) → (0 ≤ Int32.toInt x5 ∧ Int32.toInt x5 ≤ 7) → (0 ≤ Int32.toInt bL ∧ Int32.toInt bL ≤ 16) → (0 ≤ Int32.toInt bY ∧ Int32.toInt bY ≤ 0) → (∀ k : Nat, 0 ≤ Int32.toInt (uE k) ∧ Int32.toInt (uE k) ≤ 1000000) → (MVT uE nG pJ aG) → (VALz aG (plc x3) x2) → (LB x2 aG) → (Int32.toInt bL + ((pcn 16 x2 : Nat) : Int) ≤ 16) → (RtX uE nG pJ aG x3 x2 x5) → (((pcn 16 x2 : Nat) : Int) ≤ n54) → (7 - Int32.toInt x5 < n61) → next x2 x3 x4 x5 bL bY sW uE) (x2 x3 x4 x5 bL bY : Int32) (sW uE : Nat → Int32) (aBN : 1 ≤ Int32.toInt x2 ∧ Int32.toInt x2 ≤ 255) (aCH : -1 ≤ Int32.toInt x3 ∧ Int32.toInt x3 ≤ 7) (aDO : 0 ≤ Int32.toInt x4 ∧ Int32.toInt x4 ≤ 1000000) (aF7 : 0 ≤ Int32.toInt x5 ∧ Int32.toInt x5 ≤ 7) (yJ : 0 ≤ Int32.toInt bL ∧ Int32.toInt bL ≤ 16) (yG : 0 ≤ Int32.toInt bY ∧ Int32.toInt bY ≤ 0) (aAw : ∀ k : Nat, 0 ≤ Int32.toInt (uE k) ∧ Int32.toInt (uE k) ≤ 1000000) (hx0 : MVT uE nG pJ aG) (hx1 : VALz aG (plc x3) x2) (hx2 : LB x2 aG) (hx3 : Int32.toInt bL + ((pcn 16 x2 : Nat) : Int) ≤ 16) (hx4 : RtX uE nG pJ aG x3 x2 x5) (hn54 : ((pcn 16 x2 : Nat) : Int) ≤ n54) (hn61 : 7 - Int32.toInt x5 ≤ n61) : ws_X10_route_61 post K54 next aG qG nG pJ x2 x3 x4 x5 bL bY sW uE := by
  have l0 := aI2
  have l1 := aEc
  have l2 := li_8
  intro v5 ev5
  have f6 := aRJ x2 x5 (by omega)
  have hv5 := congrArg Int32.toInt ev5
  intro v7 ev7
  have f8 := aAQ v5 1 (by omega)
  have f9 := aBx v5 1 (by omega)
  have hv7 := congrArg Int32.toInt ev7
  refine And.intro (fun c10 => ?_) (fun c10 => ?_)
  · skip
    have c10 := mt (zJ _ _).mpr c10
    refine And.intro (fun _ => ?_) (fun h9 => absurd h9 (by decide))
    have j11 := pcn_le 16 (x2)
    exact ts_X10_route_105 aG qG nG pJ vZ xU xV xT yD xZ hc0 hc1 hpost hK54 hKn x2 x3 x4 x5 bL bY sW uE aBN aCH aDO aF7 yJ yG aAw (by assumption) (by first | assumption | exact VALz_p (by omega) | exact VALz_i (by assumption) (by assumption) (by omega) (by omega) (by assumption) (by omega) (by omega) (by omega) | exact VALz_c (by assumption) (by assumption) (by assumption) (by assumption) (by assumption) (by assumption) (by omega)) (by first | assumption | exact LB_of (by assumption) (by omega) (by omega) (by omega) | exact LB_e (by assumption) (by assumption) | exact LB_c (LB_of (by assumption) (by omega) (by omega) (by omega))) hx3 (by first | assumption | exact RtX_h (by assumption) (by omega) (by assumption) (by assumption) (by assumption) | exact RtX_n (by assumption) (by assumption) (by assumption) (by assumption) (by assumption) (by assumption) (by assumption) (by assumption) (by omega) (by omega) (by omega) (by omega) (by omega) (by omega) xT xZ) hn54 hn61
  · skip
    have c10 := (zJ _ _).mp c10
    refine And.intro (fun h9 => absurd h9 (by decide)) (fun _ => ?_)
    have j12 := pcn_pos x2 x5 (by assumption) (by assumption) (by omega) (by omega)
    refine t_X10_moveOf aCH aF7 xT yD xZ (by omega) (by omega) (fun r13 h_r13 ox14 => ?_)
    intro v15 ev15
    have f16 := aDv 7 128 x5 (by decide) (by omega)
    have hv15 := congrArg Int32.toInt ev15
    intro v17 ev17
    have f19 := aBx x2 (v15 ^^^ (-1)) (by omega)
    have hv17 := congrArg Int32.toInt ev17
    intro v20 ev20
    have f21 := ti_shl8 x5 (by omega)
    have hv20 := congrArg Int32.toInt ev20
    intro v22 ev22
    have f23 : Int32.toInt (v20 + v17) = Int32.toInt v20 + Int32.toInt v17 := aAD _ _ (by omega)
    rw [← ev22] at f23
    refine And.intro (aBZ (by omega)) ?_
    intro v24 ev24
    have f26 := aAw v22.toNatClampNeg
    have f25 : Int32.toInt (r13 + (uE v22.toNatClampNeg)) = Int32.toInt r13 + Int32.toInt (uE v22.toNatClampNeg) := aAD _ _ (by omega)
    rw [← ev24] at f25
    refine And.intro (fun c27 => ?_) (fun c27 => ?_)
    · skip
      have c27 := mt (zJ _ _).mpr c27
      intro v28 ev28
      have f29 := ti_shl8 x3 (by omega)
      have hv28 := congrArg Int32.toInt ev28
      intro v30 ev30
      have f31 : Int32.toInt (v28 + x2) = Int32.toInt v28 + Int32.toInt x2 := aAD _ _ (by omega)
      rw [← ev30] at f31
      refine And.intro (aBZ (by omega)) ?_
      have f33 := aAw v30.toNatClampNeg
      refine And.intro (fun c32 => ?_) (fun c32 => ?_)
      · skip
        have c32 := (zJ _ _).mp c32
        refine And.intro (aBZ (by omega)) ?_
        intro v34 ev34
        have f35 : Int32.toInt (bL + 1) = Int32.toInt bL + Int32.toInt (1 : Int32) := aAD _ _ (by omega)
        rw [← ev34] at f35
        intro v36 ev36
        have hv36 := congrArg Int32.toInt ev36
        intro v37 ev37
        have f39 := aBx x2 (v36 ^^^ (-1)) (by omega)
        have hv37 := congrArg Int32.toInt ev37
        have j40 := pcn_clr v37 x5 (by assumption) (by assumption) (by omega) (by assumption) (by assumption) (by omega)
        have j41 := pcn_le 16 (v37)
        exact hK54 v37 x5 x4 v34 bY (upd sW bL.toNatClampNeg x5) uE (by omega) (by omega) aDO (by omega) yG aAw (by assumption) (by first | assumption | exact VALz_p (by omega) | exact VALz_i (by assumption) (by assumption) (by omega) (by omega) (by assumption) (by omega) (by omega) (by omega) | exact VALz_c (by assumption) (by assumption) (by assumption) (by assumption) (by assumption) (by assumption) (by omega)) (by first | assumption | exact LB_of (by assumption) (by omega) (by omega) (by omega) | exact LB_e (by assumption) (by assumption) | exact LB_c (LB_of (by assumption) (by omega) (by omega) (by omega))) (by omega) (by omega)
      · skip
        have c32 := mt (zJ _ _).mpr c32
        have j42 := pcn_le 16 (x2)
        exact ts_X10_route_105 aG qG nG pJ vZ xU xV xT yD xZ hc0 hc1 hpost hK54 hKn x2 x3 x4 x5 bL bY sW uE aBN aCH aDO aF7 yJ yG aAw (by assumption) (by first | assumption | exact VALz_p (by omega) | exact VALz_i (by assumption) (by assumption) (by omega) (by omega) (by assumption) (by omega) (by omega) (by omega) | exact VALz_c (by assumption) (by assumption) (by assumption) (by assumption) (by assumption) (by assumption) (by omega)) (by first | assumption | exact LB_of (by assumption) (by omega) (by omega) (by omega) | exact LB_e (by assumption) (by assumption) | exact LB_c (LB_of (by assumption) (by omega) (by omega) (by omega))) hx3 (by first | assumption | exact RtX_h (by assumption) (by omega) (by assumption) (by assumption) (by assumption) | exact RtX_n (by assumption) (by assumption) (by assumption) (by assumption) (by assumption) (by assumption) (by assumption) (by assumption) (by omega) (by omega) (by omega) (by omega) (by omega) (by omega) xT xZ) hn54 hn61
    · skip
      have c27 := (zJ _ _).mp c27
      intro v43 ev43
      have f44 := ti_shl8 8 (by omega)
      have hv43 := congrArg Int32.toInt ev43
      intro v45 ev45
      have f46 : Int32.toInt (v43 + x2) = Int32.toInt v43 + Int32.toInt x2 := aAD _ _ (by omega)
      rw [← ev45] at f46
      refine And.intro (aBZ (by omega)) ?_
      have f48 := aAw v45.toNatClampNeg
      refine And.intro (fun c47 => ?_) (fun c47 => ?_)
      · skip
        have c47 := (zJ _ _).mp c47
        refine And.intro (aBZ (by omega)) ?_
        intro v49 ev49
        have f50 : Int32.toInt (bL + 1) = Int32.toInt bL + Int32.toInt (1 : Int32) := aAD _ _ (by omega)
        rw [← ev49] at f50
        intro v51 ev51
        have hv51 := congrArg Int32.toInt ev51
        intro v52 ev52
        have f54 := aBx x2 (v51 ^^^ (-1)) (by omega)
        have hv52 := congrArg Int32.toInt ev52
        have j55 := pcn_clr v52 x5 (by assumption) (by assumption) (by omega) (by assumption) (by assumption) (by omega)
        have j56 := pcn_le 16 (v52)
        exact hK54 v52 x5 x4 v49 bY (upd sW bL.toNatClampNeg x5) uE (by omega) (by omega) aDO (by omega) yG aAw (by assumption) (by first | assumption | exact VALz_p (by omega) | exact VALz_i (by assumption) (by assumption) (by omega) (by omega) (by assumption) (by omega) (by omega) (by omega) | exact VALz_c (by assumption) (by assumption) (by assumption) (by assumption) (by assumption) (by assumption) (by omega)) (by first | assumption | exact LB_of (by assumption) (by omega) (by omega) (by omega) | exact LB_e (by assumption) (by assumption) | exact LB_c (LB_of (by assumption) (by omega) (by omega) (by omega))) (by omega) (by omega)
      · skip
        have c47 := mt (zJ _ _).mpr c47
        have j57 := pcn_le 16 (x2)
        exact ts_X10_route_105 aG qG nG pJ vZ xU xV xT yD xZ hc0 hc1 hpost hK54 hKn x2 x3 x4 x5 bL bY sW uE aBN aCH aDO aF7 yJ yG aAw (by assumption) (by first | assumption | exact VALz_p (by omega) | exact VALz_i (by assumption) (by assumption) (by omega) (by omega) (by assumption) (by omega) (by omega) (by omega) | exact VALz_c (by assumption) (by assumption) (by assumption) (by assumption) (by assumption) (by assumption) (by omega)) (by first | assumption | exact LB_of (by assumption) (by omega) (by omega) (by omega) | exact LB_e (by assumption) (by assumption) | exact LB_c (LB_of (by assumption) (by omega) (by omega) (by omega))) hx3 (by first | assumption | exact RtX_h (by assumption) (by omega) (by assumption) (by assumption) (by assumption) | exact RtX_n (by assumption) (by assumption) (by assumption) (by assumption) (by assumption) (by assumption) (by assumption) (by assumption) (by omega) (by omega) (by omega) (by omega) (by omega) (by omega) xT xZ) hn54 hn61
set_option maxHeartbeats 8000000 in
set_option maxRecDepth 200000 in
theorem tb_X10_route_61 {post : Int32 → Int32 → Int32 → (Nat → Int32) → (Nat → Int32) → Prop} {SB : Int} {K54 : Int32 → Int32 → Int32 → Int32 → Int32 → (Nat → Int32) → (Nat → Int32) → Prop} {n54 : Int} (aG : Int32) (qG nG pJ : Nat → Int32) (vZ : 0 ≤ Int32.toInt aG ∧ Int32.toInt aG ≤ 8) (xU : ∀ k : Nat, k = 17 → -1 ≤ Int32.toInt (qG k) ∧ Int32.toInt (qG k) ≤ SB) (xV : ∀ k : Nat, k = 19 → 0 ≤ Int32.toInt (qG k) ∧ Int32.toInt (qG k) ≤ 9) (xT : ∀ k : Nat, 0 ≤ Int32.toInt (nG k) ∧ Int32.toInt (nG k) ≤ 99) (yD : ∀ k : Nat, k = 4 → 1 ≤ Int32.toInt (pJ k) ∧ Int32.toInt (pJ k) ≤ 30) (xZ : ∀ k : Nat, k = 3 → 0 ≤ Int32.toInt (pJ k) ∧ Int32.toInt (pJ k) ≤ 9) (hc0 : -1 ≤ SB ∧ SB ≤ 7) (hc1 : (Int32.toInt aG ≤ 0 ∧ SB = 0) ∨ (1 ≤ Int32.toInt aG ∧ SB = Int32.toInt aG - 1)) (hpost : ∀ (r : Int32) (xM : Int32) (xG : Int32) (aBX : Nat → Int32) (aCX : Nat → Int32), (-1 ≤ Int32.toInt r ∧ Int32.toInt r ≤ 1000000) → (0 ≤ Int32.toInt xM ∧ Int32.toInt xM ≤ 16) → (0 ≤ Int32.toInt xG ∧ Int32.toInt xG ≤ 0) → (∀ k : Nat, 0 ≤ Int32.toInt (aCX k) ∧ Int32.toInt (aCX k) ≤ 1000000) → post r xM xG aBX aCX) (hK54 : ∀ (x2 : Int32) (x3 : Int32) (x4 : Int32) (bL : Int32) (bY : Int32) (sW : Nat → Int32) (uE : Nat → Int32), (0 ≤ Int32.toInt x2 ∧ Int32.toInt x2 ≤ 255) → (-1 ≤ Int32.toInt x3 ∧ Int32.toInt x3 ≤ 7) → (0 ≤ Int32.toInt x4 ∧ Int32.toInt x4 ≤ 1000000) → (0 ≤ Int32.toInt bL ∧ Int32.toInt bL ≤ 16) → (0 ≤ Int32.toInt bY ∧ Int32.toInt bY ≤ 0) → (∀ k : Nat, 0 ≤ Int32.toInt (uE k) ∧ Int32.toInt (uE k) ≤ 1000000) → (MVT uE nG pJ aG) → (VALz aG (plc x3) x2) → (LB x2 aG) → (Int32.toInt bL + ((pcn 16 x2 : Nat) : Int) ≤ 16) → (((pcn 16 x2 : Nat) : Int) < n54) → K54 x2 x3 x4 bL bY sW uE) : ∀ (n : Nat) (x2 x3 x4 x5 bL bY : Int32) (sW uE : Nat → Int32), (1 ≤ Int32.toInt x2 ∧ Int32.toInt x2 ≤ 255) → (-1 ≤ Int32.toInt x3 ∧ Int32.toInt x3 ≤ 7) → (0 ≤ Int32.toInt x4 ∧ Int32.toInt x4 ≤ 1000000) → (0 ≤ Int32.toInt x5 ∧ Int32.toInt x5 ≤ 7) → (0 ≤ Int32.toInt bL ∧ Int32.toInt bL ≤ 16) → (0 ≤ Int32.toInt bY ∧ Int32.toInt bY ≤ 0) → (∀ k : Nat, 0 ≤ Int32.toInt (uE k) ∧ Int32.toInt (uE k) ≤ 1000000) → (MVT uE nG pJ aG) → (VALz aG (plc x3) x2) → (LB x2 aG) → (Int32.toInt bL + ((pcn 16 x2 : Nat) : Int) ≤ 16) → (RtX uE nG pJ aG x3 x2 x5) → (((pcn 16 x2 : Nat) : Int) ≤ n54) → (7 - Int32.toInt x5 < (n : Int)) → wb_X10_route_61 post K54 aG qG nG pJ n x2 x3 x4 x5 bL bY sW uE := by
  intro n
  induction n with
  | zero =>
    intro x2 x3 x4 x5 bL bY sW uE aBN aCH aDO aF7 yJ yG aAw hx0 hx1 hx2 hx3 hx4 hn54 hm
    exfalso; omega
  | succ n ih =>
    intro x2 x3 x4 x5 bL bY sW uE aBN aCH aDO aF7 yJ yG aAw hx0 hx1 hx2 hx3 hx4 hn54 hm
    exact ts_X10_route_61 aG qG nG pJ vZ xU xV xT yD xZ hc0 hc1 hpost hK54 ih x2 x3 x4 x5 bL bY sW uE aBN aCH aDO aF7 yJ yG aAw hx0 hx1 hx2 hx3 hx4 hn54 (by omega)
set_option maxHeartbeats 8000000 in
set_option maxRecDepth 200000 in
theorem ts_X10_route_54 {post : Int32 → Int32 → Int32 → (Nat → Int32) → (Nat → Int32) → Prop} {SB : Int} {next : Int32 → Int32 → Int32 → Int32 → Int32 → (Nat → Int32) → (Nat → Int32) → Prop} {n54 : Int} (aG : Int32) (qG nG pJ : Nat → Int32) (vZ : 0 ≤ Int32.toInt aG ∧ Int32.toInt aG ≤ 8) (xU : ∀ k : Nat, k = 17 → -1 ≤ Int32.toInt (qG k) ∧ Int32.toInt (qG k) ≤ SB) (xV : ∀ k : Nat, k = 19 → 0 ≤ Int32.toInt (qG k) ∧ Int32.toInt (qG k) ≤ 9) (xT : ∀ k : Nat, 0 ≤ Int32.toInt (nG k) ∧ Int32.toInt (nG k) ≤ 99) (yD : ∀ k : Nat, k = 4 → 1 ≤ Int32.toInt (pJ k) ∧ Int32.toInt (pJ k) ≤ 30) (xZ : ∀ k : Nat, k = 3 → 0 ≤ Int32.toInt (pJ k) ∧ Int32.toInt (pJ k) ≤ 9) (hc0 : -1 ≤ SB ∧ SB ≤ 7) (hc1 : (Int32.toInt aG ≤ 0 ∧ SB = 0) ∨ (1 ≤ Int32.toInt aG ∧ SB = Int32.toInt aG - 1)) (hpost : ∀ (r : Int32) (xM : Int32) (xG : Int32) (aBX : Nat → Int32) (aCX : Nat → Int32), (-1 ≤ Int32.toInt r ∧ Int32.toInt r ≤ 1000000) → (0 ≤ Int32.toInt xM ∧ Int32.toInt xM ≤ 16) → (0 ≤ Int32.toInt xG ∧ Int32.toInt xG ≤ 0) → (∀ k : Nat, 0 ≤ Int32.toInt (aCX k) ∧ Int32.toInt (aCX k) ≤ 1000000) → post r xM xG aBX aCX) (hKn : ∀ (x2 : Int32) (x3 : Int32) (x4 : Int32) (bL : Int32) (bY : Int32) (sW : Nat → Int32) (uE : Nat → Int32), (0 ≤ Int32.toInt x2 ∧ Int32.toInt x2 ≤ 255) → (-1 ≤ Int32.toInt x3 ∧ Int32.toInt x3 ≤ 7) → (0 ≤ Int32.toInt x4 ∧ Int32.toInt x4 ≤ 1000000) → (0 ≤ Int32.toInt bL ∧ Int32.toInt bL ≤ 16) → (0 ≤ Int32.toInt bY ∧ Int32.toInt bY ≤ 0) → (∀ k : Nat, 0 ≤ Int32.toInt (uE k) ∧ Int32.toInt (uE k) ≤ 1000000) → (MVT uE nG pJ aG) → (VALz aG (plc x3) x2) → (LB x2 aG) → (Int32.toInt bL + ((pcn 16 x2 : Nat) : Int) ≤ 16) → (((pcn 16 x2 : Nat) : Int) < n54) → next x2 x3 x4 bL bY sW uE) (x2 x3 x4 bL bY : Int32) (sW uE : Nat → Int32) (aBN : 0 ≤ Int32.toInt x2 ∧ Int32.toInt x2 ≤ 255) (aCH : -1 ≤ Int32.toInt x3 ∧ Int32.toInt x3 ≤ 7) (aDO : 0 ≤ Int32.toInt x4 ∧ Int32.toInt x4 ≤ 1000000) (yJ : 0 ≤ Int32.toInt bL ∧ Int32.toInt bL ≤ 16) (yG : 0 ≤ Int32.toInt bY ∧ Int32.toInt bY ≤ 0) (aAw : ∀ k : Nat, 0 ≤ Int32.toInt (uE k) ∧ Int32.toInt (uE k) ≤ 1000000) (hx0 : MVT uE nG pJ aG) (hx1 : VALz aG (plc x3) x2) (hx2 : LB x2 aG) (hx3 : Int32.toInt bL + ((pcn 16 x2 : Nat) : Int) ≤ 16) (hn54 : ((pcn 16 x2 : Nat) : Int) ≤ n54) : ws_X10_route_54 post next aG qG nG pJ x2 x3 x4 bL bY sW uE := by
  have l0 := aE0
  refine And.intro (fun c58 => ?_) (fun c58 => ?_)
  · skip
    have c58 := (zJ _ _).mp c58
    exact hpost _ _ _ _ _ (by omega) yJ yG aAw
  · skip
    have c58 := mt (zJ _ _).mpr c58
    have j59 := pcn_le 16 (x2)
    exact ⟨9, tb_X10_route_61 aG qG nG pJ vZ xU xV xT yD xZ hc0 hc1 hpost hKn _ x2 x3 x4 0 bL bY sW uE (by omega) aCH aDO (by omega) yJ yG aAw (by assumption) (by first | assumption | exact VALz_p (by omega) | exact VALz_i (by assumption) (by assumption) (by omega) (by omega) (by assumption) (by omega) (by omega) (by omega) | exact VALz_c (by assumption) (by assumption) (by assumption) (by assumption) (by assumption) (by assumption) (by omega)) (by first | assumption | exact LB_of (by assumption) (by omega) (by omega) (by omega) | exact LB_e (by assumption) (by assumption) | exact LB_c (LB_of (by assumption) (by omega) (by omega) (by omega))) hx3 (by first | assumption | exact RtX_0 (by assumption) (by assumption) (by assumption) (by omega) (by assumption) (by omega) | exact RtX_s (by assumption) (by omega)) hn54 (by omega)⟩
set_option maxHeartbeats 8000000 in
set_option maxRecDepth 200000 in
theorem tb_X10_route_54 {post : Int32 → Int32 → Int32 → (Nat → Int32) → (Nat → Int32) → Prop} {SB : Int} (aG : Int32) (qG nG pJ : Nat → Int32) (vZ : 0 ≤ Int32.toInt aG ∧ Int32.toInt aG ≤ 8) (xU : ∀ k : Nat, k = 17 → -1 ≤ Int32.toInt (qG k) ∧ Int32.toInt (qG k) ≤ SB) (xV : ∀ k : Nat, k = 19 → 0 ≤ Int32.toInt (qG k) ∧ Int32.toInt (qG k) ≤ 9) (xT : ∀ k : Nat, 0 ≤ Int32.toInt (nG k) ∧ Int32.toInt (nG k) ≤ 99) (yD : ∀ k : Nat, k = 4 → 1 ≤ Int32.toInt (pJ k) ∧ Int32.toInt (pJ k) ≤ 30) (xZ : ∀ k : Nat, k = 3 → 0 ≤ Int32.toInt (pJ k) ∧ Int32.toInt (pJ k) ≤ 9) (hc0 : -1 ≤ SB ∧ SB ≤ 7) (hc1 : (Int32.toInt aG ≤ 0 ∧ SB = 0) ∨ (1 ≤ Int32.toInt aG ∧ SB = Int32.toInt aG - 1)) (hpost : ∀ (r : Int32) (xM : Int32) (xG : Int32) (aBX : Nat → Int32) (aCX : Nat → Int32), (-1 ≤ Int32.toInt r ∧ Int32.toInt r ≤ 1000000) → (0 ≤ Int32.toInt xM ∧ Int32.toInt xM ≤ 16) → (0 ≤ Int32.toInt xG ∧ Int32.toInt xG ≤ 0) → (∀ k : Nat, 0 ≤ Int32.toInt (aCX k) ∧ Int32.toInt (aCX k) ≤ 1000000) → post r xM xG aBX aCX) : ∀ (n : Nat) (x2 x3 x4 bL bY : Int32) (sW uE : Nat → Int32), (0 ≤ Int32.toInt x2 ∧ Int32.toInt x2 ≤ 255) → (-1 ≤ Int32.toInt x3 ∧ Int32.toInt x3 ≤ 7) → (0 ≤ Int32.toInt x4 ∧ Int32.toInt x4 ≤ 1000000) → (0 ≤ Int32.toInt bL ∧ Int32.toInt bL ≤ 16) → (0 ≤ Int32.toInt bY ∧ Int32.toInt bY ≤ 0) → (∀ k : Nat, 0 ≤ Int32.toInt (uE k) ∧ Int32.toInt (uE k) ≤ 1000000) → (MVT uE nG pJ aG) → (VALz aG (plc x3) x2) → (LB x2 aG) → (Int32.toInt bL + ((pcn 16 x2 : Nat) : Int) ≤ 16) → (((pcn 16 x2 : Nat) : Int) < (n : Int)) → wb_X10_route_54 post aG qG nG pJ n x2 x3 x4 bL bY sW uE := by
  intro n
  induction n with
  | zero =>
    intro x2 x3 x4 bL bY sW uE aBN aCH aDO yJ yG aAw hx0 hx1 hx2 hx3 hm
    exfalso; omega
  | succ n ih =>
    intro x2 x3 x4 bL bY sW uE aBN aCH aDO yJ yG aAw hx0 hx1 hx2 hx3 hm
    exact ts_X10_route_54 aG qG nG pJ vZ xU xV xT yD xZ hc0 hc1 hpost ih x2 x3 x4 bL bY sW uE aBN aCH aDO yJ yG aAw hx0 hx1 hx2 hx3 (by omega)
set_option maxHeartbeats 8000000 in
set_option maxRecDepth 200000 in
theorem t_X10_route {post : Int32 → Int32 → Int32 → (Nat → Int32) → (Nat → Int32) → Prop} {SB : Int} {p0 aG bL bY : Int32} {qG nG pJ sW uE : Nat → Int32} (vZ : 0 ≤ Int32.toInt aG ∧ Int32.toInt aG ≤ 8) (yJ : 0 ≤ Int32.toInt bL ∧ Int32.toInt bL ≤ 16) (yG : 0 ≤ Int32.toInt bY ∧ Int32.toInt bY ≤ 1) (xU : ∀ k : Nat, k = 17 → -1 ≤ Int32.toInt (qG k) ∧ Int32.toInt (qG k) ≤ SB) (xV : ∀ k : Nat, k = 19 → 0 ≤ Int32.toInt (qG k) ∧ Int32.toInt (qG k) ≤ 9) (xT : ∀ k : Nat, 0 ≤ Int32.toInt (nG k) ∧ Int32.toInt (nG k) ≤ 99) (yD : ∀ k : Nat, k = 4 → 1 ≤ Int32.toInt (pJ k) ∧ Int32.toInt (pJ k) ≤ 30) (xZ : ∀ k : Nat, k = 3 → 0 ≤ Int32.toInt (pJ k) ∧ Int32.toInt (pJ k) ≤ 9) (aAw : ∀ k : Nat, 0 ≤ Int32.toInt (uE k) ∧ Int32.toInt (uE k) ≤ 1000000) (hc0 : -1 ≤ SB ∧ SB ≤ 7) (hc1 : (Int32.toInt aG ≤ 0 ∧ SB = 0) ∨ (1 ≤ Int32.toInt aG ∧ SB = Int32.toInt aG - 1)) (hpost : ∀ (r : Int32) (xM : Int32) (xG : Int32) (aBX : Nat → Int32) (aCX : Nat → Int32), (-1 ≤ Int32.toInt r ∧ Int32.toInt r ≤ 1000000) → (0 ≤ Int32.toInt xM ∧ Int32.toInt xM ≤ 16) → (0 ≤ Int32.toInt xG ∧ Int32.toInt xG ≤ 0) → (∀ k : Nat, 0 ≤ Int32.toInt (aCX k) ∧ Int32.toInt (aCX k) ≤ 1000000) → post r xM xG aBX aCX) : wp_X10_route post p0 aG bL bY qG nG pJ sW uE := by
  have l0 := aI2
  have l1 := aE0
  have l2 := aEc
  have l3 := li_17
  have l4 := li_8
  intro v60 ev60
  have f61 := aDv 8 256 aG (by decide) (by omega)
  have hv60 := congrArg Int32.toInt ev60
  have f63 := aAT p0
  refine And.intro (fun c62 => ?_) (fun c62 => ?_)
  · skip
    have c62 := (aAd _ _).mp c62
    refine And.intro (fun h9 => absurd h9 (by decide)) (fun _ => ?_)
    exact hpost _ _ _ _ _ (by omega) yJ (by omega) aAw
  · skip
    have c62 := mt (aAd _ _).mpr c62
    have f65 : Int32.toInt (v60 - 1) = Int32.toInt v60 - Int32.toInt (1 : Int32) := aCA _ _ (by omega)
    refine And.intro (fun c64 => ?_) (fun c64 => ?_)
    · skip
      have c64 := (aAd _ _).mp c64
      refine And.intro (fun h9 => absurd h9 (by decide)) (fun _ => ?_)
      exact hpost _ _ _ _ _ (by omega) yJ (by omega) aAw
    · skip
      have c64 := mt (aAd _ _).mpr c64
      refine And.intro (fun _ => ?_) (fun h9 => absurd h9 (by decide))
      refine t_X10_layMoves vZ xT yD xZ aAw (fun m_moves_66 h_m_moves_66 ox67 => ?_)
      have q68 := xU (17 : Int32).toNatClampNeg (by have e9 : (17 : Int32).toNatClampNeg = (Int32.toInt (17 : Int32)).toNat := rfl; omega)
      intro v69 ev69
      have hv69 := congrArg Int32.toInt ev69
      refine And.intro (fun c71 => ?_) (fun c71 => ?_)
      · skip
        have c71 := mt (zJ _ _).mpr c71
        have q72 := xU (17 : Int32).toNatClampNeg (by have e9 : (17 : Int32).toNatClampNeg = (Int32.toInt (17 : Int32)).toNat := rfl; omega)
        intro v73 ev73
        have f74 := aDv 7 128 (qG (17 : Int32).toNatClampNeg) (by decide) (by omega)
        have hv73 := congrArg Int32.toInt ev73
        have q75 := xU (17 : Int32).toNatClampNeg (by have e9 : (17 : Int32).toNatClampNeg = (Int32.toInt (17 : Int32)).toNat := rfl; omega)
        intro v76 ev76
        have hv76 := congrArg Int32.toInt ev76
        refine And.intro (fun c77 => ?_) (fun c77 => ?_)
        · skip
          have c77 := mt (zJ _ _).mpr c77
          intro v78 ev78
          have f79 := ti_shl8 v76 (by omega)
          have hv78 := congrArg Int32.toInt ev78
          intro v80 ev80
          have f83 := aBx p0 (v73 ^^^ (-1)) (by omega)
          have f81 : Int32.toInt (v78 + (p0 &&& (v73 ^^^ (-1)))) = Int32.toInt v78 + Int32.toInt (p0 &&& (v73 ^^^ (-1))) := aAD _ _ (by omega)
          rw [← ev80] at f81
          refine And.intro (aBZ (by omega)) ?_
          have f84 := h_m_moves_66 v80.toNatClampNeg
          have j85 := pcn_le 16 (p0 &&& (v73 ^^^ (-1)))
          exact ⟨18, tb_X10_route_54 aG qG nG pJ vZ xU xV xT yD xZ hc0 hc1 hpost _ (p0 &&& (v73 ^^^ (-1))) v76 (m_moves_66 v80.toNatClampNeg) 0 0 sW m_moves_66 (by omega) (by omega) (by omega) (by omega) (by omega) h_m_moves_66 (by assumption) (by first | assumption | exact VALz_p (by omega) | exact VALz_i (by assumption) (by assumption) (by omega) (by omega) (by assumption) (by omega) (by omega) (by omega) | exact VALz_c (by assumption) (by assumption) (by assumption) (by assumption) (by assumption) (by assumption) (by omega)) (by first | assumption | exact LB_of (by assumption) (by omega) (by omega) (by omega) | exact LB_e (by assumption) (by assumption) | exact LB_c (LB_of (by assumption) (by omega) (by omega) (by omega))) (by omega) (by omega)⟩
        · skip
          have c77 := (zJ _ _).mp c77
          exfalso; omega
      · skip
        have c71 := (zJ _ _).mp c71
        have q86 := xU (17 : Int32).toNatClampNeg (by have e9 : (17 : Int32).toNatClampNeg = (Int32.toInt (17 : Int32)).toNat := rfl; omega)
        intro v87 ev87
        have hv87 := congrArg Int32.toInt ev87
        refine And.intro (fun c88 => ?_) (fun c88 => ?_)
        · skip
          have c88 := mt (zJ _ _).mpr c88
          exfalso; omega
        · skip
          have c88 := (zJ _ _).mp c88
          intro v89 ev89
          have f90 := ti_shl8 8 (by omega)
          have hv89 := congrArg Int32.toInt ev89
          intro v91 ev91
          have f92 : Int32.toInt (v89 + p0) = Int32.toInt v89 + Int32.toInt p0 := aAD _ _ (by omega)
          rw [← ev91] at f92
          refine And.intro (aBZ (by omega)) ?_
          have f93 := h_m_moves_66 v91.toNatClampNeg
          have j94 := pcn_le 16 (p0)
          exact ⟨18, tb_X10_route_54 aG qG nG pJ vZ xU xV xT yD xZ hc0 hc1 hpost _ p0 v87 (m_moves_66 v91.toNatClampNeg) 0 0 sW m_moves_66 (by omega) (by omega) (by omega) (by omega) (by omega) h_m_moves_66 (by assumption) (by first | assumption | exact VALz_p (by omega) | exact VALz_i (by assumption) (by assumption) (by omega) (by omega) (by assumption) (by omega) (by omega) (by omega) | exact VALz_c (by assumption) (by assumption) (by assumption) (by assumption) (by assumption) (by assumption) (by omega)) (by first | assumption | exact LB_of (by assumption) (by omega) (by omega) (by omega) | exact LB_e (by assumption) (by assumption) | exact LB_c (LB_of (by assumption) (by omega) (by omega) (by omega))) (by omega) (by omega)⟩
