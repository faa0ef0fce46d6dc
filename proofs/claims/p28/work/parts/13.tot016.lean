set_option maxHeartbeats 8000000 in
set_option maxRecDepth 200000 in
theorem ts_X10_route_105 {post : Int32 -> Int32 -> Int32 -> (Nat -> Int32) -> (Nat -> Int32) -> Prop} {SB : Int} {K54 : Int32 -> Int32 -> Int32 -> Int32 -> Int32 -> (Nat -> Int32) -> (Nat -> Int32) -> Prop} {K61 : Int32 -> Int32 -> Int32 -> Int32 -> Int32 -> Int32 -> (Nat -> Int32) -> (Nat -> Int32) -> Prop} {n54 n61 : Int} (aG : Int32) (qG nG pJ : Nat -> Int32) (vZ : 0 <= Int32.toInt aG /\ Int32.toInt aG <= 8) (xU : ∀ k : Nat, k = 17 -> -1 <= Int32.toInt (qG k) /\ Int32.toInt (qG k) <= SB) (xV : ∀ k : Nat, k = 19 -> 0 <= Int32.toInt (qG k) /\ Int32.toInt (qG k) <= 9) (xT : ∀ k : Nat, 0 <= Int32.toInt (nG k) /\ Int32.toInt (nG k) <= 99) (yD : ∀ k : Nat, k = 4 -> 1 <= Int32.toInt (pJ k) /\ Int32.toInt (pJ k) <= 30) (xZ : ∀ k : Nat, k = 3 -> 0 <= Int32.toInt (pJ k) /\ Int32.toInt (pJ k) <= 9) (hc0 : -1 <= SB /\ SB <= 7) (hc1 : (Int32.toInt aG <= 0 /\ SB = 0) \/ (1 <= Int32.toInt aG /\ SB = Int32.toInt aG - 1)) (hpost : ∀ (r : Int32) (xM : Int32) (xG : Int32) (aBX : Nat -> Int32) (aCX : Nat -> Int32), (-1 <= Int32.toInt r /\ Int32.toInt r <= 1000000) -> (0 <= Int32.toInt xM /\ Int32.toInt xM <= 16) -> (0 <= Int32.toInt xG /\ Int32.toInt xG <= 0) -> (∀ k : Nat, 0 <= Int32.toInt (aCX k) /\ Int32.toInt (aCX k) <= 1000000) -> (Int32.toInt r = -1 \/ MVT aCX nG pJ aG) -> post r xM xG aBX aCX) (hK54 : ∀ (x2 : Int32) (x3 : Int32) (x4 : Int32) (bL : Int32) (bY : Int32) (sW : Nat -> Int32) (uE : Nat -> Int32), (0 <= Int32.toInt x2 /\ Int32.toInt x2 <= 255) -> (-1 <= Int32.toInt x3 /\ Int32.toInt x3 <= 7) -> (0 <= Int32.toInt x4 /\ Int32.toInt x4 <= 1000000) -> (0 <= Int32.toInt bL /\ Int32.toInt bL <= 16) -> (0 <= Int32.toInt bY /\ Int32.toInt bY <= 0) -> (∀ k : Nat, 0 <= Int32.toInt (uE k) /\ Int32.toInt (uE k) <= 1000000) -> (MVT uE nG pJ aG) -> (VALz aG (plc x3) x2) -> (LB x2 aG) -> (Int32.toInt bL + ((pcn 16 x2 : Nat) : Int) <= 16) -> (((pcn 16 x2 : Nat) : Int) < n54) -> K54 x2 x3 x4 bL bY sW uE) (hK61 : ∀ (x2 : Int32) (x3 : Int32) (x4 : Int32) (x5 : Int32) (bL : Int32) (bY : Int32) (sW : Nat -> Int32) (uE : Nat -> Int32), (1 <= Int32.toInt x2 /\ Int32.toInt x2 <= 255) -> (-1 <= Int32.toInt x3 /\ Int32.toInt x3 <= 7) -> (0 <= Int32.toInt x4 /\ Int32.toInt x4 <= 1000000) -> (0 <= Int32.toInt x5 /\ Int32.toInt x5 <= 7) -> (0 <= Int32.toInt bL /\ Int32.toInt bL <= 16) -> (0 <= Int32.toInt bY /\ Int32.toInt bY <= 0) -> (∀ k : Nat, 0 <= Int32.toInt (uE k) /\ Int32.toInt (uE k) <= 1000000) -> (MVT uE nG pJ aG) -> (VALz aG (plc x3) x2) -> (LB x2 aG) -> (Int32.toInt bL + ((pcn 16 x2 : Nat) : Int) <= 16) -> (RtX uE nG pJ aG x3 x2 x5) -> (((pcn 16 x2 : Nat) : Int) <= n54) -> (7 - Int32.toInt x5 < n61) -> K61 x2 x3 x4 x5 bL bY sW uE) (x2 x3 x4 x5 bL bY : Int32) (sW uE : Nat -> Int32) (aBN : 1 <= Int32.toInt x2 /\ Int32.toInt x2 <= 255) (aCH : -1 <= Int32.toInt x3 /\ Int32.toInt x3 <= 7) (aDO : 0 <= Int32.toInt x4 /\ Int32.toInt x4 <= 1000000) (aF7 : 0 <= Int32.toInt x5 /\ Int32.toInt x5 <= 7) (yJ : 0 <= Int32.toInt bL /\ Int32.toInt bL <= 16) (yG : 0 <= Int32.toInt bY /\ Int32.toInt bY <= 0) (aAw : ∀ k : Nat, 0 <= Int32.toInt (uE k) /\ Int32.toInt (uE k) <= 1000000) (hx0 : MVT uE nG pJ aG) (hx1 : VALz aG (plc x3) x2) (hx2 : LB x2 aG) (hx3 : Int32.toInt bL + ((pcn 16 x2 : Nat) : Int) <= 16) (hx4 : RtY uE nG pJ aG x3 x2 x5) (hn54 : ((pcn 16 x2 : Nat) : Int) <= n54) (hn61 : 7 - Int32.toInt x5 <= n61) : ws_X10_route_105 post K54 K61 aG qG nG pJ x2 x3 x4 x5 bL bY sW uE := by
  have l0 := aEc
  have j1 := RtY_le (x := x5) (by assumption) (by omega)
  intro v2 ev2
  have f3 : Int32.toInt (x5 + 1) = Int32.toInt x5 + Int32.toInt (1 : Int32) := aAD _ _ (by omega)
  rw [<- ev2] at f3
  have j4 := pcn_le 16 (x2)
  exact hK61 x2 x3 x4 v2 bL bY sW uE aBN aCH aDO (by omega) yJ yG aAw (by assumption) (by first | assumption | exact VALz_p (by omega) | exact VALz_i (by assumption) (by assumption) (by omega) (by omega) (by assumption) (by omega) (by omega) (by omega) | exact VALz_c (by assumption) (by assumption) (by assumption) (by assumption) (by assumption) (by assumption) (by omega)) (by first | assumption | exact LB_of (by assumption) (by omega) (by omega) (by omega) | exact LB_e (by assumption) (by assumption) | exact LB_c (LB_of (by assumption) (by omega) (by omega) (by omega))) hx3 (by first | assumption | exact RtX_0 (by assumption) (by assumption) (by assumption) (by omega) (by assumption) (by omega) | exact RtX_s (by assumption) (by omega)) hn54 (by omega)
set_option maxHeartbeats 8000000 in
set_option maxRecDepth 200000 in
theorem ts_X10_route_61 {post : Int32 -> Int32 -> Int32 -> (Nat -> Int32) -> (Nat -> Int32) -> Prop} {SB : Int} {K54 : Int32 -> Int32 -> Int32 -> Int32 -> Int32 -> (Nat -> Int32) -> (Nat -> Int32) -> Prop} {next : Int32 -> Int32 -> Int32 -> Int32 -> Int32 -> Int32 -> (Nat -> Int32) -> (Nat -> Int32) -> Prop} {n61 n54 : Int} (aG : Int32) (qG nG pJ : Nat -> Int32) (vZ : 0 <= Int32.toInt aG /\ Int32.toInt aG <= 8) (xU : ∀ k : Nat, k = 17 -> -1 <= Int32.toInt (qG k) /\ Int32.toInt (qG k) <= SB) (xV : ∀ k : Nat, k = 19 -> 0 <= Int32.toInt (qG k) /\ Int32.toInt (qG k) <= 9) (xT : ∀ k : Nat, 0 <= Int32.toInt (nG k) /\ Int32.toInt (nG k) <= 99) (yD : ∀ k : Nat, k = 4 -> 1 <= Int32.toInt (pJ k) /\ Int32.toInt (pJ k) <= 30) (xZ : ∀ k : Nat, k = 3 -> 0 <= Int32.toInt (pJ k) /\ Int32.toInt (pJ k) <= 9) (hc0 : -1 <= SB /\ SB <= 7) (hc1 : (Int32.toInt aG <= 0 /\ SB = 0) \/ (1 <= Int32.toInt aG /\ SB = Int32.toInt aG - 1)) (hpost : ∀ (r : Int32) (xM : Int32) (xG : Int32) (aBX : Nat -> Int32) (aCX : Nat -> Int32), (-1 <= Int32.toInt r /\ Int32.toInt r <= 1000000) -> (0 <= Int32.toInt xM /\ Int32.toInt xM <= 16) -> (0 <= Int32.toInt xG /\ Int32.toInt xG <= 0) -> (∀ k : Nat, 0 <= Int32.toInt (aCX k) /\ Int32.toInt (aCX k) <= 1000000) -> (Int32.toInt r = -1 \/ MVT aCX nG pJ aG) -> post r xM xG aBX aCX) (hK54 : ∀ (x2 : Int32) (x3 : Int32) (x4 : Int32) (bL : Int32) (bY : Int32) (sW : Nat -> Int32) (uE : Nat -> Int32), (0 <= Int32.toInt x2 /\ Int32.toInt x2 <= 255) -> (-1 <= Int32.toInt x3 /\ Int32.toInt x3 <= 7) -> (0 <= Int32.toInt x4 /\ Int32.toInt x4 <= 1000000) -> (0 <= Int32.toInt bL /\ Int32.toInt bL <= 16) -> (0 <= Int32.toInt bY /\ Int32.toInt bY <= 0) -> (∀ k : Nat, 0 <= Int32.toInt (uE k) /\ Int32.toInt (uE k) <= 1000000) -> (MVT uE nG pJ aG) -> (VALz aG (plc x3) x2) -> (LB x2 aG) -> (Int32.toInt bL + ((pcn 16 x2 : Nat) : Int) <= 16) -> (((pcn 16 x2 : Nat) : Int) < n54) -> K54 x2 x3 x4 bL bY sW uE) (hKn : ∀ (x2 : Int32) (x3 : Int32) (x4 : Int32) (x5 : Int32) (bL : Int32) (bY : Int32) (sW : Nat -> Int32) (uE : Nat -> Int32), (1 <= Int32.toInt x2 /\ Int32.toInt x2 <= 255) -> (-1 <= Int32.toInt x3 /\ Int32.toInt x3 <= 7) -> (0 <= Int32.toInt x4 /\ Int32.toInt x4 <= 1000000) -> (0 <= Int32.toInt x5 /\ Int32.toInt x5 <= 7) -> (0 <= Int32.toInt bL /\ Int32.toInt bL <= 16) -> (0 <= Int32.toInt bY /\ Int32.toInt bY <= 0) -> (∀ k : Nat, 0 <= Int32.toInt (uE k) /\ Int32.toInt (uE k) <= 1000000) -> (MVT uE nG pJ aG) -> (VALz aG (plc x3) x2) -> (LB x2 aG) -> (Int32.toInt bL + ((pcn 16 x2 : Nat) : Int) <= 16) -> (RtX uE nG pJ aG x3 x2 x5) -> (((pcn 16 x2 : Nat) : Int) <= n54) -> (7 - Int32.toInt x5 < n61) -> next x2 x3 x4 x5 bL bY sW uE) (x2 x3 x4 x5 bL bY : Int32) (sW uE : Nat -> Int32) (aBN : 1 <= Int32.toInt x2 /\ Int32.toInt x2 <= 255) (aCH : -1 <= Int32.toInt x3 /\ Int32.toInt x3 <= 7) (aDO : 0 <= Int32.toInt x4 /\ Int32.toInt x4 <= 1000000) (aF7 : 0 <= Int32.toInt x5 /\ Int32.toInt x5 <= 7) (yJ : 0 <= Int32.toInt bL /\ Int32.toInt bL <= 16) (yG : 0 <= Int32.toInt bY /\ Int32.toInt bY <= 0) (aAw : ∀ k : Nat, 0 <= Int32.toInt (uE k) /\ Int32.toInt (uE k) <= 1000000) (hx0 : MVT uE nG pJ aG) (hx1 : VALz aG (plc x3) x2) (hx2 : LB x2 aG) (hx3 : Int32.toInt bL + ((pcn 16 x2 : Nat) : Int) <= 16) (hx4 : RtX uE nG pJ aG x3 x2 x5) (hn54 : ((pcn 16 x2 : Nat) : Int) <= n54) (hn61 : 7 - Int32.toInt x5 <= n61) : ws_X10_route_61 post K54 next aG qG nG pJ x2 x3 x4 x5 bL bY sW uE := by
  have l0 := aI2
  have l1 := aEc
  have l2 := li_8
  intro v5 ev5
  have f6 := aRJ x2 x5 (by omega)
  have hv5 := congrArg Int32.toInt ev5
  intro v7 ev7
  have f8 := aAQ v5 1 (by omega)
  have f9 := aBx v5 1 (by omega)
  have hv7 := congrArg Int32.toInt ev7
  refine And.intro (fun c10 => ?_) (fun c10 => ?_)
  · skip
    have c10 := mt (zJ _ _).mpr c10
    refine And.intro (fun _ => ?_) (fun h9 => absurd h9 (by decide))
    have j11 := pcn_le 16 (x2)
    exact ts_X10_route_105 aG qG nG pJ vZ xU xV xT yD xZ hc0 hc1 hpost hK54 hKn x2 x3 x4 x5 bL bY sW uE aBN aCH aDO aF7 yJ yG aAw (by assumption) (by first | assumption | exact VALz_p (by omega) | exact VALz_i (by assumption) (by assumption) (by omega) (by omega) (by assumption) (by omega) (by omega) (by omega) | exact VALz_c (by assumption) (by assumption) (by assumption) (by assumption) (by assumption) (by assumption) (by omega)) (by first | assumption | exact LB_of (by assumption) (by omega) (by omega) (by omega) | exact LB_e (by assumption) (by assumption) | exact LB_c (LB_of (by assumption) (by omega) (by omega) (by omega))) hx3 (by first | assumption | exact RtX_h (by assumption) (by omega) (by assumption) (by assumption) (by assumption) | exact RtX_n (by assumption) (by assumption) (by assumption) (by assumption) (by assumption) (by assumption) (by assumption) (by assumption) (by omega) (by omega) (by omega) (by omega) (by omega) (by omega) xT xZ) hn54 hn61
  · skip
    have c10 := (zJ _ _).mp c10
    refine And.intro (fun h9 => absurd h9 (by decide)) (fun _ => ?_)
    have j12 := pcn_pos x2 x5 (by assumption) (by assumption) (by omega) (by omega)
    refine t_X10_moveOf aCH aF7 xT yD xZ (by omega) (by omega) (fun r13 h_r13 ox14 => ?_)
    intro v15 ev15
    have f16 := aDv 7 128 x5 (by decide) (by omega)
    have hv15 := congrArg Int32.toInt ev15
    intro v17 ev17
    have f19 := aBx x2 (v15 ^^^ (-1)) (by omega)
    have hv17 := congrArg Int32.toInt ev17
    intro v20 ev20
    have f21 := ti_shl8 x5 (by omega)
    have hv20 := congrArg Int32.toInt ev20
    intro v22 ev22
    have f23 : Int32.toInt (v20 + v17) = Int32.toInt v20 + Int32.toInt v17 := aAD _ _ (by omega)
    rw [<- ev22] at f23
    refine And.intro (aBZ (by omega)) ?_
    intro v24 ev24
    have f26 := aAw v22.toNatClampNeg
    have f25 : Int32.toInt (r13 + (uE v22.toNatClampNeg)) = Int32.toInt r13 + Int32.toInt (uE v22.toNatClampNeg) := aAD _ _ (by omega)
    rw [<- ev24] at f25
    refine And.intro (fun c27 => ?_) (fun c27 => ?_)
    · skip
      have c27 := mt (zJ _ _).mpr c27
      intro v28 ev28
      have f29 := ti_shl8 x3 (by omega)
      have hv28 := congrArg Int32.toInt ev28
      intro v30 ev30
      have f31 : Int32.toInt (v28 + x2) = Int32.toInt v28 + Int32.toInt x2 := aAD _ _ (by omega)
      rw [<- ev30] at f31
      refine And.intro (aBZ (by omega)) ?_
      have f33 := aAw v30.toNatClampNeg
      refine And.intro (fun c32 => ?_) (fun c32 => ?_)
      · skip
        have c32 := (zJ _ _).mp c32
        refine And.intro (aBZ (by omega)) ?_
        intro v34 ev34
        have f35 : Int32.toInt (bL + 1) = Int32.toInt bL + Int32.toInt (1 : Int32) := aAD _ _ (by omega)
        rw [<- ev34] at f35
        intro v36 ev36
        have hv36 := congrArg Int32.toInt ev36
        intro v37 ev37
        have f39 := aBx x2 (v36 ^^^ (-1)) (by omega)
        have hv37 := congrArg Int32.toInt ev37
        have j40 := pcn_clr v37 x5 (by assumption) (by assumption) (by omega) (by assumption) (by assumption) (by omega)
        have j41 := pcn_le 16 (v37)
        exact hK54 v37 x5 x4 v34 bY (upd sW bL.toNatClampNeg x5) uE (by omega) (by omega) aDO (by omega) yG aAw (by assumption) (by first | assumption | exact VALz_p (by omega) | exact VALz_i (by assumption) (by assumption) (by omega) (by omega) (by assumption) (by omega) (by omega) (by omega) | exact VALz_c (by assumption) (by assumption) (by assumption) (by assumption) (by assumption) (by assumption) (by omega)) (by first | assumption | exact LB_of (by assumption) (by omega) (by omega) (by omega) | exact LB_e (by assumption) (by assumption) | exact LB_c (LB_of (by assumption) (by omega) (by omega) (by omega))) (by omega) (by omega)
      · skip
        have c32 := mt (zJ _ _).mpr c32
        have j42 := pcn_le 16 (x2)
        exact ts_X10_route_105 aG qG nG pJ vZ xU xV xT yD xZ hc0 hc1 hpost hK54 hKn x2 x3 x4 x5 bL bY sW uE aBN aCH aDO aF7 yJ yG aAw (by assumption) (by first | assumption | exact VALz_p (by omega) | exact VALz_i (by assumption) (by assumption) (by omega) (by omega) (by assumption) (by omega) (by omega) (by omega) | exact VALz_c (by assumption) (by assumption) (by assumption) (by assumption) (by assumption) (by assumption) (by omega)) (by first | assumption | exact LB_of (by assumption) (by omega) (by omega) (by omega) | exact LB_e (by assumption) (by assumption) | exact LB_c (LB_of (by assumption) (by omega) (by omega) (by omega))) hx3 (by first | assumption | exact RtX_h (by assumption) (by omega) (by assumption) (by assumption) (by assumption) | exact RtX_n (by assumption) (by assumption) (by assumption) (by assumption) (by assumption) (by assumption) (by assumption) (by assumption) (by omega) (by omega) (by omega) (by omega) (by omega) (by omega) xT xZ) hn54 hn61
    · skip
      have c27 := (zJ _ _).mp c27
      intro v43 ev43
      have f44 := ti_shl8 8 (by omega)
      have hv43 := congrArg Int32.toInt ev43
      intro v45 ev45
      have f46 : Int32.toInt (v43 + x2) = Int32.toInt v43 + Int32.toInt x2 := aAD _ _ (by omega)
      rw [<- ev45] at f46
      refine And.intro (aBZ (by omega)) ?_
      have f48 := aAw v45.toNatClampNeg
      refine And.intro (fun c47 => ?_) (fun c47 => ?_)
      · skip
        have c47 := (zJ _ _).mp c47
        refine And.intro (aBZ (by omega)) ?_
        intro v49 ev49
        have f50 : Int32.toInt (bL + 1) = Int32.toInt bL + Int32.toInt (1 : Int32) := aAD _ _ (by omega)
        rw [<- ev49] at f50
        intro v51 ev51
        have hv51 := congrArg Int32.toInt ev51
        intro v52 ev52
        have f54 := aBx x2 (v51 ^^^ (-1)) (by omega)
        have hv52 := congrArg Int32.toInt ev52
        have j55 := pcn_clr v52 x5 (by assumption) (by assumption) (by omega) (by assumption) (by assumption) (by omega)
        have j56 := pcn_le 16 (v52)
        exact hK54 v52 x5 x4 v49 bY (upd sW bL.toNatClampNeg x5) uE (by omega) (by omega) aDO (by omega) yG aAw (by assumption) (by first | assumption | exact VALz_p (by omega) | exact VALz_i (by assumption) (by assumption) (by omega) (by omega) (by assumption) (by omega) (by omega) (by omega) | exact VALz_c (by assumption) (by assumption) (by assumption) (by assumption) (by assumption) (by assumption) (by omega)) (by first | assumption | exact LB_of (by assumption) (by omega) (by omega) (by omega) | exact LB_e (by assumption) (by assumption) | exact LB_c (LB_of (by assumption) (by omega) (by omega) (by omega))) (by omega) (by omega)
      · skip
        have c47 := mt (zJ _ _).mpr c47
        have j57 := pcn_le 16 (x2)
        exact ts_X10_route_105 aG qG nG pJ vZ xU xV xT yD xZ hc0 hc1 hpost hK54 hKn x2 x3 x4 x5 bL bY sW uE aBN aCH aDO aF7 yJ yG aAw (by assumption) (by first | assumption | exact VALz_p (by omega) | exact VALz_i (by assumption) (by assumption) (by omega) (by omega) (by assumption) (by omega) (by omega) (by omega) | exact VALz_c (by assumption) (by assumption) (by assumption) (by assumption) (by assumption) (by assumption) (by omega)) (by first | assumption | exact LB_of (by assumption) (by omega) (by omega) (by omega) | exact LB_e (by assumption) (by assumption) | exact LB_c (LB_of (by assumption) (by omega) (by omega) (by omega))) hx3 (by first | assumption | exact RtX_h (by assumption) (by omega) (by assumption) (by assumption) (by assumption) | exact RtX_n (by assumption) (by assumption) (by assumption) (by assumption) (by assumption) (by assumption) (by assumption) (by assumption) (by omega) (by omega) (by omega) (by omega) (by omega) (by omega) xT xZ) hn54 hn61
set_option maxHeartbeats 8000000 in
set_option maxRecDepth 200000 in
theorem tb_X10_route_61 {post : Int32 -> Int32 -> Int32 -> (Nat -> Int32) -> (Nat -> Int32) -> Prop} {SB : Int} {K54 : Int32 -> Int32 -> Int32 -> Int32 -> Int32 -> (Nat -> Int32) -> (Nat -> Int32) -> Prop} {n54 : Int} (aG : Int32) (qG nG pJ : Nat -> Int32) (vZ : 0 <= Int32.toInt aG /\ Int32.toInt aG <= 8) (xU : ∀ k : Nat, k = 17 -> -1 <= Int32.toInt (qG k) /\ Int32.toInt (qG k) <= SB) (xV : ∀ k : Nat, k = 19 -> 0 <= Int32.toInt (qG k) /\ Int32.toInt (qG k) <= 9) (xT : ∀ k : Nat, 0 <= Int32.toInt (nG k) /\ Int32.toInt (nG k) <= 99) (yD : ∀ k : Nat, k = 4 -> 1 <= Int32.toInt (pJ k) /\ Int32.toInt (pJ k) <= 30) (xZ : ∀ k : Nat, k = 3 -> 0 <= Int32.toInt (pJ k) /\ Int32.toInt (pJ k) <= 9) (hc0 : -1 <= SB /\ SB <= 7) (hc1 : (Int32.toInt aG <= 0 /\ SB = 0) \/ (1 <= Int32.toInt aG /\ SB = Int32.toInt aG - 1)) (hpost : ∀ (r : Int32) (xM : Int32) (xG : Int32) (aBX : Nat -> Int32) (aCX : Nat -> Int32), (-1 <= Int32.toInt r /\ Int32.toInt r <= 1000000) -> (0 <= Int32.toInt xM /\ Int32.toInt xM <= 16) -> (0 <= Int32.toInt xG /\ Int32.toInt xG <= 0) -> (∀ k : Nat, 0 <= Int32.toInt (aCX k) /\ Int32.toInt (aCX k) <= 1000000) -> (Int32.toInt r = -1 \/ MVT aCX nG pJ aG) -> post r xM xG aBX aCX) (hK54 : ∀ (x2 : Int32) (x3 : Int32) (x4 : Int32) (bL : Int32) (bY : Int32) (sW : Nat -> Int32) (uE : Nat -> Int32), (0 <= Int32.toInt x2 /\ Int32.toInt x2 <= 255) -> (-1 <= Int32.toInt x3 /\ Int32.toInt x3 <= 7) -> (0 <= Int32.toInt x4 /\ Int32.toInt x4 <= 1000000) -> (0 <= Int32.toInt bL /\ Int32.toInt bL <= 16) -> (0 <= Int32.toInt bY /\ Int32.toInt bY <= 0) -> (∀ k : Nat, 0 <= Int32.toInt (uE k) /\ Int32.toInt (uE k) <= 1000000) -> (MVT uE nG pJ aG) -> (VALz aG (plc x3) x2) -> (LB x2 aG) -> (Int32.toInt bL + ((pcn 16 x2 : Nat) : Int) <= 16) -> (((pcn 16 x2 : Nat) : Int) < n54) -> K54 x2 x3 x4 bL bY sW uE) : ∀ (n : Nat) (x2 x3 x4 x5 bL bY : Int32) (sW uE : Nat -> Int32), (1 <= Int32.toInt x2 /\ Int32.toInt x2 <= 255) -> (-1 <= Int32.toInt x3 /\ Int32.toInt x3 <= 7) -> (0 <= Int32.toInt x4 /\ Int32.toInt x4 <= 1000000) -> (0 <= Int32.toInt x5 /\ Int32.toInt x5 <= 7) -> (0 <= Int32.toInt bL /\ Int32.toInt bL <= 16) -> (0 <= Int32.toInt bY /\ Int32.toInt bY <= 0) -> (∀ k : Nat, 0 <= Int32.toInt (uE k) /\ Int32.toInt (uE k) <= 1000000) -> (MVT uE nG pJ aG) -> (VALz aG (plc x3) x2) -> (LB x2 aG) -> (Int32.toInt bL + ((pcn 16 x2 : Nat) : Int) <= 16) -> (RtX uE nG pJ aG x3 x2 x5) -> (((pcn 16 x2 : Nat) : Int) <= n54) -> (7 - Int32.toInt x5 < (n : Int)) -> wb_X10_route_61 post K54 aG qG nG pJ n x2 x3 x4 x5 bL bY sW uE := by
  intro n
  induction n with
  | zero =>
    intro x2 x3 x4 x5 bL bY sW uE aBN aCH aDO aF7 yJ yG aAw hx0 hx1 hx2 hx3 hx4 hn54 hm
    exfalso; omega
  | succ n ih =>
    intro x2 x3 x4 x5 bL bY sW uE aBN aCH aDO aF7 yJ yG aAw hx0 hx1 hx2 hx3 hx4 hn54 hm
    exact ts_X10_route_61 aG qG nG pJ vZ xU xV xT yD xZ hc0 hc1 hpost hK54 ih x2 x3 x4 x5 bL bY sW uE aBN aCH aDO aF7 yJ yG aAw hx0 hx1 hx2 hx3 hx4 hn54 (by omega)
set_option maxHeartbeats 8000000 in
set_option maxRecDepth 200000 in
theorem ts_X10_route_54 {post : Int32 -> Int32 -> Int32 -> (Nat -> Int32) -> (Nat -> Int32) -> Prop} {SB : Int} {next : Int32 -> Int32 -> Int32 -> Int32 -> Int32 -> (Nat -> Int32) -> (Nat -> Int32) -> Prop} {n54 : Int} (aG : Int32) (qG nG pJ : Nat -> Int32) (vZ : 0 <= Int32.toInt aG /\ Int32.toInt aG <= 8) (xU : ∀ k : Nat, k = 17 -> -1 <= Int32.toInt (qG k) /\ Int32.toInt (qG k) <= SB) (xV : ∀ k : Nat, k = 19 -> 0 <= Int32.toInt (qG k) /\ Int32.toInt (qG k) <= 9) (xT : ∀ k : Nat, 0 <= Int32.toInt (nG k) /\ Int32.toInt (nG k) <= 99) (yD : ∀ k : Nat, k = 4 -> 1 <= Int32.toInt (pJ k) /\ Int32.toInt (pJ k) <= 30) (xZ : ∀ k : Nat, k = 3 -> 0 <= Int32.toInt (pJ k) /\ Int32.toInt (pJ k) <= 9) (hc0 : -1 <= SB /\ SB <= 7) (hc1 : (Int32.toInt aG <= 0 /\ SB = 0) \/ (1 <= Int32.toInt aG /\ SB = Int32.toInt aG - 1)) (hpost : ∀ (r : Int32) (xM : Int32) (xG : Int32) (aBX : Nat -> Int32) (aCX : Nat -> Int32), (-1 <= Int32.toInt r /\ Int32.toInt r <= 1000000) -> (0 <= Int32.toInt xM /\ Int32.toInt xM <= 16) -> (0 <= Int32.toInt xG /\ Int32.toInt xG <= 0) -> (∀ k : Nat, 0 <= Int32.toInt (aCX k) /\ Int32.toInt (aCX k) <= 1000000) -> (Int32.toInt r = -1 \/ MVT aCX nG pJ aG) -> post r xM xG aBX aCX) (hKn : ∀ (x2 : Int32) (x3 : Int32) (x4 : Int32) (bL : Int32) (bY : Int32) (sW : Nat -> Int32) (uE : Nat -> Int32), (0 <= Int32.toInt x2 /\ Int32.toInt x2 <= 255) -> (-1 <= Int32.toInt x3 /\ Int32.toInt x3 <= 7) -> (0 <= Int32.toInt x4 /\ Int32.toInt x4 <= 1000000) -> (0 <= Int32.toInt bL /\ Int32.toInt bL <= 16) -> (0 <= Int32.toInt bY /\ Int32.toInt bY <= 0) -> (∀ k : Nat, 0 <= Int32.toInt (uE k) /\ Int32.toInt (uE k) <= 1000000) -> (MVT uE nG pJ aG) -> (VALz aG (plc x3) x2) -> (LB x2 aG) -> (Int32.toInt bL + ((pcn 16 x2 : Nat) : Int) <= 16) -> (((pcn 16 x2 : Nat) : Int) < n54) -> next x2 x3 x4 bL bY sW uE) (x2 x3 x4 bL bY : Int32) (sW uE : Nat -> Int32) (aBN : 0 <= Int32.toInt x2 /\ Int32.toInt x2 <= 255) (aCH : -1 <= Int32.toInt x3 /\ Int32.toInt x3 <= 7) (aDO : 0 <= Int32.toInt x4 /\ Int32.toInt x4 <= 1000000) (yJ : 0 <= Int32.toInt bL /\ Int32.toInt bL <= 16) (yG : 0 <= Int32.toInt bY /\ Int32.toInt bY <= 0) (aAw : ∀ k : Nat, 0 <= Int32.toInt (uE k) /\ Int32.toInt (uE k) <= 1000000) (hx0 : MVT uE nG pJ aG) (hx1 : VALz aG (plc x3) x2) (hx2 : LB x2 aG) (hx3 : Int32.toInt bL + ((pcn 16 x2 : Nat) : Int) <= 16) (hn54 : ((pcn 16 x2 : Nat) : Int) <= n54) : ws_X10_route_54 post next aG qG nG pJ x2 x3 x4 bL bY sW uE := by
  have l0 := aE0
  refine And.intro (fun c58 => ?_) (fun c58 => ?_)
  · skip
    have c58 := (zJ _ _).mp c58
    exact hpost _ _ _ _ _ (by omega) yJ yG aAw (by first | exact Or.inl (by decide) | exact Or.inr (by assumption))
  · skip
    have c58 := mt (zJ _ _).mpr c58
    have j59 := pcn_le 16 (x2)
    exact ⟨9, tb_X10_route_61 aG qG nG pJ vZ xU xV xT yD xZ hc0 hc1 hpost hKn _ x2 x3 x4 0 bL bY sW uE (by omega) aCH aDO (by omega) yJ yG aAw (by assumption) (by first | assumption | exact VALz_p (by omega) | exact VALz_i (by assumption) (by assumption) (by omega) (by omega) (by assumption) (by omega) (by omega) (by omega) | exact VALz_c (by assumption) (by assumption) (by assumption) (by assumption) (by assumption) (by assumption) (by omega)) (by first | assumption | exact LB_of (by assumption) (by omega) (by omega) (by omega) | exact LB_e (by assumption) (by assumption) | exact LB_c (LB_of (by assumption) (by omega) (by omega) (by omega))) hx3 (by first | assumption | exact RtX_0 (by assumption) (by assumption) (by assumption) (by omega) (by assumption) (by omega) | exact RtX_s (by assumption) (by omega)) hn54 (by omega)⟩
set_option maxHeartbeats 8000000 in
set_option maxRecDepth 200000 in
theorem tb_X10_route_54 {post : Int32 -> Int32 -> Int32 -> (Nat -> Int32) -> (Nat -> Int32) -> Prop} {SB : Int} (aG : Int32) (qG nG pJ : Nat -> Int32) (vZ : 0 <= Int32.toInt aG /\ Int32.toInt aG <= 8) (xU : ∀ k : Nat, k = 17 -> -1 <= Int32.toInt (qG k) /\ Int32.toInt (qG k) <= SB) (xV : ∀ k : Nat, k = 19 -> 0 <= Int32.toInt (qG k) /\ Int32.toInt (qG k) <= 9) (xT : ∀ k : Nat, 0 <= Int32.toInt (nG k) /\ Int32.toInt (nG k) <= 99) (yD : ∀ k : Nat, k = 4 -> 1 <= Int32.toInt (pJ k) /\ Int32.toInt (pJ k) <= 30) (xZ : ∀ k : Nat, k = 3 -> 0 <= Int32.toInt (pJ k) /\ Int32.toInt (pJ k) <= 9) (hc0 : -1 <= SB /\ SB <= 7) (hc1 : (Int32.toInt aG <= 0 /\ SB = 0) \/ (1 <= Int32.toInt aG /\ SB = Int32.toInt aG - 1)) (hpost : ∀ (r : Int32) (xM : Int32) (xG : Int32) (aBX : Nat -> Int32) (aCX : Nat -> Int32), (-1 <= Int32.toInt r /\ Int32.toInt r <= 1000000) -> (0 <= Int32.toInt xM /\ Int32.toInt xM <= 16) -> (0 <= Int32.toInt xG /\ Int32.toInt xG <= 0) -> (∀ k : Nat, 0 <= Int32.toInt (aCX k) /\ Int32.toInt (aCX k) <= 1000000) -> (Int32.toInt r = -1 \/ MVT aCX nG pJ aG) -> post r xM xG aBX aCX) : ∀ (n : Nat) (x2 x3 x4 bL bY : Int32) (sW uE : Nat -> Int32), (0 <= Int32.toInt x2 /\ Int32.toInt x2 <= 255) -> (-1 <= Int32.toInt x3 /\ Int32.toInt x3 <= 7) -> (0 <= Int32.toInt x4 /\ Int32.toInt x4 <= 1000000) -> (0 <= Int32.toInt bL /\ Int32.toInt bL <= 16) -> (0 <= Int32.toInt bY /\ Int32.toInt bY <= 0) -> (∀ k : Nat, 0 <= Int32.toInt (uE k) /\ Int32.toInt (uE k) <= 1000000) -> (MVT uE nG pJ aG) -> (VALz aG (plc x3) x2) -> (LB x2 aG) -> (Int32.toInt bL + ((pcn 16 x2 : Nat) : Int) <= 16) -> (((pcn 16 x2 : Nat) : Int) < (n : Int)) -> wb_X10_route_54 post aG qG nG pJ n x2 x3 x4 bL bY sW uE := by
  intro n
  induction n with
  | zero =>
    intro x2 x3 x4 bL bY sW uE aBN aCH aDO yJ yG aAw hx0 hx1 hx2 hx3 hm
    exfalso; omega
  | succ n ih =>
    intro x2 x3 x4 bL bY sW uE aBN aCH aDO yJ yG aAw hx0 hx1 hx2 hx3 hm
    exact ts_X10_route_54 aG qG nG pJ vZ xU xV xT yD xZ hc0 hc1 hpost ih x2 x3 x4 bL bY sW uE aBN aCH aDO yJ yG aAw hx0 hx1 hx2 hx3 (by omega)
set_option maxHeartbeats 8000000 in
set_option maxRecDepth 200000 in
theorem t_X10_route {post : Int32 -> Int32 -> Int32 -> (Nat -> Int32) -> (Nat -> Int32) -> Prop} {SB : Int} {p0 aG bL bY : Int32} {qG nG pJ sW uE : Nat -> Int32} (vZ : 0 <= Int32.toInt aG /\ Int32.toInt aG <= 8) (yJ : 0 <= Int32.toInt bL /\ Int32.toInt bL <= 16) (yG : 0 <= Int32.toInt bY /\ Int32.toInt bY <= 1) (xU : ∀ k : Nat, k = 17 -> -1 <= Int32.toInt (qG k) /\ Int32.toInt (qG k) <= SB) (xV : ∀ k : Nat, k = 19 -> 0 <= Int32.toInt (qG k) /\ Int32.toInt (qG k) <= 9) (xT : ∀ k : Nat, 0 <= Int32.toInt (nG k) /\ Int32.toInt (nG k) <= 99) (yD : ∀ k : Nat, k = 4 -> 1 <= Int32.toInt (pJ k) /\ Int32.toInt (pJ k) <= 30) (xZ : ∀ k : Nat, k = 3 -> 0 <= Int32.toInt (pJ k) /\ Int32.toInt (pJ k) <= 9) (aAw : ∀ k : Nat, 0 <= Int32.toInt (uE k) /\ Int32.toInt (uE k) <= 1000000) (hc0 : -1 <= SB /\ SB <= 7) (hc1 : (Int32.toInt aG <= 0 /\ SB = 0) \/ (1 <= Int32.toInt aG /\ SB = Int32.toInt aG - 1)) (hpost : ∀ (r : Int32) (xM : Int32) (xG : Int32) (aBX : Nat -> Int32) (aCX : Nat -> Int32), (-1 <= Int32.toInt r /\ Int32.toInt r <= 1000000) -> (0 <= Int32.toInt xM /\ Int32.toInt xM <= 16) -> (0 <= Int32.toInt xG /\ Int32.toInt xG <= 0) -> (∀ k : Nat, 0 <= Int32.toInt (aCX k) /\ Int32.toInt (aCX k) <= 1000000) -> (Int32.toInt r = -1 \/ MVT aCX nG pJ aG) -> post r xM xG aBX aCX) : wp_X10_route post p0 aG bL bY qG nG pJ sW uE := by
  have l0 := aI2
  have l1 := aE0
  have l2 := aEc
  have l3 := li_17
  have l4 := li_8
  intro v60 ev60
  have f61 := aDv 8 256 aG (by decide) (by omega)
  have hv60 := congrArg Int32.toInt ev60
  have f63 := aAT p0
  refine And.intro (fun c62 => ?_) (fun c62 => ?_)
  · skip
    have c62 := (aAd _ _).mp c62
    refine And.intro (fun h9 => absurd h9 (by decide)) (fun _ => ?_)
    exact hpost _ _ _ _ _ (by omega) yJ (by omega) aAw (by first | exact Or.inl (by decide) | exact Or.inr (by assumption))
  · skip
    have c62 := mt (aAd _ _).mpr c62
    have f65 : Int32.toInt (v60 - 1) = Int32.toInt v60 - Int32.toInt (1 : Int32) := aCA _ _ (by omega)
    refine And.intro (fun c64 => ?_) (fun c64 => ?_)
    · skip
      have c64 := (aAd _ _).mp c64
      refine And.intro (fun h9 => absurd h9 (by decide)) (fun _ => ?_)
      exact hpost _ _ _ _ _ (by omega) yJ (by omega) aAw (by first | exact Or.inl (by decide) | exact Or.inr (by assumption))
    · skip
      have c64 := mt (aAd _ _).mpr c64
      refine And.intro (fun _ => ?_) (fun h9 => absurd h9 (by decide))
      refine t_X10_layMoves vZ xT yD xZ aAw (fun m_moves_66 h_m_moves_66 ox67 => ?_)
      have q68 := xU (17 : Int32).toNatClampNeg (by have e9 : (17 : Int32).toNatClampNeg = (Int32.toInt (17 : Int32)).toNat := rfl; omega)
      intro v69 ev69
      have hv69 := congrArg Int32.toInt ev69
      refine And.intro (fun c71 => ?_) (fun c71 => ?_)
      · skip
        have c71 := mt (zJ _ _).mpr c71
        have q72 := xU (17 : Int32).toNatClampNeg (by have e9 : (17 : Int32).toNatClampNeg = (Int32.toInt (17 : Int32)).toNat := rfl; omega)
        intro v73 ev73
        have f74 := aDv 7 128 (qG (17 : Int32).toNatClampNeg) (by decide) (by omega)
        have hv73 := congrArg Int32.toInt ev73
        have q75 := xU (17 : Int32).toNatClampNeg (by have e9 : (17 : Int32).toNatClampNeg = (Int32.toInt (17 : Int32)).toNat := rfl; omega)
        intro v76 ev76
        have hv76 := congrArg Int32.toInt ev76
        refine And.intro (fun c77 => ?_) (fun c77 => ?_)
        · skip
          have c77 := mt (zJ _ _).mpr c77
          intro v78 ev78
          have f79 := ti_shl8 v76 (by omega)
          have hv78 := congrArg Int32.toInt ev78
          intro v80 ev80
          have f83 := aBx p0 (v73 ^^^ (-1)) (by omega)
          have f81 : Int32.toInt (v78 + (p0 &&& (v73 ^^^ (-1)))) = Int32.toInt v78 + Int32.toInt (p0 &&& (v73 ^^^ (-1))) := aAD _ _ (by omega)
          rw [<- ev80] at f81
          refine And.intro (aBZ (by omega)) ?_
          have f84 := h_m_moves_66 v80.toNatClampNeg
          have j85 := pcn_le 16 (p0 &&& (v73 ^^^ (-1)))
          exact ⟨18, tb_X10_route_54 aG qG nG pJ vZ xU xV xT yD xZ hc0 hc1 hpost _ (p0 &&& (v73 ^^^ (-1))) v76 (m_moves_66 v80.toNatClampNeg) 0 0 sW m_moves_66 (by omega) (by omega) (by omega) (by omega) (by omega) h_m_moves_66 (by assumption) (by first | assumption | exact VALz_p (by omega) | exact VALz_i (by assumption) (by assumption) (by omega) (by omega) (by assumption) (by omega) (by omega) (by omega) | exact VALz_c (by assumption) (by assumption) (by assumption) (by assumption) (by assumption) (by assumption) (by omega)) (by first | assumption | exact LB_of (by assumption) (by omega) (by omega) (by omega) | exact LB_e (by assumption) (by assumption) | exact LB_c (LB_of (by assumption) (by omega) (by omega) (by omega))) (by omega) (by omega)⟩
        · skip
          have c77 := (zJ _ _).mp c77
          exfalso; omega
      · skip
        have c71 := (zJ _ _).mp c71
        have q86 := xU (17 : Int32).toNatClampNeg (by have e9 : (17 : Int32).toNatClampNeg = (Int32.toInt (17 : Int32)).toNat := rfl; omega)
        intro v87 ev87
        have hv87 := congrArg Int32.toInt ev87
        refine And.intro (fun c88 => ?_) (fun c88 => ?_)
        · skip
          have c88 := mt (zJ _ _).mpr c88
          exfalso; omega
        · skip
          have c88 := (zJ _ _).mp c88
          intro v89 ev89
          have f90 := ti_shl8 8 (by omega)
          have hv89 := congrArg Int32.toInt ev89
          intro v91 ev91
          have f92 : Int32.toInt (v89 + p0) = Int32.toInt v89 + Int32.toInt p0 := aAD _ _ (by omega)
          rw [<- ev91] at f92
          refine And.intro (aBZ (by omega)) ?_
          have f93 := h_m_moves_66 v91.toNatClampNeg
          have j94 := pcn_le 16 (p0)
          exact ⟨18, tb_X10_route_54 aG qG nG pJ vZ xU xV xT yD xZ hc0 hc1 hpost _ p0 v87 (m_moves_66 v91.toNatClampNeg) 0 0 sW m_moves_66 (by omega) (by omega) (by omega) (by omega) (by omega) h_m_moves_66 (by assumption) (by first | assumption | exact VALz_p (by omega) | exact VALz_i (by assumption) (by assumption) (by omega) (by omega) (by assumption) (by omega) (by omega) (by omega) | exact VALz_c (by assumption) (by assumption) (by assumption) (by assumption) (by assumption) (by assumption) (by omega)) (by first | assumption | exact LB_of (by assumption) (by omega) (by omega) (by omega) | exact LB_e (by assumption) (by assumption) | exact LB_c (LB_of (by assumption) (by omega) (by omega) (by omega))) (by omega) (by omega)⟩
set_option maxHeartbeats 8000000 in
set_option maxRecDepth 200000 in
theorem ts_X10_laySeconds_12 {post : Nat -> Int32 -> Int32 -> Int32 -> Int32 -> Int32 -> Int32 -> Int32 -> Int32 -> Int32 -> (Nat -> Int32) -> Prop} {K2 : Int32 -> Nat -> Int32 -> Int32 -> Int32 -> Int32 -> Int32 -> Int32 -> Int32 -> Int32 -> Int32 -> (Nat -> Int32) -> Prop} {next : Int32 -> Int32 -> Nat -> Int32 -> Int32 -> Int32 -> Int32 -> Int32 -> Int32 -> Int32 -> Int32 -> Int32 -> (Nat -> Int32) -> Prop} {n12 n2 : Int} (bT aG bW : Int32) (m_x gR pW nG oO qO qQ : Nat -> Int32) (xJ : 0 <= Int32.toInt bT /\ Int32.toInt bT <= 16) (vZ : 0 <= Int32.toInt aG /\ Int32.toInt aG <= 8) (zQ : 0 <= Int32.toInt bW /\ Int32.toInt bW <= 40) (aAW : ∀ k : Nat, 0 <= Int32.toInt (m_x k) /\ Int32.toInt (m_x k) <= 99) (xK : ∀ k : Nat, 0 <= Int32.toInt (gR k) /\ Int32.toInt (gR k) <= 99) (yR : ∀ k : Nat, 0 <= Int32.toInt (pW k) /\ Int32.toInt (pW k) <= 9) (xT : ∀ k : Nat, 0 <= Int32.toInt (nG k) /\ Int32.toInt (nG k) <= 99) (yF : ∀ k : Nat, 0 <= Int32.toInt (oO k) /\ Int32.toInt (oO k) <= 99) (zG : ∀ k : Nat, -128 <= Int32.toInt (qO k) /\ Int32.toInt (qO k) <= 127) (zI : ∀ k : Nat, -128 <= Int32.toInt (qQ k) /\ Int32.toInt (qQ k) <= 127) (hpost : ∀ (aAP : Nat) (zS : Int32) (aAz : Int32) (aAm : Int32) (zH : Int32) (aAM : Int32) (zP : Int32) (yO : Int32) (zZ : Int32) (zO : Int32) (aBR : Nat -> Int32), (aAP = 0 \/ aAP = 1 \/ aAP = 2) -> (0 <= Int32.toInt zS /\ Int32.toInt zS <= 80) -> (0 <= Int32.toInt aAz /\ Int32.toInt aAz <= 80) -> (0 <= Int32.toInt aAm /\ Int32.toInt aAm <= 80) -> (-1 <= Int32.toInt zH /\ Int32.toInt zH <= 80) -> (0 <= Int32.toInt aAM /\ Int32.toInt aAM <= 0) -> (0 <= Int32.toInt zP /\ Int32.toInt zP <= 15) -> (0 <= Int32.toInt yO /\ Int32.toInt yO <= 7) -> (0 <= Int32.toInt zZ /\ Int32.toInt zZ <= 1) -> (0 <= Int32.toInt zO /\ Int32.toInt zO <= 63) -> (∀ k : Nat, 0 <= Int32.toInt (aBR k) /\ Int32.toInt (aBR k) <= 99) -> post aAP zS aAz aAm zH aAM zP yO zZ zO aBR) (hK2 : ∀ (x1 : Int32) (jD : Nat) (mLn : Int32) (oF : Int32) (rP : Int32) (dQ : Int32) (bZ : Int32) (aR : Int32) (aE : Int32) (bI : Int32) (aW : Int32) (oJ : Nat -> Int32), (0 <= Int32.toInt x1 /\ Int32.toInt x1 <= 8) -> (jD = 0 \/ jD = 1 \/ jD = 2) -> (0 <= Int32.toInt mLn /\ Int32.toInt mLn <= 80) -> (0 <= Int32.toInt oF /\ Int32.toInt oF <= 80) -> (0 <= Int32.toInt rP /\ Int32.toInt rP <= 80) -> (-1 <= Int32.toInt dQ /\ Int32.toInt dQ <= 80) -> (0 <= Int32.toInt bZ /\ Int32.toInt bZ <= 0) -> (0 <= Int32.toInt aR /\ Int32.toInt aR <= 15) -> (0 <= Int32.toInt aE /\ Int32.toInt aE <= 7) -> (0 <= Int32.toInt bI /\ Int32.toInt bI <= 1) -> (0 <= Int32.toInt aW /\ Int32.toInt aW <= 63) -> (∀ k : Nat, 0 <= Int32.toInt (oJ k) /\ Int32.toInt (oJ k) <= 99) -> (8 - Int32.toInt x1 < n2) -> K2 x1 jD mLn oF rP dQ bZ aR aE bI aW oJ) (hKn : ∀ (x1 : Int32) (x2 : Int32) (jD : Nat) (mLn : Int32) (oF : Int32) (rP : Int32) (dQ : Int32) (bZ : Int32) (aR : Int32) (aE : Int32) (bI : Int32) (aW : Int32) (oJ : Nat -> Int32), (0 <= Int32.toInt x1 /\ Int32.toInt x1 <= 7) -> (0 <= Int32.toInt x2 /\ Int32.toInt x2 <= 16) -> (jD = 0 \/ jD = 1 \/ jD = 2) -> (0 <= Int32.toInt mLn /\ Int32.toInt mLn <= 80) -> (0 <= Int32.toInt oF /\ Int32.toInt oF <= 80) -> (0 <= Int32.toInt rP /\ Int32.toInt rP <= 80) -> (-1 <= Int32.toInt dQ /\ Int32.toInt dQ <= 80) -> (0 <= Int32.toInt bZ /\ Int32.toInt bZ <= 0) -> (0 <= Int32.toInt aR /\ Int32.toInt aR <= 15) -> (0 <= Int32.toInt aE /\ Int32.toInt aE <= 7) -> (0 <= Int32.toInt bI /\ Int32.toInt bI <= 1) -> (0 <= Int32.toInt aW /\ Int32.toInt aW <= 63) -> (∀ k : Nat, 0 <= Int32.toInt (oJ k) /\ Int32.toInt (oJ k) <= 99) -> (8 - Int32.toInt x1 <= n2) -> (16 - Int32.toInt x2 < n12) -> next x1 x2 jD mLn oF rP dQ bZ aR aE bI aW oJ) (x1 x2 : Int32) (jD : Nat) (mLn oF rP dQ bZ aR aE bI aW : Int32) (oJ : Nat -> Int32) (aBK : 0 <= Int32.toInt x1 /\ Int32.toInt x1 <= 7) (aBN : 0 <= Int32.toInt x2 /\ Int32.toInt x2 <= 16) (yM : jD = 0 \/ jD = 1 \/ jD = 2) (zE : 0 <= Int32.toInt mLn /\ Int32.toInt mLn <= 80) (aAR : 0 <= Int32.toInt oF /\ Int32.toInt oF <= 80) (aA1 : 0 <= Int32.toInt rP /\ Int32.toInt rP <= 80) (aAA : -1 <= Int32.toInt dQ /\ Int32.toInt dQ <= 80) (zT : 0 <= Int32.toInt bZ /\ Int32.toInt bZ <= 0) (yL : 0 <= Int32.toInt aR /\ Int32.toInt aR <= 15) (xQ : 0 <= Int32.toInt aE /\ Int32.toInt aE <= 7) (yY : 0 <= Int32.toInt bI /\ Int32.toInt bI <= 1) (yK : 0 <= Int32.toInt aW /\ Int32.toInt aW <= 63) (zL : ∀ k : Nat, 0 <= Int32.toInt (oJ k) /\ Int32.toInt (oJ k) <= 99) (hn2 : 8 - Int32.toInt x1 <= n2) (hn12 : 16 - Int32.toInt x2 <= n12) : ws_X10_laySeconds_12 post K2 next bT aG bW m_x gR pW nG oO qO qQ x1 x2 jD mLn oF rP dQ bZ aR aE bI aW oJ := by
  have l0 := aE0
  have l1 := aEc
  have l2 := li_16
  refine And.intro (fun c1 => ?_) (fun c1 => ?_)
  · skip
    have c1 := (aAO _ _).mp c1
    intro v2 ev2
    have f3 : Int32.toInt (x1 + 1) = Int32.toInt x1 + Int32.toInt (1 : Int32) := aAD _ _ (by omega)
    rw [<- ev2] at f3
    exact hK2 v2 jD mLn oF rP dQ bZ aR aE bI aW oJ (by omega) yM zE aAR aA1 aAA zT yL xQ yY yK zL (by omega)
  · skip
    have c1 := mt (aAO _ _).mpr c1
    intro v4 ev4
    have f5 : Int32.toInt (16 * x1) = Int32.toInt x1 * 16 := ta_cmul _ _ (by decide) (by omega)
    rw [<- ev4] at f5
    intro v6 ev6
    have f7 : Int32.toInt (v4 + x2) = Int32.toInt v4 + Int32.toInt x2 := aAD _ _ (by omega)
    rw [<- ev6] at f7
    refine t_X10_secondsOf (by omega) aBK (by omega) (by omega) yM zE aAR aA1 aAA zQ zT yL xQ yY yK aAW xK yR xT yF zG zI (fun r18 m_read_8 m_length_9 m_top_10 m_at_11 aVJ m_isAsked_13 m_askedFruit_14 m_askedStanding_15 m_askedHook_16 m_askedApron_17 h_r18 h_m_read_8 h_m_length_9 h_m_top_10 h_m_at_11 h_m_wrong_12 h_m_isAsked_13 h_m_askedFruit_14 h_m_askedStanding_15 h_m_askedHook_16 h_m_askedApron_17 => ?_)
    refine And.intro (aBZ (by omega)) ?_
    have a19 : ∀ k : Nat, 0 <= Int32.toInt ((upd oJ v6.toNatClampNeg r18) k) /\ Int32.toInt ((upd oJ v6.toNatClampNeg r18) k) <= 99 := t_upd (fun k => by have q9 := zL k; omega) (by omega)
    intro v20 ev20
    have f21 : Int32.toInt (x2 + 1) = Int32.toInt x2 + Int32.toInt (1 : Int32) := aAD _ _ (by omega)
    rw [<- ev20] at f21
    exact hKn x1 v20 m_read_8 m_length_9 m_top_10 m_at_11 aVJ m_isAsked_13 m_askedFruit_14 m_askedStanding_15 m_askedHook_16 m_askedApron_17 (upd oJ v6.toNatClampNeg r18) aBK (by omega) h_m_read_8 h_m_length_9 h_m_top_10 h_m_at_11 h_m_wrong_12 h_m_isAsked_13 h_m_askedFruit_14 h_m_askedStanding_15 h_m_askedHook_16 h_m_askedApron_17 (fun k => by have q9 := a19 k; omega) hn2 (by omega)
set_option maxHeartbeats 8000000 in
set_option maxRecDepth 200000 in
theorem tb_X10_laySeconds_12 {post : Nat -> Int32 -> Int32 -> Int32 -> Int32 -> Int32 -> Int32 -> Int32 -> Int32 -> Int32 -> (Nat -> Int32) -> Prop} {K2 : Int32 -> Nat -> Int32 -> Int32 -> Int32 -> Int32 -> Int32 -> Int32 -> Int32 -> Int32 -> Int32 -> (Nat -> Int32) -> Prop} {n2 : Int} (bT aG bW : Int32) (m_x gR pW nG oO qO qQ : Nat -> Int32) (xJ : 0 <= Int32.toInt bT /\ Int32.toInt bT <= 16) (vZ : 0 <= Int32.toInt aG /\ Int32.toInt aG <= 8) (zQ : 0 <= Int32.toInt bW /\ Int32.toInt bW <= 40) (aAW : ∀ k : Nat, 0 <= Int32.toInt (m_x k) /\ Int32.toInt (m_x k) <= 99) (xK : ∀ k : Nat, 0 <= Int32.toInt (gR k) /\ Int32.toInt (gR k) <= 99) (yR : ∀ k : Nat, 0 <= Int32.toInt (pW k) /\ Int32.toInt (pW k) <= 9) (xT : ∀ k : Nat, 0 <= Int32.toInt (nG k) /\ Int32.toInt (nG k) <= 99) (yF : ∀ k : Nat, 0 <= Int32.toInt (oO k) /\ Int32.toInt (oO k) <= 99) (zG : ∀ k : Nat, -128 <= Int32.toInt (qO k) /\ Int32.toInt (qO k) <= 127) (zI : ∀ k : Nat, -128 <= Int32.toInt (qQ k) /\ Int32.toInt (qQ k) <= 127) (hpost : ∀ (aAP : Nat) (zS : Int32) (aAz : Int32) (aAm : Int32) (zH : Int32) (aAM : Int32) (zP : Int32) (yO : Int32) (zZ : Int32) (zO : Int32) (aBR : Nat -> Int32), (aAP = 0 \/ aAP = 1 \/ aAP = 2) -> (0 <= Int32.toInt zS /\ Int32.toInt zS <= 80) -> (0 <= Int32.toInt aAz /\ Int32.toInt aAz <= 80) -> (0 <= Int32.toInt aAm /\ Int32.toInt aAm <= 80) -> (-1 <= Int32.toInt zH /\ Int32.toInt zH <= 80) -> (0 <= Int32.toInt aAM /\ Int32.toInt aAM <= 0) -> (0 <= Int32.toInt zP /\ Int32.toInt zP <= 15) -> (0 <= Int32.toInt yO /\ Int32.toInt yO <= 7) -> (0 <= Int32.toInt zZ /\ Int32.toInt zZ <= 1) -> (0 <= Int32.toInt zO /\ Int32.toInt zO <= 63) -> (∀ k : Nat, 0 <= Int32.toInt (aBR k) /\ Int32.toInt (aBR k) <= 99) -> post aAP zS aAz aAm zH aAM zP yO zZ zO aBR) (hK2 : ∀ (x1 : Int32) (jD : Nat) (mLn : Int32) (oF : Int32) (rP : Int32) (dQ : Int32) (bZ : Int32) (aR : Int32) (aE : Int32) (bI : Int32) (aW : Int32) (oJ : Nat -> Int32), (0 <= Int32.toInt x1 /\ Int32.toInt x1 <= 8) -> (jD = 0 \/ jD = 1 \/ jD = 2) -> (0 <= Int32.toInt mLn /\ Int32.toInt mLn <= 80) -> (0 <= Int32.toInt oF /\ Int32.toInt oF <= 80) -> (0 <= Int32.toInt rP /\ Int32.toInt rP <= 80) -> (-1 <= Int32.toInt dQ /\ Int32.toInt dQ <= 80) -> (0 <= Int32.toInt bZ /\ Int32.toInt bZ <= 0) -> (0 <= Int32.toInt aR /\ Int32.toInt aR <= 15) -> (0 <= Int32.toInt aE /\ Int32.toInt aE <= 7) -> (0 <= Int32.toInt bI /\ Int32.toInt bI <= 1) -> (0 <= Int32.toInt aW /\ Int32.toInt aW <= 63) -> (∀ k : Nat, 0 <= Int32.toInt (oJ k) /\ Int32.toInt (oJ k) <= 99) -> (8 - Int32.toInt x1 < n2) -> K2 x1 jD mLn oF rP dQ bZ aR aE bI aW oJ) : ∀ (n : Nat) (x1 x2 : Int32) (jD : Nat) (mLn oF rP dQ bZ aR aE bI aW : Int32) (oJ : Nat -> Int32), (0 <= Int32.toInt x1 /\ Int32.toInt x1 <= 7) -> (0 <= Int32.toInt x2 /\ Int32.toInt x2 <= 16) -> (jD = 0 \/ jD = 1 \/ jD = 2) -> (0 <= Int32.toInt mLn /\ Int32.toInt mLn <= 80) -> (0 <= Int32.toInt oF /\ Int32.toInt oF <= 80) -> (0 <= Int32.toInt rP /\ Int32.toInt rP <= 80) -> (-1 <= Int32.toInt dQ /\ Int32.toInt dQ <= 80) -> (0 <= Int32.toInt bZ /\ Int32.toInt bZ <= 0) -> (0 <= Int32.toInt aR /\ Int32.toInt aR <= 15) -> (0 <= Int32.toInt aE /\ Int32.toInt aE <= 7) -> (0 <= Int32.toInt bI /\ Int32.toInt bI <= 1) -> (0 <= Int32.toInt aW /\ Int32.toInt aW <= 63) -> (∀ k : Nat, 0 <= Int32.toInt (oJ k) /\ Int32.toInt (oJ k) <= 99) -> (8 - Int32.toInt x1 <= n2) -> (16 - Int32.toInt x2 < (n : Int)) -> wb_X10_laySeconds_12 post K2 bT aG bW m_x gR pW nG oO qO qQ n x1 x2 jD mLn oF rP dQ bZ aR aE bI aW oJ := by
  intro n
  induction n with
  | zero =>
    intro x1 x2 jD mLn oF rP dQ bZ aR aE bI aW oJ aBK aBN yM zE aAR aA1 aAA zT yL xQ yY yK zL hn2 hm
    exfalso; omega
  | succ n ih =>
    intro x1 x2 jD mLn oF rP dQ bZ aR aE bI aW oJ aBK aBN yM zE aAR aA1 aAA zT yL xQ yY yK zL hn2 hm
    exact ts_X10_laySeconds_12 bT aG bW m_x gR pW nG oO qO qQ xJ vZ zQ aAW xK yR xT yF zG zI hpost hK2 ih x1 x2 jD mLn oF rP dQ bZ aR aE bI aW oJ aBK aBN yM zE aAR aA1 aAA zT yL xQ yY yK zL hn2 (by omega)
set_option maxHeartbeats 8000000 in
set_option maxRecDepth 200000 in
theorem ts_X10_laySeconds_2 {post : Nat -> Int32 -> Int32 -> Int32 -> Int32 -> Int32 -> Int32 -> Int32 -> Int32 -> Int32 -> (Nat -> Int32) -> Prop} {next : Int32 -> Nat -> Int32 -> Int32 -> Int32 -> Int32 -> Int32 -> Int32 -> Int32 -> Int32 -> Int32 -> (Nat -> Int32) -> Prop} {n2 : Int} (bT aG bW : Int32) (m_x gR pW nG oO qO qQ : Nat -> Int32) (xJ : 0 <= Int32.toInt bT /\ Int32.toInt bT <= 16) (vZ : 0 <= Int32.toInt aG /\ Int32.toInt aG <= 8) (zQ : 0 <= Int32.toInt bW /\ Int32.toInt bW <= 40) (aAW : ∀ k : Nat, 0 <= Int32.toInt (m_x k) /\ Int32.toInt (m_x k) <= 99) (xK : ∀ k : Nat, 0 <= Int32.toInt (gR k) /\ Int32.toInt (gR k) <= 99) (yR : ∀ k : Nat, 0 <= Int32.toInt (pW k) /\ Int32.toInt (pW k) <= 9) (xT : ∀ k : Nat, 0 <= Int32.toInt (nG k) /\ Int32.toInt (nG k) <= 99) (yF : ∀ k : Nat, 0 <= Int32.toInt (oO k) /\ Int32.toInt (oO k) <= 99) (zG : ∀ k : Nat, -128 <= Int32.toInt (qO k) /\ Int32.toInt (qO k) <= 127) (zI : ∀ k : Nat, -128 <= Int32.toInt (qQ k) /\ Int32.toInt (qQ k) <= 127) (hpost : ∀ (aAP : Nat) (zS : Int32) (aAz : Int32) (aAm : Int32) (zH : Int32) (aAM : Int32) (zP : Int32) (yO : Int32) (zZ : Int32) (zO : Int32) (aBR : Nat -> Int32), (aAP = 0 \/ aAP = 1 \/ aAP = 2) -> (0 <= Int32.toInt zS /\ Int32.toInt zS <= 80) -> (0 <= Int32.toInt aAz /\ Int32.toInt aAz <= 80) -> (0 <= Int32.toInt aAm /\ Int32.toInt aAm <= 80) -> (-1 <= Int32.toInt zH /\ Int32.toInt zH <= 80) -> (0 <= Int32.toInt aAM /\ Int32.toInt aAM <= 0) -> (0 <= Int32.toInt zP /\ Int32.toInt zP <= 15) -> (0 <= Int32.toInt yO /\ Int32.toInt yO <= 7) -> (0 <= Int32.toInt zZ /\ Int32.toInt zZ <= 1) -> (0 <= Int32.toInt zO /\ Int32.toInt zO <= 63) -> (∀ k : Nat, 0 <= Int32.toInt (aBR k) /\ Int32.toInt (aBR k) <= 99) -> post aAP zS aAz aAm zH aAM zP yO zZ zO aBR) (hKn : ∀ (x1 : Int32) (jD : Nat) (mLn : Int32) (oF : Int32) (rP : Int32) (dQ : Int32) (bZ : Int32) (aR : Int32) (aE : Int32) (bI : Int32) (aW : Int32) (oJ : Nat -> Int32), (0 <= Int32.toInt x1 /\ Int32.toInt x1 <= 8) -> (jD = 0 \/ jD = 1 \/ jD = 2) -> (0 <= Int32.toInt mLn /\ Int32.toInt mLn <= 80) -> (0 <= Int32.toInt oF /\ Int32.toInt oF <= 80) -> (0 <= Int32.toInt rP /\ Int32.toInt rP <= 80) -> (-1 <= Int32.toInt dQ /\ Int32.toInt dQ <= 80) -> (0 <= Int32.toInt bZ /\ Int32.toInt bZ <= 0) -> (0 <= Int32.toInt aR /\ Int32.toInt aR <= 15) -> (0 <= Int32.toInt aE /\ Int32.toInt aE <= 7) -> (0 <= Int32.toInt bI /\ Int32.toInt bI <= 1) -> (0 <= Int32.toInt aW /\ Int32.toInt aW <= 63) -> (∀ k : Nat, 0 <= Int32.toInt (oJ k) /\ Int32.toInt (oJ k) <= 99) -> (8 - Int32.toInt x1 < n2) -> next x1 jD mLn oF rP dQ bZ aR aE bI aW oJ) (x1 : Int32) (jD : Nat) (mLn oF rP dQ bZ aR aE bI aW : Int32) (oJ : Nat -> Int32) (aBK : 0 <= Int32.toInt x1 /\ Int32.toInt x1 <= 8) (yM : jD = 0 \/ jD = 1 \/ jD = 2) (zE : 0 <= Int32.toInt mLn /\ Int32.toInt mLn <= 80) (aAR : 0 <= Int32.toInt oF /\ Int32.toInt oF <= 80) (aA1 : 0 <= Int32.toInt rP /\ Int32.toInt rP <= 80) (aAA : -1 <= Int32.toInt dQ /\ Int32.toInt dQ <= 80) (zT : 0 <= Int32.toInt bZ /\ Int32.toInt bZ <= 0) (yL : 0 <= Int32.toInt aR /\ Int32.toInt aR <= 15) (xQ : 0 <= Int32.toInt aE /\ Int32.toInt aE <= 7) (yY : 0 <= Int32.toInt bI /\ Int32.toInt bI <= 1) (yK : 0 <= Int32.toInt aW /\ Int32.toInt aW <= 63) (zL : ∀ k : Nat, 0 <= Int32.toInt (oJ k) /\ Int32.toInt (oJ k) <= 99) (hn2 : 8 - Int32.toInt x1 <= n2) : ws_X10_laySeconds_2 post next bT aG bW m_x gR pW nG oO qO qQ x1 jD mLn oF rP dQ bZ aR aE bI aW oJ := by
  have l0 := aE0
  refine And.intro (fun c22 => ?_) (fun c22 => ?_)
  · skip
    have c22 := (aAO _ _).mp c22
    exact hpost _ _ _ _ _ _ _ _ _ _ _ yM zE aAR aA1 aAA zT yL xQ yY yK zL
  · skip
    have c22 := mt (aAO _ _).mpr c22
    exact ⟨18, tb_X10_laySeconds_12 bT aG bW m_x gR pW nG oO qO qQ xJ vZ zQ aAW xK yR xT yF zG zI hpost hKn _ x1 0 jD mLn oF rP dQ bZ aR aE bI aW oJ (by omega) (by omega) yM zE aAR aA1 aAA zT yL xQ yY yK zL hn2 (by omega)⟩
set_option maxHeartbeats 8000000 in
set_option maxRecDepth 200000 in
theorem tb_X10_laySeconds_2 {post : Nat -> Int32 -> Int32 -> Int32 -> Int32 -> Int32 -> Int32 -> Int32 -> Int32 -> Int32 -> (Nat -> Int32) -> Prop} (bT aG bW : Int32) (m_x gR pW nG oO qO qQ : Nat -> Int32) (xJ : 0 <= Int32.toInt bT /\ Int32.toInt bT <= 16) (vZ : 0 <= Int32.toInt aG /\ Int32.toInt aG <= 8) (zQ : 0 <= Int32.toInt bW /\ Int32.toInt bW <= 40) (aAW : ∀ k : Nat, 0 <= Int32.toInt (m_x k) /\ Int32.toInt (m_x k) <= 99) (xK : ∀ k : Nat, 0 <= Int32.toInt (gR k) /\ Int32.toInt (gR k) <= 99) (yR : ∀ k : Nat, 0 <= Int32.toInt (pW k) /\ Int32.toInt (pW k) <= 9) (xT : ∀ k : Nat, 0 <= Int32.toInt (nG k) /\ Int32.toInt (nG k) <= 99) (yF : ∀ k : Nat, 0 <= Int32.toInt (oO k) /\ Int32.toInt (oO k) <= 99) (zG : ∀ k : Nat, -128 <= Int32.toInt (qO k) /\ Int32.toInt (qO k) <= 127) (zI : ∀ k : Nat, -128 <= Int32.toInt (qQ k) /\ Int32.toInt (qQ k) <= 127) (hpost : ∀ (aAP : Nat) (zS : Int32) (aAz : Int32) (aAm : Int32) (zH : Int32) (aAM : Int32) (zP : Int32) (yO : Int32) (zZ : Int32) (zO : Int32) (aBR : Nat -> Int32), (aAP = 0 \/ aAP = 1 \/ aAP = 2) -> (0 <= Int32.toInt zS /\ Int32.toInt zS <= 80) -> (0 <= Int32.toInt aAz /\ Int32.toInt aAz <= 80) -> (0 <= Int32.toInt aAm /\ Int32.toInt aAm <= 80) -> (-1 <= Int32.toInt zH /\ Int32.toInt zH <= 80) -> (0 <= Int32.toInt aAM /\ Int32.toInt aAM <= 0) -> (0 <= Int32.toInt zP /\ Int32.toInt zP <= 15) -> (0 <= Int32.toInt yO /\ Int32.toInt yO <= 7) -> (0 <= Int32.toInt zZ /\ Int32.toInt zZ <= 1) -> (0 <= Int32.toInt zO /\ Int32.toInt zO <= 63) -> (∀ k : Nat, 0 <= Int32.toInt (aBR k) /\ Int32.toInt (aBR k) <= 99) -> post aAP zS aAz aAm zH aAM zP yO zZ zO aBR) : ∀ (n : Nat) (x1 : Int32) (jD : Nat) (mLn oF rP dQ bZ aR aE bI aW : Int32) (oJ : Nat -> Int32), (0 <= Int32.toInt x1 /\ Int32.toInt x1 <= 8) -> (jD = 0 \/ jD = 1 \/ jD = 2) -> (0 <= Int32.toInt mLn /\ Int32.toInt mLn <= 80) -> (0 <= Int32.toInt oF /\ Int32.toInt oF <= 80) -> (0 <= Int32.toInt rP /\ Int32.toInt rP <= 80) -> (-1 <= Int32.toInt dQ /\ Int32.toInt dQ <= 80) -> (0 <= Int32.toInt bZ /\ Int32.toInt bZ <= 0) -> (0 <= Int32.toInt aR /\ Int32.toInt aR <= 15) -> (0 <= Int32.toInt aE /\ Int32.toInt aE <= 7) -> (0 <= Int32.toInt bI /\ Int32.toInt bI <= 1) -> (0 <= Int32.toInt aW /\ Int32.toInt aW <= 63) -> (∀ k : Nat, 0 <= Int32.toInt (oJ k) /\ Int32.toInt (oJ k) <= 99) -> (8 - Int32.toInt x1 < (n : Int)) -> wb_X10_laySeconds_2 post bT aG bW m_x gR pW nG oO qO qQ n x1 jD mLn oF rP dQ bZ aR aE bI aW oJ := by
  intro n
  induction n with
  | zero =>
    intro x1 jD mLn oF rP dQ bZ aR aE bI aW oJ aBK yM zE aAR aA1 aAA zT yL xQ yY yK zL hm
    exfalso; omega
  | succ n ih =>
    intro x1 jD mLn oF rP dQ bZ aR aE bI aW oJ aBK yM zE aAR aA1 aAA zT yL xQ yY yK zL hm
    exact ts_X10_laySeconds_2 bT aG bW m_x gR pW nG oO qO qQ xJ vZ zQ aAW xK yR xT yF zG zI hpost ih x1 jD mLn oF rP dQ bZ aR aE bI aW oJ aBK yM zE aAR aA1 aAA zT yL xQ yY yK zL (by omega)
set_option maxHeartbeats 8000000 in
set_option maxRecDepth 200000 in
theorem t_X10_laySeconds {post : Nat -> Int32 -> Int32 -> Int32 -> Int32 -> Int32 -> Int32 -> Int32 -> Int32 -> Int32 -> (Nat -> Int32) -> Prop} {bT aG : Int32} {jD : Nat} {mLn oF rP dQ bW bZ aR aE bI aW : Int32} {m_x gR pW nG oO qO qQ oJ : Nat -> Int32} (xJ : 0 <= Int32.toInt bT /\ Int32.toInt bT <= 16) (vZ : 0 <= Int32.toInt aG /\ Int32.toInt aG <= 8) (yM : jD = 0 \/ jD = 1 \/ jD = 2) (zE : 0 <= Int32.toInt mLn /\ Int32.toInt mLn <= 80) (aAR : 0 <= Int32.toInt oF /\ Int32.toInt oF <= 80) (aA1 : 0 <= Int32.toInt rP /\ Int32.toInt rP <= 80) (aAA : -1 <= Int32.toInt dQ /\ Int32.toInt dQ <= 80) (zQ : 0 <= Int32.toInt bW /\ Int32.toInt bW <= 40) (zT : 0 <= Int32.toInt bZ /\ Int32.toInt bZ <= 0) (yL : 0 <= Int32.toInt aR /\ Int32.toInt aR <= 15) (xQ : 0 <= Int32.toInt aE /\ Int32.toInt aE <= 7) (yY : 0 <= Int32.toInt bI /\ Int32.toInt bI <= 1) (yK : 0 <= Int32.toInt aW /\ Int32.toInt aW <= 63) (aAW : ∀ k : Nat, 0 <= Int32.toInt (m_x k) /\ Int32.toInt (m_x k) <= 99) (xK : ∀ k : Nat, 0 <= Int32.toInt (gR k) /\ Int32.toInt (gR k) <= 99) (yR : ∀ k : Nat, 0 <= Int32.toInt (pW k) /\ Int32.toInt (pW k) <= 9) (xT : ∀ k : Nat, 0 <= Int32.toInt (nG k) /\ Int32.toInt (nG k) <= 99) (yF : ∀ k : Nat, 0 <= Int32.toInt (oO k) /\ Int32.toInt (oO k) <= 99) (zG : ∀ k : Nat, -128 <= Int32.toInt (qO k) /\ Int32.toInt (qO k) <= 127) (zI : ∀ k : Nat, -128 <= Int32.toInt (qQ k) /\ Int32.toInt (qQ k) <= 127) (zL : ∀ k : Nat, 0 <= Int32.toInt (oJ k) /\ Int32.toInt (oJ k) <= 99) (hpost : ∀ (aAP : Nat) (zS : Int32) (aAz : Int32) (aAm : Int32) (zH : Int32) (aAM : Int32) (zP : Int32) (yO : Int32) (zZ : Int32) (zO : Int32) (aBR : Nat -> Int32), (aAP = 0 \/ aAP = 1 \/ aAP = 2) -> (0 <= Int32.toInt zS /\ Int32.toInt zS <= 80) -> (0 <= Int32.toInt aAz /\ Int32.toInt aAz <= 80) -> (0 <= Int32.toInt aAm /\ Int32.toInt aAm <= 80) -> (-1 <= Int32.toInt zH /\ Int32.toInt zH <= 80) -> (0 <= Int32.toInt aAM /\ Int32.toInt aAM <= 0) -> (0 <= Int32.toInt zP /\ Int32.toInt zP <= 15) -> (0 <= Int32.toInt yO /\ Int32.toInt yO <= 7) -> (0 <= Int32.toInt zZ /\ Int32.toInt zZ <= 1) -> (0 <= Int32.toInt zO /\ Int32.toInt zO <= 63) -> (∀ k : Nat, 0 <= Int32.toInt (aBR k) /\ Int32.toInt (aBR k) <= 99) -> post aAP zS aAz aAm zH aAM zP yO zZ zO aBR) : wp_X10_laySeconds post bT aG jD mLn oF rP dQ bW bZ aR aE bI aW m_x gR pW nG oO qO qQ oJ := by
  have l0 := aE0
  exact ⟨10, tb_X10_laySeconds_2 bT aG bW m_x gR pW nG oO qO qQ xJ vZ zQ aAW xK yR xT yF zG zI hpost _ 0 jD mLn oF rP dQ bZ aR aE bI aW oJ (by omega) yM zE aAR aA1 aAA zT yL xQ yY yK zL (by omega)⟩
set_option maxHeartbeats 8000000 in
set_option maxRecDepth 200000 in
theorem ts_X10_workOf_202 {post : Int32 -> Int32 -> Int32 -> Int32 -> (Nat -> Int32) -> Prop} {SB : Int} {next : Int32 -> Int32 -> Int32 -> Int32 -> (Nat -> Int32) -> Prop} {n202 : Int} (bT aG dO : Int32) (qG oO pJ sH uE oJ : Nat -> Int32) (xJ : 0 <= Int32.toInt bT /\ Int32.toInt bT <= 16) (vZ : 0 <= Int32.toInt aG /\ Int32.toInt aG <= 8) (aAH : 0 <= Int32.toInt dO /\ Int32.toInt dO <= 65535) (xU : ∀ k : Nat, k = 17 -> -1 <= Int32.toInt (qG k) /\ Int32.toInt (qG k) <= SB) (xV : ∀ k : Nat, k = 19 -> 0 <= Int32.toInt (qG k) /\ Int32.toInt (qG k) <= 9) (yF : ∀ k : Nat, 0 <= Int32.toInt (oO k) /\ Int32.toInt (oO k) <= 99) (yD : ∀ k : Nat, k = 4 -> 1 <= Int32.toInt (pJ k) /\ Int32.toInt (pJ k) <= 30) (xZ : ∀ k : Nat, k = 3 -> 0 <= Int32.toInt (pJ k) /\ Int32.toInt (pJ k) <= 9) (zY : ∀ k : Nat, 0 <= Int32.toInt (sH k) /\ Int32.toInt (sH k) <= 65535) (aAw : ∀ k : Nat, 0 <= Int32.toInt (uE k) /\ Int32.toInt (uE k) <= 1000000) (zL : ∀ k : Nat, 0 <= Int32.toInt (oJ k) /\ Int32.toInt (oJ k) <= 99) (hc0 : -1 <= SB /\ SB <= 7) (hc1 : (Int32.toInt aG <= 0 /\ SB = 0) \/ (1 <= Int32.toInt aG /\ SB = Int32.toInt aG - 1)) (hpost : ∀ (r : Int32) (aB9 : Int32) (aEo : Int32) (aEn : Int32) (aGb : Nat -> Int32), (0 <= Int32.toInt aB9 /\ Int32.toInt aB9 <= 1000000) -> post r aB9 aEo aEn aGb) (hKn : ∀ (x2 : Int32) (bM : Int32) (bQ : Int32) (bO : Int32) (vK : Nat -> Int32), (0 <= Int32.toInt x2 /\ Int32.toInt x2 <= 8) -> (0 <= Int32.toInt bM /\ Int32.toInt bM <= 1000000) -> (8 - Int32.toInt x2 < n202) -> next x2 bM bQ bO vK) (x2 bM bQ bO : Int32) (vK : Nat -> Int32) (aBN : 0 <= Int32.toInt x2 /\ Int32.toInt x2 <= 8) (aAv : 0 <= Int32.toInt bM /\ Int32.toInt bM <= 1000000) (hn202 : 8 - Int32.toInt x2 <= n202) : ws_X10_workOf_202 post next bT aG dO qG oO pJ sH uE oJ x2 bM bQ bO vK := by
  have l0 := aE0
  have l1 := aEc
  have l2 := li_4
  have l3 := li_9
  refine And.intro (fun c1 => ?_) (fun c1 => ?_)
  · skip
    have c1 := (aAO _ _).mp c1
    intro v2 ev2
    have hv2 := congrArg Int32.toInt ev2
    exact hpost _ _ _ _ _ aAv
  · skip
    have c1 := mt (aAO _ _).mpr c1
    refine And.intro (aBZ (by omega)) ?_
    intro v4 ev4
    have hv4 := congrArg Int32.toInt ev4
    have q6 := yD (4 : Int32).toNatClampNeg (by have e9 : (4 : Int32).toNatClampNeg = (Int32.toInt (4 : Int32)).toNat := rfl; omega)
    intro v7 ev7
    have hv7 := congrArg Int32.toInt ev7
    intro v9 ev9
    have hv9 := congrArg Int32.toInt ev9
    have q11 := yD (4 : Int32).toNatClampNeg (by have e9 : (4 : Int32).toNatClampNeg = (Int32.toInt (4 : Int32)).toNat := rfl; omega)
    refine And.intro (mt (zJ _ _).mp (by omega)) ?_
    intro v13 ev13
    refine And.intro (aBZ (by omega)) ?_
    intro v14 ev14
    have f15 := yF x2.toNatClampNeg
    have hv14 := congrArg Int32.toInt ev14
    intro v16 ev16
    have f17 : Int32.toInt (v14 + 9) = Int32.toInt v14 + Int32.toInt (9 : Int32) := aAD _ _ (by omega)
    rw [<- ev16] at f17
    intro v18 ev18
    have hv18 := congrArg Int32.toInt ev18
    intro v20 ev20
    have f21 : Int32.toInt (x2 + 1) = Int32.toInt x2 + Int32.toInt (1 : Int32) := aAD _ _ (by omega)
    rw [<- ev20] at f21
    have f22 := aAT bQ
    have f23 := aAT v18
    exact hKn v20 bM bQ v18 vK (by omega) aAv (by omega)
set_option maxHeartbeats 8000000 in
set_option maxRecDepth 200000 in
theorem tb_X10_workOf_202 {post : Int32 -> Int32 -> Int32 -> Int32 -> (Nat -> Int32) -> Prop} {SB : Int} (bT aG dO : Int32) (qG oO pJ sH uE oJ : Nat -> Int32) (xJ : 0 <= Int32.toInt bT /\ Int32.toInt bT <= 16) (vZ : 0 <= Int32.toInt aG /\ Int32.toInt aG <= 8) (aAH : 0 <= Int32.toInt dO /\ Int32.toInt dO <= 65535) (xU : ∀ k : Nat, k = 17 -> -1 <= Int32.toInt (qG k) /\ Int32.toInt (qG k) <= SB) (xV : ∀ k : Nat, k = 19 -> 0 <= Int32.toInt (qG k) /\ Int32.toInt (qG k) <= 9) (yF : ∀ k : Nat, 0 <= Int32.toInt (oO k) /\ Int32.toInt (oO k) <= 99) (yD : ∀ k : Nat, k = 4 -> 1 <= Int32.toInt (pJ k) /\ Int32.toInt (pJ k) <= 30) (xZ : ∀ k : Nat, k = 3 -> 0 <= Int32.toInt (pJ k) /\ Int32.toInt (pJ k) <= 9) (zY : ∀ k : Nat, 0 <= Int32.toInt (sH k) /\ Int32.toInt (sH k) <= 65535) (aAw : ∀ k : Nat, 0 <= Int32.toInt (uE k) /\ Int32.toInt (uE k) <= 1000000) (zL : ∀ k : Nat, 0 <= Int32.toInt (oJ k) /\ Int32.toInt (oJ k) <= 99) (hc0 : -1 <= SB /\ SB <= 7) (hc1 : (Int32.toInt aG <= 0 /\ SB = 0) \/ (1 <= Int32.toInt aG /\ SB = Int32.toInt aG - 1)) (hpost : ∀ (r : Int32) (aB9 : Int32) (aEo : Int32) (aEn : Int32) (aGb : Nat -> Int32), (0 <= Int32.toInt aB9 /\ Int32.toInt aB9 <= 1000000) -> post r aB9 aEo aEn aGb) : ∀ (n : Nat) (x2 bM bQ bO : Int32) (vK : Nat -> Int32), (0 <= Int32.toInt x2 /\ Int32.toInt x2 <= 8) -> (0 <= Int32.toInt bM /\ Int32.toInt bM <= 1000000) -> (8 - Int32.toInt x2 < (n : Int)) -> wb_X10_workOf_202 post bT aG dO qG oO pJ sH uE oJ n x2 bM bQ bO vK := by
  intro n
  induction n with
  | zero =>
    intro x2 bM bQ bO vK aBN aAv hm
    exfalso; omega
  | succ n ih =>
    intro x2 bM bQ bO vK aBN aAv hm
    exact ts_X10_workOf_202 bT aG dO qG oO pJ sH uE oJ xJ vZ aAH xU xV yF yD xZ zY aAw zL hc0 hc1 hpost ih x2 bM bQ bO vK aBN aAv (by omega)
set_option maxHeartbeats 8000000 in
set_option maxRecDepth 200000 in
theorem ts_X10_workOf_194 {post : Int32 -> Int32 -> Int32 -> Int32 -> (Nat -> Int32) -> Prop} {SB : Int} {K57 : Int32 -> Int32 -> Int32 -> Int32 -> Int32 -> (Nat -> Int32) -> Prop} {n57 : Int} (bT aG dO : Int32) (qG oO pJ sH uE oJ : Nat -> Int32) (xJ : 0 <= Int32.toInt bT /\ Int32.toInt bT <= 16) (vZ : 0 <= Int32.toInt aG /\ Int32.toInt aG <= 8) (aAH : 0 <= Int32.toInt dO /\ Int32.toInt dO <= 65535) (xU : ∀ k : Nat, k = 17 -> -1 <= Int32.toInt (qG k) /\ Int32.toInt (qG k) <= SB) (xV : ∀ k : Nat, k = 19 -> 0 <= Int32.toInt (qG k) /\ Int32.toInt (qG k) <= 9) (yF : ∀ k : Nat, 0 <= Int32.toInt (oO k) /\ Int32.toInt (oO k) <= 99) (yD : ∀ k : Nat, k = 4 -> 1 <= Int32.toInt (pJ k) /\ Int32.toInt (pJ k) <= 30) (xZ : ∀ k : Nat, k = 3 -> 0 <= Int32.toInt (pJ k) /\ Int32.toInt (pJ k) <= 9) (zY : ∀ k : Nat, 0 <= Int32.toInt (sH k) /\ Int32.toInt (sH k) <= 65535) (aAw : ∀ k : Nat, 0 <= Int32.toInt (uE k) /\ Int32.toInt (uE k) <= 1000000) (zL : ∀ k : Nat, 0 <= Int32.toInt (oJ k) /\ Int32.toInt (oJ k) <= 99) (hc0 : -1 <= SB /\ SB <= 7) (hc1 : (Int32.toInt aG <= 0 /\ SB = 0) \/ (1 <= Int32.toInt aG /\ SB = Int32.toInt aG - 1)) (hpost : ∀ (r : Int32) (aB9 : Int32) (aEo : Int32) (aEn : Int32) (aGb : Nat -> Int32), (0 <= Int32.toInt aB9 /\ Int32.toInt aB9 <= 1000000) -> post r aB9 aEo aEn aGb) (hK57 : ∀ (x1 : Int32) (x2 : Int32) (bM : Int32) (bQ : Int32) (bO : Int32) (vK : Nat -> Int32), (0 <= Int32.toInt x1 /\ Int32.toInt x1 <= 255) -> (0 <= Int32.toInt x2 /\ Int32.toInt x2 <= 16) -> (0 <= Int32.toInt bM /\ Int32.toInt bM <= 1000000) -> (0 <= Int32.toInt bO /\ Int32.toInt bO <= 0) -> (16 - Int32.toInt x2 < n57) -> K57 x1 x2 bM bQ bO vK) (x1 x2 bM bQ bO : Int32) (vK : Nat -> Int32) (aBK : 0 <= Int32.toInt x1 /\ Int32.toInt x1 <= 255) (aBN : 0 <= Int32.toInt x2 /\ Int32.toInt x2 <= 15) (aAv : 0 <= Int32.toInt bM /\ Int32.toInt bM <= 1000000) (aOl : 0 <= Int32.toInt bO /\ Int32.toInt bO <= 0) (hn57 : 16 - Int32.toInt x2 <= n57) : ws_X10_workOf_194 post K57 bT aG dO qG oO pJ sH uE oJ x1 x2 bM bQ bO vK := by
  have l0 := aEc
  intro v24 ev24
  have f25 : Int32.toInt (x2 + 1) = Int32.toInt x2 + Int32.toInt (1 : Int32) := aAD _ _ (by omega)
  rw [<- ev24] at f25
  have f26 := aAT bQ
  exact hK57 x1 v24 bM bQ bO vK aBK (by omega) aAv aOl (by omega)
set_option maxHeartbeats 8000000 in
set_option maxRecDepth 200000 in
theorem ts_X10_workOf_150 {post : Int32 -> Int32 -> Int32 -> Int32 -> (Nat -> Int32) -> Prop} {SB : Int} {K57 : Int32 -> Int32 -> Int32 -> Int32 -> Int32 -> (Nat -> Int32) -> Prop} {K84 : Int32 -> Int32 -> Int32 -> Int32 -> Int32 -> Int32 -> Int32 -> (Nat -> Int32) -> Prop} {n57 n84 : Int} (bT aG dO : Int32) (qG oO pJ sH uE oJ : Nat -> Int32) (xJ : 0 <= Int32.toInt bT /\ Int32.toInt bT <= 16) (vZ : 0 <= Int32.toInt aG /\ Int32.toInt aG <= 8) (aAH : 0 <= Int32.toInt dO /\ Int32.toInt dO <= 65535) (xU : ∀ k : Nat, k = 17 -> -1 <= Int32.toInt (qG k) /\ Int32.toInt (qG k) <= SB) (xV : ∀ k : Nat, k = 19 -> 0 <= Int32.toInt (qG k) /\ Int32.toInt (qG k) <= 9) (yF : ∀ k : Nat, 0 <= Int32.toInt (oO k) /\ Int32.toInt (oO k) <= 99) (yD : ∀ k : Nat, k = 4 -> 1 <= Int32.toInt (pJ k) /\ Int32.toInt (pJ k) <= 30) (xZ : ∀ k : Nat, k = 3 -> 0 <= Int32.toInt (pJ k) /\ Int32.toInt (pJ k) <= 9) (zY : ∀ k : Nat, 0 <= Int32.toInt (sH k) /\ Int32.toInt (sH k) <= 65535) (aAw : ∀ k : Nat, 0 <= Int32.toInt (uE k) /\ Int32.toInt (uE k) <= 1000000) (zL : ∀ k : Nat, 0 <= Int32.toInt (oJ k) /\ Int32.toInt (oJ k) <= 99) (hc0 : -1 <= SB /\ SB <= 7) (hc1 : (Int32.toInt aG <= 0 /\ SB = 0) \/ (1 <= Int32.toInt aG /\ SB = Int32.toInt aG - 1)) (hpost : ∀ (r : Int32) (aB9 : Int32) (aEo : Int32) (aEn : Int32) (aGb : Nat -> Int32), (0 <= Int32.toInt aB9 /\ Int32.toInt aB9 <= 1000000) -> post r aB9 aEo aEn aGb) (hK57 : ∀ (x1 : Int32) (x2 : Int32) (bM : Int32) (bQ : Int32) (bO : Int32) (vK : Nat -> Int32), (0 <= Int32.toInt x1 /\ Int32.toInt x1 <= 255) -> (0 <= Int32.toInt x2 /\ Int32.toInt x2 <= 16) -> (0 <= Int32.toInt bM /\ Int32.toInt bM <= 1000000) -> (0 <= Int32.toInt bO /\ Int32.toInt bO <= 0) -> (16 - Int32.toInt x2 < n57) -> K57 x1 x2 bM bQ bO vK) (hK84 : ∀ (x1 : Int32) (x2 : Int32) (x3 : Int32) (x4 : Int32) (bM : Int32) (bQ : Int32) (bO : Int32) (vK : Nat -> Int32), (0 <= Int32.toInt x1 /\ Int32.toInt x1 <= 255) -> (0 <= Int32.toInt x2 /\ Int32.toInt x2 <= 15) -> (-1 <= Int32.toInt x3 /\ Int32.toInt x3 <= 7) -> (0 <= Int32.toInt x4 /\ Int32.toInt x4 <= 8) -> (0 <= Int32.toInt bM /\ Int32.toInt bM <= 1000000) -> (0 <= Int32.toInt bO /\ Int32.toInt bO <= 0) -> (16 - Int32.toInt x2 <= n57) -> (8 - Int32.toInt x4 < n84) -> K84 x1 x2 x3 x4 bM bQ bO vK) (x1 x2 x3 x4 bM bQ bO : Int32) (vK : Nat -> Int32) (aBK : 0 <= Int32.toInt x1 /\ Int32.toInt x1 <= 255) (aBN : 0 <= Int32.toInt x2 /\ Int32.toInt x2 <= 15) (aCH : -1 <= Int32.toInt x3 /\ Int32.toInt x3 <= 7) (aDO : 0 <= Int32.toInt x4 /\ Int32.toInt x4 <= 7) (aAv : 0 <= Int32.toInt bM /\ Int32.toInt bM <= 1000000) (aOl : 0 <= Int32.toInt bO /\ Int32.toInt bO <= 0) (hn57 : 16 - Int32.toInt x2 <= n57) (hn84 : 8 - Int32.toInt x4 <= n84) : ws_X10_workOf_150 post K57 K84 bT aG dO qG oO pJ sH uE oJ x1 x2 x3 x4 bM bQ bO vK := by
  have l0 := aEc
  intro v27 ev27
  have f28 : Int32.toInt (x4 + 1) = Int32.toInt x4 + Int32.toInt (1 : Int32) := aAD _ _ (by omega)
  rw [<- ev27] at f28
  have f29 := aAT bQ
  exact hK84 x1 x2 x3 v27 bM bQ bO vK aBK aBN aCH (by omega) aAv aOl hn57 (by omega)
set_option maxHeartbeats 8000000 in
set_option maxRecDepth 200000 in
theorem ts_X10_workOf_147 {post : Int32 -> Int32 -> Int32 -> Int32 -> (Nat -> Int32) -> Prop} {SB : Int} {K57 : Int32 -> Int32 -> Int32 -> Int32 -> Int32 -> (Nat -> Int32) -> Prop} {K84 : Int32 -> Int32 -> Int32 -> Int32 -> Int32 -> Int32 -> Int32 -> (Nat -> Int32) -> Prop} {n57 n84 : Int} (bT aG dO : Int32) (qG oO pJ sH uE oJ : Nat -> Int32) (xJ : 0 <= Int32.toInt bT /\ Int32.toInt bT <= 16) (vZ : 0 <= Int32.toInt aG /\ Int32.toInt aG <= 8) (aAH : 0 <= Int32.toInt dO /\ Int32.toInt dO <= 65535) (xU : ∀ k : Nat, k = 17 -> -1 <= Int32.toInt (qG k) /\ Int32.toInt (qG k) <= SB) (xV : ∀ k : Nat, k = 19 -> 0 <= Int32.toInt (qG k) /\ Int32.toInt (qG k) <= 9) (yF : ∀ k : Nat, 0 <= Int32.toInt (oO k) /\ Int32.toInt (oO k) <= 99) (yD : ∀ k : Nat, k = 4 -> 1 <= Int32.toInt (pJ k) /\ Int32.toInt (pJ k) <= 30) (xZ : ∀ k : Nat, k = 3 -> 0 <= Int32.toInt (pJ k) /\ Int32.toInt (pJ k) <= 9) (zY : ∀ k : Nat, 0 <= Int32.toInt (sH k) /\ Int32.toInt (sH k) <= 65535) (aAw : ∀ k : Nat, 0 <= Int32.toInt (uE k) /\ Int32.toInt (uE k) <= 1000000) (zL : ∀ k : Nat, 0 <= Int32.toInt (oJ k) /\ Int32.toInt (oJ k) <= 99) (hc0 : -1 <= SB /\ SB <= 7) (hc1 : (Int32.toInt aG <= 0 /\ SB = 0) \/ (1 <= Int32.toInt aG /\ SB = Int32.toInt aG - 1)) (hpost : ∀ (r : Int32) (aB9 : Int32) (aEo : Int32) (aEn : Int32) (aGb : Nat -> Int32), (0 <= Int32.toInt aB9 /\ Int32.toInt aB9 <= 1000000) -> post r aB9 aEo aEn aGb) (hK57 : ∀ (x1 : Int32) (x2 : Int32) (bM : Int32) (bQ : Int32) (bO : Int32) (vK : Nat -> Int32), (0 <= Int32.toInt x1 /\ Int32.toInt x1 <= 255) -> (0 <= Int32.toInt x2 /\ Int32.toInt x2 <= 16) -> (0 <= Int32.toInt bM /\ Int32.toInt bM <= 1000000) -> (0 <= Int32.toInt bO /\ Int32.toInt bO <= 0) -> (16 - Int32.toInt x2 < n57) -> K57 x1 x2 bM bQ bO vK) (hK84 : ∀ (x1 : Int32) (x2 : Int32) (x3 : Int32) (x4 : Int32) (bM : Int32) (bQ : Int32) (bO : Int32) (vK : Nat -> Int32), (0 <= Int32.toInt x1 /\ Int32.toInt x1 <= 255) -> (0 <= Int32.toInt x2 /\ Int32.toInt x2 <= 15) -> (-1 <= Int32.toInt x3 /\ Int32.toInt x3 <= 7) -> (0 <= Int32.toInt x4 /\ Int32.toInt x4 <= 8) -> (0 <= Int32.toInt bM /\ Int32.toInt bM <= 1000000) -> (0 <= Int32.toInt bO /\ Int32.toInt bO <= 0) -> (16 - Int32.toInt x2 <= n57) -> (8 - Int32.toInt x4 < n84) -> K84 x1 x2 x3 x4 bM bQ bO vK) (x1 x2 x4 bM bQ bO : Int32) (vK : Nat -> Int32) (aBK : 0 <= Int32.toInt x1 /\ Int32.toInt x1 <= 255) (aBN : 0 <= Int32.toInt x2 /\ Int32.toInt x2 <= 15) (aDO : 0 <= Int32.toInt x4 /\ Int32.toInt x4 <= 7) (aAv : 0 <= Int32.toInt bM /\ Int32.toInt bM <= 1000000) (aOl : 0 <= Int32.toInt bO /\ Int32.toInt bO <= 0) (hn57 : 16 - Int32.toInt x2 <= n57) (hn84 : 8 - Int32.toInt x4 <= n84) : ws_X10_workOf_147 post K57 K84 bT aG dO qG oO pJ sH uE oJ x1 x2 x4 bM bQ bO vK := by
  have f30 := aAT bQ
  exact ts_X10_workOf_150 bT aG dO qG oO pJ sH uE oJ xJ vZ aAH xU xV yF yD xZ zY aAw zL hc0 hc1 hpost hK57 hK84 x1 x2 x4 x4 bM bQ bO vK aBK aBN (by omega) aDO aAv aOl hn57 hn84
set_option maxHeartbeats 8000000 in
set_option maxRecDepth 200000 in
theorem ts_X10_workOf_84 {post : Int32 -> Int32 -> Int32 -> Int32 -> (Nat -> Int32) -> Prop} {SB : Int} {K57 : Int32 -> Int32 -> Int32 -> Int32 -> Int32 -> (Nat -> Int32) -> Prop} {next : Int32 -> Int32 -> Int32 -> Int32 -> Int32 -> Int32 -> Int32 -> (Nat -> Int32) -> Prop} {n84 n57 : Int} (bT aG dO : Int32) (qG oO pJ sH uE oJ : Nat -> Int32) (xJ : 0 <= Int32.toInt bT /\ Int32.toInt bT <= 16) (vZ : 0 <= Int32.toInt aG /\ Int32.toInt aG <= 8) (aAH : 0 <= Int32.toInt dO /\ Int32.toInt dO <= 65535) (xU : ∀ k : Nat, k = 17 -> -1 <= Int32.toInt (qG k) /\ Int32.toInt (qG k) <= SB) (xV : ∀ k : Nat, k = 19 -> 0 <= Int32.toInt (qG k) /\ Int32.toInt (qG k) <= 9) (yF : ∀ k : Nat, 0 <= Int32.toInt (oO k) /\ Int32.toInt (oO k) <= 99) (yD : ∀ k : Nat, k = 4 -> 1 <= Int32.toInt (pJ k) /\ Int32.toInt (pJ k) <= 30) (xZ : ∀ k : Nat, k = 3 -> 0 <= Int32.toInt (pJ k) /\ Int32.toInt (pJ k) <= 9) (zY : ∀ k : Nat, 0 <= Int32.toInt (sH k) /\ Int32.toInt (sH k) <= 65535) (aAw : ∀ k : Nat, 0 <= Int32.toInt (uE k) /\ Int32.toInt (uE k) <= 1000000) (zL : ∀ k : Nat, 0 <= Int32.toInt (oJ k) /\ Int32.toInt (oJ k) <= 99) (hc0 : -1 <= SB /\ SB <= 7) (hc1 : (Int32.toInt aG <= 0 /\ SB = 0) \/ (1 <= Int32.toInt aG /\ SB = Int32.toInt aG - 1)) (hpost : ∀ (r : Int32) (aB9 : Int32) (aEo : Int32) (aEn : Int32) (aGb : Nat -> Int32), (0 <= Int32.toInt aB9 /\ Int32.toInt aB9 <= 1000000) -> post r aB9 aEo aEn aGb) (hK57 : ∀ (x1 : Int32) (x2 : Int32) (bM : Int32) (bQ : Int32) (bO : Int32) (vK : Nat -> Int32), (0 <= Int32.toInt x1 /\ Int32.toInt x1 <= 255) -> (0 <= Int32.toInt x2 /\ Int32.toInt x2 <= 16) -> (0 <= Int32.toInt bM /\ Int32.toInt bM <= 1000000) -> (0 <= Int32.toInt bO /\ Int32.toInt bO <= 0) -> (16 - Int32.toInt x2 < n57) -> K57 x1 x2 bM bQ bO vK) (hKn : ∀ (x1 : Int32) (x2 : Int32) (x3 : Int32) (x4 : Int32) (bM : Int32) (bQ : Int32) (bO : Int32) (vK : Nat -> Int32), (0 <= Int32.toInt x1 /\ Int32.toInt x1 <= 255) -> (0 <= Int32.toInt x2 /\ Int32.toInt x2 <= 15) -> (-1 <= Int32.toInt x3 /\ Int32.toInt x3 <= 7) -> (0 <= Int32.toInt x4 /\ Int32.toInt x4 <= 8) -> (0 <= Int32.toInt bM /\ Int32.toInt bM <= 1000000) -> (0 <= Int32.toInt bO /\ Int32.toInt bO <= 0) -> (16 - Int32.toInt x2 <= n57) -> (8 - Int32.toInt x4 < n84) -> next x1 x2 x3 x4 bM bQ bO vK) (x1 x2 x3 x4 bM bQ bO : Int32) (vK : Nat -> Int32) (aBK : 0 <= Int32.toInt x1 /\ Int32.toInt x1 <= 255) (aBN : 0 <= Int32.toInt x2 /\ Int32.toInt x2 <= 15) (aCH : -1 <= Int32.toInt x3 /\ Int32.toInt x3 <= 7) (aDO : 0 <= Int32.toInt x4 /\ Int32.toInt x4 <= 8) (aAv : 0 <= Int32.toInt bM /\ Int32.toInt bM <= 1000000) (aOl : 0 <= Int32.toInt bO /\ Int32.toInt bO <= 0) (hn57 : 16 - Int32.toInt x2 <= n57) (hn84 : 8 - Int32.toInt x4 <= n84) : ws_X10_workOf_84 post K57 next bT aG dO qG oO pJ sH uE oJ x1 x2 x3 x4 bM bQ bO vK := by
  have l0 := aI2
  have l1 := aEc
  have l2 := li_16
  refine And.intro (fun c31 => ?_) (fun c31 => ?_)
  · skip
    have c31 := (aAO _ _).mp c31
    refine And.intro (fun c32 => ?_) (fun c32 => ?_)
    · skip
      have c32 := mt (zJ _ _).mpr c32
      intro v33 ev33
      have f34 : Int32.toInt (16 * x3) = Int32.toInt x3 * 16 := ta_cmul _ _ (by decide) (by omega)
      rw [<- ev33] at f34
      intro v35 ev35
      have f36 : Int32.toInt (v33 + x2) = Int32.toInt v33 + Int32.toInt x2 := aAD _ _ (by omega)
      rw [<- ev35] at f36
      refine And.intro (aBZ (by omega)) ?_
      intro v37 ev37
      have hv37 := congrArg Int32.toInt ev37
      refine And.intro (aBZ (by omega)) ?_
      intro v39 ev39
      have hv39 := congrArg Int32.toInt ev39
      intro v41 ev41
      have hv41 := congrArg Int32.toInt ev41
      refine And.intro (aBZ (by omega)) ?_
      have f43 := aAT v37
      exact ts_X10_workOf_194 bT aG dO qG oO pJ sH uE oJ xJ vZ aAH xU xV yF yD xZ zY aAw zL hc0 hc1 hpost hK57 x1 x2 bM v37 bO (upd vK x3.toNatClampNeg v41) aBK aBN aAv aOl hn57
    · skip
      have c32 := (zJ _ _).mp c32
      have f44 := aAT bQ
      exact ts_X10_workOf_194 bT aG dO qG oO pJ sH uE oJ xJ vZ aAH xU xV yF yD xZ zY aAw zL hc0 hc1 hpost hK57 x1 x2 bM bQ bO vK aBK aBN aAv aOl hn57
  · skip
    have c31 := mt (aAO _ _).mpr c31
    intro v45 ev45
    have f46 := aRJ x1 x4 (by omega)
    have hv45 := congrArg Int32.toInt ev45
    intro v47 ev47
    have f48 := aAQ v45 1 (by omega)
    have f49 := aBx v45 1 (by omega)
    have hv47 := congrArg Int32.toInt ev47
    refine And.intro (fun c50 => ?_) (fun c50 => ?_)
    · skip
      have c50 := mt (zJ _ _).mpr c50
      refine And.intro (fun _ => ?_) (fun h9 => absurd h9 (by decide))
      have f51 := aAT bQ
      exact ts_X10_workOf_150 bT aG dO qG oO pJ sH uE oJ xJ vZ aAH xU xV yF yD xZ zY aAw zL hc0 hc1 hpost hK57 hKn x1 x2 x3 x4 bM bQ bO vK aBK aBN aCH (by omega) aAv aOl hn57 hn84
    · skip
      have c50 := (zJ _ _).mp c50
      refine And.intro (fun h9 => absurd h9 (by decide)) (fun _ => ?_)
      refine And.intro (aBZ (by omega)) ?_
      intro v52 ev52
      have f53 := zY x4.toNatClampNeg
      have hv52 := congrArg Int32.toInt ev52
      intro v54 ev54
      have f55 := aRJ v52 x2 (by omega)
      have hv54 := congrArg Int32.toInt ev54
      intro v56 ev56
      have f57 := aAQ v54 1 (by omega)
      have f58 := aBx v54 1 (by omega)
      have hv56 := congrArg Int32.toInt ev56
      refine And.intro (fun c59 => ?_) (fun c59 => ?_)
      · skip
        have c59 := mt (zJ _ _).mpr c59
        refine And.intro (fun _ => ?_) (fun h9 => absurd h9 (by decide))
        have f60 := aAT bQ
        exact ts_X10_workOf_150 bT aG dO qG oO pJ sH uE oJ xJ vZ aAH xU xV yF yD xZ zY aAw zL hc0 hc1 hpost hK57 hKn x1 x2 x3 x4 bM bQ bO vK aBK aBN aCH (by omega) aAv aOl hn57 hn84
      · skip
        have c59 := (zJ _ _).mp c59
        refine And.intro (fun h9 => absurd h9 (by decide)) (fun _ => ?_)
        refine And.intro (fun c61 => ?_) (fun c61 => ?_)
        · skip
          have c61 := (zJ _ _).mp c61
          have f62 := aAT bQ
          exact ts_X10_workOf_147 bT aG dO qG oO pJ sH uE oJ xJ vZ aAH xU xV yF yD xZ zY aAw zL hc0 hc1 hpost hK57 hKn x1 x2 x4 bM bQ bO vK aBK aBN (by omega) aAv aOl hn57 hn84
        · skip
          have c61 := mt (zJ _ _).mpr c61
          intro v63 ev63
          have f64 : Int32.toInt (16 * x4) = Int32.toInt x4 * 16 := ta_cmul _ _ (by decide) (by omega)
          rw [<- ev63] at f64
          intro v65 ev65
          have f66 : Int32.toInt (v63 + x2) = Int32.toInt v63 + Int32.toInt x2 := aAD _ _ (by omega)
          rw [<- ev65] at f66
          refine And.intro (aBZ (by omega)) ?_
          intro v67 ev67
          have f68 := zL v65.toNatClampNeg
          have hv67 := congrArg Int32.toInt ev67
          intro v69 ev69
          have f70 : Int32.toInt (16 * x3) = Int32.toInt x3 * 16 := ta_cmul _ _ (by decide) (by omega)
          rw [<- ev69] at f70
          intro v71 ev71
          have f72 : Int32.toInt (v69 + x2) = Int32.toInt v69 + Int32.toInt x2 := aAD _ _ (by omega)
          rw [<- ev71] at f72
          refine And.intro (aBZ (by omega)) ?_
          have f74 := zL v71.toNatClampNeg
          refine And.intro (fun c73 => ?_) (fun c73 => ?_)
          · skip
            have c73 := (aAO _ _).mp c73
            have f75 := aAT bQ
            exact ts_X10_workOf_150 bT aG dO qG oO pJ sH uE oJ xJ vZ aAH xU xV yF yD xZ zY aAw zL hc0 hc1 hpost hK57 hKn x1 x2 x3 x4 bM bQ bO vK aBK aBN aCH (by omega) aAv aOl hn57 hn84
          · skip
            have c73 := mt (aAO _ _).mpr c73
            have f76 := aAT bQ
            exact ts_X10_workOf_147 bT aG dO qG oO pJ sH uE oJ xJ vZ aAH xU xV yF yD xZ zY aAw zL hc0 hc1 hpost hK57 hKn x1 x2 x4 bM bQ bO vK aBK aBN (by omega) aAv aOl hn57 hn84
set_option maxHeartbeats 8000000 in
set_option maxRecDepth 200000 in
theorem tb_X10_workOf_84 {post : Int32 -> Int32 -> Int32 -> Int32 -> (Nat -> Int32) -> Prop} {SB : Int} {K57 : Int32 -> Int32 -> Int32 -> Int32 -> Int32 -> (Nat -> Int32) -> Prop} {n57 : Int} (bT aG dO : Int32) (qG oO pJ sH uE oJ : Nat -> Int32) (xJ : 0 <= Int32.toInt bT /\ Int32.toInt bT <= 16) (vZ : 0 <= Int32.toInt aG /\ Int32.toInt aG <= 8) (aAH : 0 <= Int32.toInt dO /\ Int32.toInt dO <= 65535) (xU : ∀ k : Nat, k = 17 -> -1 <= Int32.toInt (qG k) /\ Int32.toInt (qG k) <= SB) (xV : ∀ k : Nat, k = 19 -> 0 <= Int32.toInt (qG k) /\ Int32.toInt (qG k) <= 9) (yF : ∀ k : Nat, 0 <= Int32.toInt (oO k) /\ Int32.toInt (oO k) <= 99) (yD : ∀ k : Nat, k = 4 -> 1 <= Int32.toInt (pJ k) /\ Int32.toInt (pJ k) <= 30) (xZ : ∀ k : Nat, k = 3 -> 0 <= Int32.toInt (pJ k) /\ Int32.toInt (pJ k) <= 9) (zY : ∀ k : Nat, 0 <= Int32.toInt (sH k) /\ Int32.toInt (sH k) <= 65535) (aAw : ∀ k : Nat, 0 <= Int32.toInt (uE k) /\ Int32.toInt (uE k) <= 1000000) (zL : ∀ k : Nat, 0 <= Int32.toInt (oJ k) /\ Int32.toInt (oJ k) <= 99) (hc0 : -1 <= SB /\ SB <= 7) (hc1 : (Int32.toInt aG <= 0 /\ SB = 0) \/ (1 <= Int32.toInt aG /\ SB = Int32.toInt aG - 1)) (hpost : ∀ (r : Int32) (aB9 : Int32) (aEo : Int32) (aEn : Int32) (aGb : Nat -> Int32), (0 <= Int32.toInt aB9 /\ Int32.toInt aB9 <= 1000000) -> post r aB9 aEo aEn aGb) (hK57 : ∀ (x1 : Int32) (x2 : Int32) (bM : Int32) (bQ : Int32) (bO : Int32) (vK : Nat -> Int32), (0 <= Int32.toInt x1 /\ Int32.toInt x1 <= 255) -> (0 <= Int32.toInt x2 /\ Int32.toInt x2 <= 16) -> (0 <= Int32.toInt bM /\ Int32.toInt bM <= 1000000) -> (0 <= Int32.toInt bO /\ Int32.toInt bO <= 0) -> (16 - Int32.toInt x2 < n57) -> K57 x1 x2 bM bQ bO vK) : ∀ (n : Nat) (x1 x2 x3 x4 bM bQ bO : Int32) (vK : Nat -> Int32), (0 <= Int32.toInt x1 /\ Int32.toInt x1 <= 255) -> (0 <= Int32.toInt x2 /\ Int32.toInt x2 <= 15) -> (-1 <= Int32.toInt x3 /\ Int32.toInt x3 <= 7) -> (0 <= Int32.toInt x4 /\ Int32.toInt x4 <= 8) -> (0 <= Int32.toInt bM /\ Int32.toInt bM <= 1000000) -> (0 <= Int32.toInt bO /\ Int32.toInt bO <= 0) -> (16 - Int32.toInt x2 <= n57) -> (8 - Int32.toInt x4 < (n : Int)) -> wb_X10_workOf_84 post K57 bT aG dO qG oO pJ sH uE oJ n x1 x2 x3 x4 bM bQ bO vK := by
  intro n
  induction n with
  | zero =>
    intro x1 x2 x3 x4 bM bQ bO vK aBK aBN aCH aDO aAv aOl hn57 hm
    exfalso; omega
  | succ n ih =>
    intro x1 x2 x3 x4 bM bQ bO vK aBK aBN aCH aDO aAv aOl hn57 hm
    exact ts_X10_workOf_84 bT aG dO qG oO pJ sH uE oJ xJ vZ aAH xU xV yF yD xZ zY aAw zL hc0 hc1 hpost hK57 ih x1 x2 x3 x4 bM bQ bO vK aBK aBN aCH aDO aAv aOl hn57 (by omega)
set_option maxHeartbeats 8000000 in
set_option maxRecDepth 200000 in
theorem ts_X10_workOf_57 {post : Int32 -> Int32 -> Int32 -> Int32 -> (Nat -> Int32) -> Prop} {SB : Int} {next : Int32 -> Int32 -> Int32 -> Int32 -> Int32 -> (Nat -> Int32) -> Prop} {n57 : Int} (bT aG dO : Int32) (qG oO pJ sH uE oJ : Nat -> Int32) (xJ : 0 <= Int32.toInt bT /\ Int32.toInt bT <= 16) (vZ : 0 <= Int32.toInt aG /\ Int32.toInt aG <= 8) (aAH : 0 <= Int32.toInt dO /\ Int32.toInt dO <= 65535) (xU : ∀ k : Nat, k = 17 -> -1 <= Int32.toInt (qG k) /\ Int32.toInt (qG k) <= SB) (xV : ∀ k : Nat, k = 19 -> 0 <= Int32.toInt (qG k) /\ Int32.toInt (qG k) <= 9) (yF : ∀ k : Nat, 0 <= Int32.toInt (oO k) /\ Int32.toInt (oO k) <= 99) (yD : ∀ k : Nat, k = 4 -> 1 <= Int32.toInt (pJ k) /\ Int32.toInt (pJ k) <= 30) (xZ : ∀ k : Nat, k = 3 -> 0 <= Int32.toInt (pJ k) /\ Int32.toInt (pJ k) <= 9) (zY : ∀ k : Nat, 0 <= Int32.toInt (sH k) /\ Int32.toInt (sH k) <= 65535) (aAw : ∀ k : Nat, 0 <= Int32.toInt (uE k) /\ Int32.toInt (uE k) <= 1000000) (zL : ∀ k : Nat, 0 <= Int32.toInt (oJ k) /\ Int32.toInt (oJ k) <= 99) (hc0 : -1 <= SB /\ SB <= 7) (hc1 : (Int32.toInt aG <= 0 /\ SB = 0) \/ (1 <= Int32.toInt aG /\ SB = Int32.toInt aG - 1)) (hpost : ∀ (r : Int32) (aB9 : Int32) (aEo : Int32) (aEn : Int32) (aGb : Nat -> Int32), (0 <= Int32.toInt aB9 /\ Int32.toInt aB9 <= 1000000) -> post r aB9 aEo aEn aGb) (hKn : ∀ (x1 : Int32) (x2 : Int32) (bM : Int32) (bQ : Int32) (bO : Int32) (vK : Nat -> Int32), (0 <= Int32.toInt x1 /\ Int32.toInt x1 <= 255) -> (0 <= Int32.toInt x2 /\ Int32.toInt x2 <= 16) -> (0 <= Int32.toInt bM /\ Int32.toInt bM <= 1000000) -> (0 <= Int32.toInt bO /\ Int32.toInt bO <= 0) -> (16 - Int32.toInt x2 < n57) -> next x1 x2 bM bQ bO vK) (x1 x2 bM bQ bO : Int32) (vK : Nat -> Int32) (aBK : 0 <= Int32.toInt x1 /\ Int32.toInt x1 <= 255) (aBN : 0 <= Int32.toInt x2 /\ Int32.toInt x2 <= 16) (aAv : 0 <= Int32.toInt bM /\ Int32.toInt bM <= 1000000) (aOl : 0 <= Int32.toInt bO /\ Int32.toInt bO <= 0) (hn57 : 16 - Int32.toInt x2 <= n57) : ws_X10_workOf_57 post next bT aG dO qG oO pJ sH uE oJ x1 x2 bM bQ bO vK := by
  have l0 := aI2
  have l1 := aE0
  have l2 := aEc
  refine And.intro (fun c77 => ?_) (fun c77 => ?_)
  · skip
    have c77 := (aAO _ _).mp c77
    have f78 := aAT bQ
    exact ⟨10, tb_X10_workOf_202 bT aG dO qG oO pJ sH uE oJ xJ vZ aAH xU xV yF yD xZ zY aAw zL hc0 hc1 hpost _ 0 bM bQ bO vK (by omega) aAv (by omega)⟩
  · skip
    have c77 := mt (aAO _ _).mpr c77
    intro v79 ev79
    have f80 := aRJ dO x2 (by omega)
    have hv79 := congrArg Int32.toInt ev79
    intro v81 ev81
    have f82 := aAQ v79 1 (by omega)
    have f83 := aBx v79 1 (by omega)
    have hv81 := congrArg Int32.toInt ev81
    refine And.intro (fun c84 => ?_) (fun c84 => ?_)
    · skip
      have c84 := mt (zJ _ _).mpr c84
      refine And.intro (fun h9 => absurd h9 (by decide)) (fun _ => ?_)
      have f85 := aAT bQ
      exact ts_X10_workOf_194 bT aG dO qG oO pJ sH uE oJ xJ vZ aAH xU xV yF yD xZ zY aAw zL hc0 hc1 hpost hKn x1 x2 bM bQ bO vK aBK (by omega) aAv aOl hn57
    · skip
      have c84 := (zJ _ _).mp c84
      refine And.intro (fun _ => ?_) (fun h9 => absurd h9 (by decide))
      have f86 := aAT bQ
      exact ⟨10, tb_X10_workOf_84 bT aG dO qG oO pJ sH uE oJ xJ vZ aAH xU xV yF yD xZ zY aAw zL hc0 hc1 hpost hKn _ x1 x2 (-1) 0 bM bQ bO vK aBK (by omega) (by omega) (by omega) aAv aOl hn57 (by omega)⟩
set_option maxHeartbeats 8000000 in
set_option maxRecDepth 200000 in
theorem tb_X10_workOf_57 {post : Int32 -> Int32 -> Int32 -> Int32 -> (Nat -> Int32) -> Prop} {SB : Int} (bT aG dO : Int32) (qG oO pJ sH uE oJ : Nat -> Int32) (xJ : 0 <= Int32.toInt bT /\ Int32.toInt bT <= 16) (vZ : 0 <= Int32.toInt aG /\ Int32.toInt aG <= 8) (aAH : 0 <= Int32.toInt dO /\ Int32.toInt dO <= 65535) (xU : ∀ k : Nat, k = 17 -> -1 <= Int32.toInt (qG k) /\ Int32.toInt (qG k) <= SB) (xV : ∀ k : Nat, k = 19 -> 0 <= Int32.toInt (qG k) /\ Int32.toInt (qG k) <= 9) (yF : ∀ k : Nat, 0 <= Int32.toInt (oO k) /\ Int32.toInt (oO k) <= 99) (yD : ∀ k : Nat, k = 4 -> 1 <= Int32.toInt (pJ k) /\ Int32.toInt (pJ k) <= 30) (xZ : ∀ k : Nat, k = 3 -> 0 <= Int32.toInt (pJ k) /\ Int32.toInt (pJ k) <= 9) (zY : ∀ k : Nat, 0 <= Int32.toInt (sH k) /\ Int32.toInt (sH k) <= 65535) (aAw : ∀ k : Nat, 0 <= Int32.toInt (uE k) /\ Int32.toInt (uE k) <= 1000000) (zL : ∀ k : Nat, 0 <= Int32.toInt (oJ k) /\ Int32.toInt (oJ k) <= 99) (hc0 : -1 <= SB /\ SB <= 7) (hc1 : (Int32.toInt aG <= 0 /\ SB = 0) \/ (1 <= Int32.toInt aG /\ SB = Int32.toInt aG - 1)) (hpost : ∀ (r : Int32) (aB9 : Int32) (aEo : Int32) (aEn : Int32) (aGb : Nat -> Int32), (0 <= Int32.toInt aB9 /\ Int32.toInt aB9 <= 1000000) -> post r aB9 aEo aEn aGb) : ∀ (n : Nat) (x1 x2 bM bQ bO : Int32) (vK : Nat -> Int32), (0 <= Int32.toInt x1 /\ Int32.toInt x1 <= 255) -> (0 <= Int32.toInt x2 /\ Int32.toInt x2 <= 16) -> (0 <= Int32.toInt bM /\ Int32.toInt bM <= 1000000) -> (0 <= Int32.toInt bO /\ Int32.toInt bO <= 0) -> (16 - Int32.toInt x2 < (n : Int)) -> wb_X10_workOf_57 post bT aG dO qG oO pJ sH uE oJ n x1 x2 bM bQ bO vK := by
  intro n
  induction n with
  | zero =>
    intro x1 x2 bM bQ bO vK aBK aBN aAv aOl hm
    exfalso; omega
  | succ n ih =>
    intro x1 x2 bM bQ bO vK aBK aBN aAv aOl hm
    exact ts_X10_workOf_57 bT aG dO qG oO pJ sH uE oJ xJ vZ aAH xU xV yF yD xZ zY aAw zL hc0 hc1 hpost ih x1 x2 bM bQ bO vK aBK aBN aAv aOl (by omega)
set_option maxHeartbeats 8000000 in
set_option maxRecDepth 200000 in
theorem ts_X10_workOf_36 {post : Int32 -> Int32 -> Int32 -> Int32 -> (Nat -> Int32) -> Prop} {SB : Int} {next : Int32 -> Int32 -> Int32 -> Int32 -> Int32 -> (Nat -> Int32) -> Prop} {n36 : Int} (bT aG dO : Int32) (qG oO pJ sH uE oJ : Nat -> Int32) (xJ : 0 <= Int32.toInt bT /\ Int32.toInt bT <= 16) (vZ : 0 <= Int32.toInt aG /\ Int32.toInt aG <= 8) (aAH : 0 <= Int32.toInt dO /\ Int32.toInt dO <= 65535) (xU : ∀ k : Nat, k = 17 -> -1 <= Int32.toInt (qG k) /\ Int32.toInt (qG k) <= SB) (xV : ∀ k : Nat, k = 19 -> 0 <= Int32.toInt (qG k) /\ Int32.toInt (qG k) <= 9) (yF : ∀ k : Nat, 0 <= Int32.toInt (oO k) /\ Int32.toInt (oO k) <= 99) (yD : ∀ k : Nat, k = 4 -> 1 <= Int32.toInt (pJ k) /\ Int32.toInt (pJ k) <= 30) (xZ : ∀ k : Nat, k = 3 -> 0 <= Int32.toInt (pJ k) /\ Int32.toInt (pJ k) <= 9) (zY : ∀ k : Nat, 0 <= Int32.toInt (sH k) /\ Int32.toInt (sH k) <= 65535) (aAw : ∀ k : Nat, 0 <= Int32.toInt (uE k) /\ Int32.toInt (uE k) <= 1000000) (zL : ∀ k : Nat, 0 <= Int32.toInt (oJ k) /\ Int32.toInt (oJ k) <= 99) (hc0 : -1 <= SB /\ SB <= 7) (hc1 : (Int32.toInt aG <= 0 /\ SB = 0) \/ (1 <= Int32.toInt aG /\ SB = Int32.toInt aG - 1)) (hpost : ∀ (r : Int32) (aB9 : Int32) (aEo : Int32) (aEn : Int32) (aGb : Nat -> Int32), (0 <= Int32.toInt aB9 /\ Int32.toInt aB9 <= 1000000) -> post r aB9 aEo aEn aGb) (hKn : ∀ (x1 : Int32) (x2 : Int32) (bM : Int32) (bQ : Int32) (bO : Int32) (vK : Nat -> Int32), (0 <= Int32.toInt x1 /\ Int32.toInt x1 <= 255) -> (0 <= Int32.toInt x2 /\ Int32.toInt x2 <= 8) -> (0 <= Int32.toInt bM /\ Int32.toInt bM <= 1000000) -> (0 <= Int32.toInt bQ /\ Int32.toInt bQ <= 0) -> (0 <= Int32.toInt bO /\ Int32.toInt bO <= 0) -> (8 - Int32.toInt x2 < n36) -> next x1 x2 bM bQ bO vK) (x1 x2 bM bQ bO : Int32) (vK : Nat -> Int32) (aBK : 0 <= Int32.toInt x1 /\ Int32.toInt x1 <= 255) (aBN : 0 <= Int32.toInt x2 /\ Int32.toInt x2 <= 8) (aAv : 0 <= Int32.toInt bM /\ Int32.toInt bM <= 1000000) (h_m_workPicks : 0 <= Int32.toInt bQ /\ Int32.toInt bQ <= 0) (aOl : 0 <= Int32.toInt bO /\ Int32.toInt bO <= 0) (hn36 : 8 - Int32.toInt x2 <= n36) : ws_X10_workOf_36 post next bT aG dO qG oO pJ sH uE oJ x1 x2 bM bQ bO vK := by
  have l0 := aE0
  have l1 := aEc
  have l2 := li_8
  refine And.intro (fun c87 => ?_) (fun c87 => ?_)
  · skip
    have c87 := (aAO _ _).mp c87
    exact ⟨18, tb_X10_workOf_57 bT aG dO qG oO pJ sH uE oJ xJ vZ aAH xU xV yF yD xZ zY aAw zL hc0 hc1 hpost _ x1 0 bM bQ bO vK aBK (by omega) aAv aOl (by omega)⟩
  · skip
    have c87 := mt (aAO _ _).mpr c87
    refine And.intro (aBZ (by omega)) ?_
    intro v88 ev88
    have f89 : Int32.toInt (x2 + 1) = Int32.toInt x2 + Int32.toInt (1 : Int32) := aAD _ _ (by omega)
    rw [<- ev88] at f89
    exact hKn x1 v88 bM bQ bO (upd vK x2.toNatClampNeg 0) aBK (by omega) aAv h_m_workPicks aOl (by omega)
set_option maxHeartbeats 8000000 in
set_option maxRecDepth 200000 in
theorem tb_X10_workOf_36 {post : Int32 -> Int32 -> Int32 -> Int32 -> (Nat -> Int32) -> Prop} {SB : Int} (bT aG dO : Int32) (qG oO pJ sH uE oJ : Nat -> Int32) (xJ : 0 <= Int32.toInt bT /\ Int32.toInt bT <= 16) (vZ : 0 <= Int32.toInt aG /\ Int32.toInt aG <= 8) (aAH : 0 <= Int32.toInt dO /\ Int32.toInt dO <= 65535) (xU : ∀ k : Nat, k = 17 -> -1 <= Int32.toInt (qG k) /\ Int32.toInt (qG k) <= SB) (xV : ∀ k : Nat, k = 19 -> 0 <= Int32.toInt (qG k) /\ Int32.toInt (qG k) <= 9) (yF : ∀ k : Nat, 0 <= Int32.toInt (oO k) /\ Int32.toInt (oO k) <= 99) (yD : ∀ k : Nat, k = 4 -> 1 <= Int32.toInt (pJ k) /\ Int32.toInt (pJ k) <= 30) (xZ : ∀ k : Nat, k = 3 -> 0 <= Int32.toInt (pJ k) /\ Int32.toInt (pJ k) <= 9) (zY : ∀ k : Nat, 0 <= Int32.toInt (sH k) /\ Int32.toInt (sH k) <= 65535) (aAw : ∀ k : Nat, 0 <= Int32.toInt (uE k) /\ Int32.toInt (uE k) <= 1000000) (zL : ∀ k : Nat, 0 <= Int32.toInt (oJ k) /\ Int32.toInt (oJ k) <= 99) (hc0 : -1 <= SB /\ SB <= 7) (hc1 : (Int32.toInt aG <= 0 /\ SB = 0) \/ (1 <= Int32.toInt aG /\ SB = Int32.toInt aG - 1)) (hpost : ∀ (r : Int32) (aB9 : Int32) (aEo : Int32) (aEn : Int32) (aGb : Nat -> Int32), (0 <= Int32.toInt aB9 /\ Int32.toInt aB9 <= 1000000) -> post r aB9 aEo aEn aGb) : ∀ (n : Nat) (x1 x2 bM bQ bO : Int32) (vK : Nat -> Int32), (0 <= Int32.toInt x1 /\ Int32.toInt x1 <= 255) -> (0 <= Int32.toInt x2 /\ Int32.toInt x2 <= 8) -> (0 <= Int32.toInt bM /\ Int32.toInt bM <= 1000000) -> (0 <= Int32.toInt bQ /\ Int32.toInt bQ <= 0) -> (0 <= Int32.toInt bO /\ Int32.toInt bO <= 0) -> (8 - Int32.toInt x2 < (n : Int)) -> wb_X10_workOf_36 post bT aG dO qG oO pJ sH uE oJ n x1 x2 bM bQ bO vK := by
  intro n
  induction n with
  | zero =>
    intro x1 x2 bM bQ bO vK aBK aBN aAv h_m_workPicks aOl hm
    exfalso; omega
  | succ n ih =>
    intro x1 x2 bM bQ bO vK aBK aBN aAv h_m_workPicks aOl hm
    exact ts_X10_workOf_36 bT aG dO qG oO pJ sH uE oJ xJ vZ aAH xU xV yF yD xZ zY aAw zL hc0 hc1 hpost ih x1 x2 bM bQ bO vK aBK aBN aAv h_m_workPicks aOl (by omega)
set_option maxHeartbeats 8000000 in
set_option maxRecDepth 200000 in
theorem t_X10_workOf {post : Int32 -> Int32 -> Int32 -> Int32 -> (Nat -> Int32) -> Prop} {SB : Int} {p0 bT aG dO bM bQ bO : Int32} {qG oO pJ sH uE oJ vK : Nat -> Int32} (h_p0 : 0 <= Int32.toInt p0 /\ Int32.toInt p0 <= 255) (xJ : 0 <= Int32.toInt bT /\ Int32.toInt bT <= 16) (vZ : 0 <= Int32.toInt aG /\ Int32.toInt aG <= 8) (aAH : 0 <= Int32.toInt dO /\ Int32.toInt dO <= 65535) (aAv : 0 <= Int32.toInt bM /\ Int32.toInt bM <= 1000000) (xU : ∀ k : Nat, k = 17 -> -1 <= Int32.toInt (qG k) /\ Int32.toInt (qG k) <= SB) (xV : ∀ k : Nat, k = 19 -> 0 <= Int32.toInt (qG k) /\ Int32.toInt (qG k) <= 9) (yF : ∀ k : Nat, 0 <= Int32.toInt (oO k) /\ Int32.toInt (oO k) <= 99) (yD : ∀ k : Nat, k = 4 -> 1 <= Int32.toInt (pJ k) /\ Int32.toInt (pJ k) <= 30) (xZ : ∀ k : Nat, k = 3 -> 0 <= Int32.toInt (pJ k) /\ Int32.toInt (pJ k) <= 9) (zY : ∀ k : Nat, 0 <= Int32.toInt (sH k) /\ Int32.toInt (sH k) <= 65535) (aAw : ∀ k : Nat, 0 <= Int32.toInt (uE k) /\ Int32.toInt (uE k) <= 1000000) (zL : ∀ k : Nat, 0 <= Int32.toInt (oJ k) /\ Int32.toInt (oJ k) <= 99) (hc0 : -1 <= SB /\ SB <= 7) (hc1 : (Int32.toInt aG <= 0 /\ SB = 0) \/ (1 <= Int32.toInt aG /\ SB = Int32.toInt aG - 1)) (hpost : ∀ (r : Int32) (aB9 : Int32) (aEo : Int32) (aEn : Int32) (aGb : Nat -> Int32), (0 <= Int32.toInt aB9 /\ Int32.toInt aB9 <= 1000000) -> post r aB9 aEo aEn aGb) : wp_X10_workOf post p0 bT aG dO bM bQ bO qG oO pJ sH uE oJ vK := by
  have l0 := aI2
  have l1 := aE0
  have l2 := li_17
  have l3 := li_8
  have q90 := xU (17 : Int32).toNatClampNeg (by have e9 : (17 : Int32).toNatClampNeg = (Int32.toInt (17 : Int32)).toNat := rfl; omega)
  intro v91 ev91
  have hv91 := congrArg Int32.toInt ev91
  refine And.intro (fun c93 => ?_) (fun c93 => ?_)
  · skip
    have c93 := mt (zJ _ _).mpr c93
    have q94 := xU (17 : Int32).toNatClampNeg (by have e9 : (17 : Int32).toNatClampNeg = (Int32.toInt (17 : Int32)).toNat := rfl; omega)
    intro v95 ev95
    have hv95 := congrArg Int32.toInt ev95
    refine And.intro (fun c96 => ?_) (fun c96 => ?_)
    · skip
      have c96 := mt (zJ _ _).mpr c96
      have q97 := xU (17 : Int32).toNatClampNeg (by have e9 : (17 : Int32).toNatClampNeg = (Int32.toInt (17 : Int32)).toNat := rfl; omega)
      intro v98 ev98
      have f99 := aDv 7 128 (qG (17 : Int32).toNatClampNeg) (by decide) (by omega)
      have hv98 := congrArg Int32.toInt ev98
      intro v100 ev100
      have f101 := ti_shl8 v91 (by omega)
      have hv100 := congrArg Int32.toInt ev100
      intro v102 ev102
      have f105 := aBx p0 (v98 ^^^ (-1)) (by omega)
      have f103 : Int32.toInt (v100 + (p0 &&& (v98 ^^^ (-1)))) = Int32.toInt v100 + Int32.toInt (p0 &&& (v98 ^^^ (-1))) := aAD _ _ (by omega)
      rw [<- ev102] at f103
      refine And.intro (aBZ (by omega)) ?_
      have f106 := aAw v102.toNatClampNeg
      exact ⟨10, tb_X10_workOf_36 bT aG dO qG oO pJ sH uE oJ xJ vZ aAH xU xV yF yD xZ zY aAw zL hc0 hc1 hpost _ p0 0 (uE v102.toNatClampNeg) 0 0 vK h_p0 (by omega) (by omega) (by omega) (by omega) (by omega)⟩
    · skip
      have c96 := (zJ _ _).mp c96
      exfalso; omega
  · skip
    have c93 := (zJ _ _).mp c93
    have q107 := xU (17 : Int32).toNatClampNeg (by have e9 : (17 : Int32).toNatClampNeg = (Int32.toInt (17 : Int32)).toNat := rfl; omega)
    intro v108 ev108
    have hv108 := congrArg Int32.toInt ev108
    refine And.intro (fun c109 => ?_) (fun c109 => ?_)
    · skip
      have c109 := mt (zJ _ _).mpr c109
      exfalso; omega
    · skip
      have c109 := (zJ _ _).mp c109
      intro v110 ev110
      have f111 := ti_shl8 8 (by omega)
      have hv110 := congrArg Int32.toInt ev110
      intro v112 ev112
      have f113 : Int32.toInt (v110 + p0) = Int32.toInt v110 + Int32.toInt p0 := aAD _ _ (by omega)
      rw [<- ev112] at f113
      refine And.intro (aBZ (by omega)) ?_
      have f114 := aAw v112.toNatClampNeg
      exact ⟨10, tb_X10_workOf_36 bT aG dO qG oO pJ sH uE oJ xJ vZ aAH xU xV yF yD xZ zY aAw zL hc0 hc1 hpost _ p0 0 (uE v112.toNatClampNeg) 0 0 vK h_p0 (by omega) (by omega) (by omega) (by omega) (by omega)⟩
set_option maxHeartbeats 8000000 in
set_option maxRecDepth 200000 in
theorem t_X10_work {post : Int32 -> Int32 -> Int32 -> Nat -> Int32 -> Int32 -> Int32 -> Int32 -> Int32 -> Int32 -> Int32 -> Int32 -> Int32 -> Int32 -> Int32 -> Int32 -> Int32 -> (Nat -> Int32) -> (Nat -> Int32) -> (Nat -> Int32) -> (Nat -> Int32) -> (Nat -> Int32) -> Prop} {SB : Int} {p0 bT aG bL bY : Int32} {jD : Nat} {mLn oF rP dQ bW bZ aR aE bI aW dO bM bQ bO : Int32} {qG m_x gR pW qR nG oO pJ qO sW qQ sH uE oJ vK : Nat -> Int32} (xJ : 0 <= Int32.toInt bT /\ Int32.toInt bT <= 16) (vZ : 0 <= Int32.toInt aG /\ Int32.toInt aG <= 8) (yJ : 0 <= Int32.toInt bL /\ Int32.toInt bL <= 16) (yG : 0 <= Int32.toInt bY /\ Int32.toInt bY <= 1) (yM : jD = 0 \/ jD = 1 \/ jD = 2) (zE : 0 <= Int32.toInt mLn /\ Int32.toInt mLn <= 80) (aAR : 0 <= Int32.toInt oF /\ Int32.toInt oF <= 80) (aA1 : 0 <= Int32.toInt rP /\ Int32.toInt rP <= 80) (aAA : -1 <= Int32.toInt dQ /\ Int32.toInt dQ <= 80) (zQ : 0 <= Int32.toInt bW /\ Int32.toInt bW <= 40) (zT : 0 <= Int32.toInt bZ /\ Int32.toInt bZ <= 0) (yL : 0 <= Int32.toInt aR /\ Int32.toInt aR <= 15) (xQ : 0 <= Int32.toInt aE /\ Int32.toInt aE <= 7) (yY : 0 <= Int32.toInt bI /\ Int32.toInt bI <= 1) (yK : 0 <= Int32.toInt aW /\ Int32.toInt aW <= 63) (aAH : 0 <= Int32.toInt dO /\ Int32.toInt dO <= 65535) (aAv : 0 <= Int32.toInt bM /\ Int32.toInt bM <= 1000000) (xU : ∀ k : Nat, k = 17 -> -1 <= Int32.toInt (qG k) /\ Int32.toInt (qG k) <= SB) (xV : ∀ k : Nat, k = 19 -> 0 <= Int32.toInt (qG k) /\ Int32.toInt (qG k) <= 9) (aAW : ∀ k : Nat, 0 <= Int32.toInt (m_x k) /\ Int32.toInt (m_x k) <= 99) (xK : ∀ k : Nat, 0 <= Int32.toInt (gR k) /\ Int32.toInt (gR k) <= 99) (yR : ∀ k : Nat, 0 <= Int32.toInt (pW k) /\ Int32.toInt (pW k) <= 9) (zM : ∀ k : Nat, 0 <= Int32.toInt (qR k) /\ Int32.toInt (qR k) <= 9) (xT : ∀ k : Nat, 0 <= Int32.toInt (nG k) /\ Int32.toInt (nG k) <= 99) (yF : ∀ k : Nat, 0 <= Int32.toInt (oO k) /\ Int32.toInt (oO k) <= 99) (yD : ∀ k : Nat, k = 4 -> 1 <= Int32.toInt (pJ k) /\ Int32.toInt (pJ k) <= 30) (xZ : ∀ k : Nat, k = 3 -> 0 <= Int32.toInt (pJ k) /\ Int32.toInt (pJ k) <= 9) (zG : ∀ k : Nat, -128 <= Int32.toInt (qO k) /\ Int32.toInt (qO k) <= 127) (zI : ∀ k : Nat, -128 <= Int32.toInt (qQ k) /\ Int32.toInt (qQ k) <= 127) (zY : ∀ k : Nat, 0 <= Int32.toInt (sH k) /\ Int32.toInt (sH k) <= 65535) (aAw : ∀ k : Nat, 0 <= Int32.toInt (uE k) /\ Int32.toInt (uE k) <= 1000000) (zL : ∀ k : Nat, 0 <= Int32.toInt (oJ k) /\ Int32.toInt (oJ k) <= 99) (hc0 : -1 <= SB /\ SB <= 7) (hc1 : (Int32.toInt aG <= 0 /\ SB = 0) \/ (1 <= Int32.toInt aG /\ SB = Int32.toInt aG - 1)) (hpost : ∀ (r : Int32) (xM : Int32) (xG : Int32) (aAP : Nat) (zS : Int32) (aAz : Int32) (aAm : Int32) (zH : Int32) (aAM : Int32) (zP : Int32) (yO : Int32) (zZ : Int32) (zO : Int32) (aAS : Int32) (aB9 : Int32) (aEo : Int32) (aEn : Int32) (aBX : Nat -> Int32) (aA5 : Nat -> Int32) (aCX : Nat -> Int32) (aBR : Nat -> Int32) (aGb : Nat -> Int32), (0 <= Int32.toInt xM /\ Int32.toInt xM <= 16) -> (0 <= Int32.toInt xG /\ Int32.toInt xG <= 0) -> (aAP = 0 \/ aAP = 1 \/ aAP = 2) -> (0 <= Int32.toInt zS /\ Int32.toInt zS <= 80) -> (0 <= Int32.toInt aAz /\ Int32.toInt aAz <= 80) -> (0 <= Int32.toInt aAm /\ Int32.toInt aAm <= 80) -> (-1 <= Int32.toInt zH /\ Int32.toInt zH <= 80) -> (0 <= Int32.toInt aAM /\ Int32.toInt aAM <= 0) -> (0 <= Int32.toInt zP /\ Int32.toInt zP <= 15) -> (0 <= Int32.toInt yO /\ Int32.toInt yO <= 7) -> (0 <= Int32.toInt zZ /\ Int32.toInt zZ <= 1) -> (0 <= Int32.toInt zO /\ Int32.toInt zO <= 63) -> (0 <= Int32.toInt aAS /\ Int32.toInt aAS <= 65535) -> (0 <= Int32.toInt aB9 /\ Int32.toInt aB9 <= 1000000) -> (∀ k : Nat, 0 <= Int32.toInt (aA5 k) /\ Int32.toInt (aA5 k) <= 65535) -> (∀ k : Nat, 0 <= Int32.toInt (aCX k) /\ Int32.toInt (aCX k) <= 1000000) -> (∀ k : Nat, 0 <= Int32.toInt (aBR k) /\ Int32.toInt (aBR k) <= 99) -> post r xM xG aAP zS aAz aAm zH aAM zP yO zZ zO aAS aB9 aEo aEn aBX aA5 aCX aBR aGb) : wp_X10_work post p0 bT aG bL bY jD mLn oF rP dQ bW bZ aR aE bI aW dO bM bQ bO qG m_x gR pW qR nG oO pJ qO sW qQ sH uE oJ vK := by
  have l0 := aE0
  have l1 := aEc
  have l2 := li_18
  intro v1 ev1
  have f2 := aDv 8 256 aG (by decide) (by omega)
  have hv1 := congrArg Int32.toInt ev1
  have f4 := aAT p0
  refine And.intro (fun c3 => ?_) (fun c3 => ?_)
  · skip
    have c3 := (aAd _ _).mp c3
    refine And.intro (fun h9 => absurd h9 (by decide)) (fun _ => ?_)
    exact hpost _ _ _ _ _ _ _ _ _ _ _ _ _ _ _ _ _ _ _ _ _ _ yJ (by omega) yM zE aAR aA1 aAA zT yL xQ yY yK aAH aAv zY aAw zL
  · skip
    have c3 := mt (aAd _ _).mpr c3
    have f6 : Int32.toInt (v1 - 1) = Int32.toInt v1 - Int32.toInt (1 : Int32) := aCA _ _ (by omega)
    refine And.intro (fun c5 => ?_) (fun c5 => ?_)
    · skip
      have c5 := (aAd _ _).mp c5
      refine And.intro (fun h9 => absurd h9 (by decide)) (fun _ => ?_)
      exact hpost _ _ _ _ _ _ _ _ _ _ _ _ _ _ _ _ _ _ _ _ _ _ yJ (by omega) yM zE aAR aA1 aAA zT yL xQ yY yK aAH aAv zY aAw zL
    · skip
      have c5 := mt (aAd _ _).mpr c5
      refine And.intro (fun _ => ?_) (fun h9 => absurd h9 (by decide))
      intro v7 ev7
      have hv7 := congrArg Int32.toInt ev7
      refine aLb xJ vZ aAH xU xV aAW xK zM xT yF yD xZ zY (by omega) (by omega) (fun m_wanted_9 m_hand_10 h_m_wanted_9 h_m_hand_10 => ?_)
      refine t_X10_layMoves vZ xT yD xZ aAw (fun m_moves_11 h_m_moves_11 ox12 => ?_)
      refine t_X10_laySeconds xJ vZ yM zE aAR aA1 aAA zQ zT yL xQ yY yK aAW xK yR xT yF zG zI zL (fun m_read_13 m_length_14 m_top_15 m_at_16 m_wrong_17 m_isAsked_18 m_askedFruit_19 m_askedStanding_20 m_askedHook_21 m_askedApron_22 m_handSeconds_23 h_m_read_13 h_m_length_14 h_m_top_15 h_m_at_16 h_m_wrong_17 h_m_isAsked_18 h_m_askedFruit_19 h_m_askedStanding_20 h_m_askedHook_21 h_m_askedApron_22 h_m_handSeconds_23 => ?_)
      refine t_X10_workOf (by omega) xJ vZ h_m_wanted_9 aAv xU xV yF yD xZ h_m_hand_10 h_m_moves_11 h_m_handSeconds_23 (by omega) (by omega) (fun r28 m_workMoves_24 m_workPicks_25 m_workDowns_26 m_load_27 h_m_workMoves_24 => ?_)
      refine And.intro (aBZ (by omega)) ?_
      intro v29 ev29
      have f30 : Int32.toInt (0 + 1) = Int32.toInt (0 : Int32) + Int32.toInt (1 : Int32) := aAD _ _ (by omega)
      rw [<- ev29] at f30
      refine And.intro (aBZ (by omega)) ?_
      intro v31 ev31
      have f32 : Int32.toInt (v29 + 1) = Int32.toInt v29 + Int32.toInt (1 : Int32) := aAD _ _ (by omega)
      rw [<- ev31] at f32
      refine And.intro (aBZ (by omega)) ?_
      intro v33 ev33
      have f34 : Int32.toInt (v31 + 1) = Int32.toInt v31 + Int32.toInt (1 : Int32) := aAD _ _ (by omega)
      rw [<- ev33] at f34
      exact hpost _ _ _ _ _ _ _ _ _ _ _ _ _ _ _ _ _ _ _ _ _ _ (by omega) (by omega) h_m_read_13 h_m_length_14 h_m_top_15 h_m_at_16 h_m_wrong_17 h_m_isAsked_18 h_m_askedFruit_19 h_m_askedStanding_20 h_m_askedHook_21 h_m_askedApron_22 h_m_wanted_9 h_m_workMoves_24 h_m_hand_10 h_m_moves_11 h_m_handSeconds_23
set_option maxHeartbeats 8000000 in
set_option maxRecDepth 200000 in
theorem ts_X10_soonest_89 {post : Int32 -> Int32 -> Int32 -> Nat -> Int32 -> Int32 -> Int32 -> Int32 -> Int32 -> Int32 -> Int32 -> Int32 -> Int32 -> Int32 -> Int32 -> Int32 -> Int32 -> (Nat -> Int32) -> (Nat -> Int32) -> (Nat -> Int32) -> (Nat -> Int32) -> (Nat -> Int32) -> Prop} {SB : Int} {K25 : Int32 -> Int32 -> Int32 -> Int32 -> Int32 -> Nat -> Int32 -> Int32 -> Int32 -> Int32 -> Int32 -> Int32 -> Int32 -> Int32 -> Int32 -> Int32 -> Int32 -> Int32 -> Int32 -> (Nat -> Int32) -> (Nat -> Int32) -> (Nat -> Int32) -> (Nat -> Int32) -> (Nat -> Int32) -> Prop} {n25 : Int} (bT aG bW : Int32) (qG m_x gR pW qR nG oO pJ qO qQ : Nat -> Int32) (xJ : 0 <= Int32.toInt bT /\ Int32.toInt bT <= 16) (vZ : 0 <= Int32.toInt aG /\ Int32.toInt aG <= 8) (zQ : 0 <= Int32.toInt bW /\ Int32.toInt bW <= 40) (xU : ∀ k : Nat, k = 17 -> -1 <= Int32.toInt (qG k) /\ Int32.toInt (qG k) <= SB) (xV : ∀ k : Nat, k = 19 -> 0 <= Int32.toInt (qG k) /\ Int32.toInt (qG k) <= 9) (aAW : ∀ k : Nat, 0 <= Int32.toInt (m_x k) /\ Int32.toInt (m_x k) <= 99) (xK : ∀ k : Nat, 0 <= Int32.toInt (gR k) /\ Int32.toInt (gR k) <= 99) (yR : ∀ k : Nat, 0 <= Int32.toInt (pW k) /\ Int32.toInt (pW k) <= 9) (zM : ∀ k : Nat, 0 <= Int32.toInt (qR k) /\ Int32.toInt (qR k) <= 9) (xT : ∀ k : Nat, 0 <= Int32.toInt (nG k) /\ Int32.toInt (nG k) <= 99) (yF : ∀ k : Nat, 0 <= Int32.toInt (oO k) /\ Int32.toInt (oO k) <= 99) (yD : ∀ k : Nat, k = 4 -> 1 <= Int32.toInt (pJ k) /\ Int32.toInt (pJ k) <= 30) (xZ : ∀ k : Nat, k = 3 -> 0 <= Int32.toInt (pJ k) /\ Int32.toInt (pJ k) <= 9) (zG : ∀ k : Nat, -128 <= Int32.toInt (qO k) /\ Int32.toInt (qO k) <= 127) (zI : ∀ k : Nat, -128 <= Int32.toInt (qQ k) /\ Int32.toInt (qQ k) <= 127) (hc0 : -1 <= SB /\ SB <= 7) (hc1 : (Int32.toInt aG <= 0 /\ SB = 0) \/ (1 <= Int32.toInt aG /\ SB = Int32.toInt aG - 1)) (hpost : ∀ (r : Int32) (xM : Int32) (xG : Int32) (aAP : Nat) (zS : Int32) (aAz : Int32) (aAm : Int32) (zH : Int32) (aAM : Int32) (zP : Int32) (yO : Int32) (zZ : Int32) (zO : Int32) (aAS : Int32) (aB9 : Int32) (aEo : Int32) (aEn : Int32) (aBX : Nat -> Int32) (aA5 : Nat -> Int32) (aCX : Nat -> Int32) (aBR : Nat -> Int32) (aGb : Nat -> Int32), (-2147483648 <= Int32.toInt r /\ Int32.toInt r <= 1000000) -> (1 <= Int32.toInt xM /\ Int32.toInt xM <= 1) -> (0 <= Int32.toInt xG /\ Int32.toInt xG <= 0) -> (aAP = 0 \/ aAP = 1 \/ aAP = 2) -> (0 <= Int32.toInt zS /\ Int32.toInt zS <= 80) -> (0 <= Int32.toInt aAz /\ Int32.toInt aAz <= 80) -> (0 <= Int32.toInt aAm /\ Int32.toInt aAm <= 80) -> (-1 <= Int32.toInt zH /\ Int32.toInt zH <= 80) -> (0 <= Int32.toInt aAM /\ Int32.toInt aAM <= 0) -> (0 <= Int32.toInt zP /\ Int32.toInt zP <= 15) -> (0 <= Int32.toInt yO /\ Int32.toInt yO <= 7) -> (0 <= Int32.toInt zZ /\ Int32.toInt zZ <= 1) -> (0 <= Int32.toInt zO /\ Int32.toInt zO <= 63) -> (0 <= Int32.toInt aAS /\ Int32.toInt aAS <= 65535) -> (0 <= Int32.toInt aB9 /\ Int32.toInt aB9 <= 1000000) -> (∀ k : Nat, 0 <= Int32.toInt (aA5 k) /\ Int32.toInt (aA5 k) <= 65535) -> (∀ k : Nat, 0 <= Int32.toInt (aCX k) /\ Int32.toInt (aCX k) <= 1000000) -> (∀ k : Nat, 0 <= Int32.toInt (aBR k) /\ Int32.toInt (aBR k) <= 99) -> post r xM xG aAP zS aAz aAm zH aAM zP yO zZ zO aAS aB9 aEo aEn aBX aA5 aCX aBR aGb) (hK25 : ∀ (x1 : Int32) (x2 : Int32) (x3 : Int32) (bL : Int32) (bY : Int32) (jD : Nat) (mLn : Int32) (oF : Int32) (rP : Int32) (dQ : Int32) (bZ : Int32) (aR : Int32) (aE : Int32) (bI : Int32) (aW : Int32) (dO : Int32) (bM : Int32) (bQ : Int32) (bO : Int32) (sW : Nat -> Int32) (sH : Nat -> Int32) (uE : Nat -> Int32) (oJ : Nat -> Int32) (vK : Nat -> Int32), (-1 <= Int32.toInt x1 /\ Int32.toInt x1 <= 255) -> (-2147483648 <= Int32.toInt x2 /\ Int32.toInt x2 <= 1000000) -> (0 <= Int32.toInt x3 /\ Int32.toInt x3 <= 256) -> (0 <= Int32.toInt bL /\ Int32.toInt bL <= 16) -> (0 <= Int32.toInt bY /\ Int32.toInt bY <= 0) -> (jD = 0 \/ jD = 1 \/ jD = 2) -> (0 <= Int32.toInt mLn /\ Int32.toInt mLn <= 80) -> (0 <= Int32.toInt oF /\ Int32.toInt oF <= 80) -> (0 <= Int32.toInt rP /\ Int32.toInt rP <= 80) -> (-1 <= Int32.toInt dQ /\ Int32.toInt dQ <= 80) -> (0 <= Int32.toInt bZ /\ Int32.toInt bZ <= 0) -> (0 <= Int32.toInt aR /\ Int32.toInt aR <= 15) -> (0 <= Int32.toInt aE /\ Int32.toInt aE <= 7) -> (0 <= Int32.toInt bI /\ Int32.toInt bI <= 1) -> (0 <= Int32.toInt aW /\ Int32.toInt aW <= 63) -> (0 <= Int32.toInt dO /\ Int32.toInt dO <= 65535) -> (0 <= Int32.toInt bM /\ Int32.toInt bM <= 1000000) -> (∀ k : Nat, 0 <= Int32.toInt (sH k) /\ Int32.toInt (sH k) <= 65535) -> (∀ k : Nat, 0 <= Int32.toInt (uE k) /\ Int32.toInt (uE k) <= 1000000) -> (∀ k : Nat, 0 <= Int32.toInt (oJ k) /\ Int32.toInt (oJ k) <= 99) -> (256 - Int32.toInt x3 < n25) -> K25 x1 x2 x3 bL bY jD mLn oF rP dQ bZ aR aE bI aW dO bM bQ bO sW sH uE oJ vK) (x1 x2 x3 bL bY : Int32) (jD : Nat) (mLn oF rP dQ bZ aR aE bI aW dO bM bQ bO : Int32) (sW sH uE oJ vK : Nat -> Int32) (aBK : -1 <= Int32.toInt x1 /\ Int32.toInt x1 <= 255) (aBN : -2147483648 <= Int32.toInt x2 /\ Int32.toInt x2 <= 1000000) (aCH : 0 <= Int32.toInt x3 /\ Int32.toInt x3 <= 255) (yJ : 0 <= Int32.toInt bL /\ Int32.toInt bL <= 16) (yG : 0 <= Int32.toInt bY /\ Int32.toInt bY <= 0) (yM : jD = 0 \/ jD = 1 \/ jD = 2) (zE : 0 <= Int32.toInt mLn /\ Int32.toInt mLn <= 80) (aAR : 0 <= Int32.toInt oF /\ Int32.toInt oF <= 80) (aA1 : 0 <= Int32.toInt rP /\ Int32.toInt rP <= 80) (aAA : -1 <= Int32.toInt dQ /\ Int32.toInt dQ <= 80) (zT : 0 <= Int32.toInt bZ /\ Int32.toInt bZ <= 0) (yL : 0 <= Int32.toInt aR /\ Int32.toInt aR <= 15) (xQ : 0 <= Int32.toInt aE /\ Int32.toInt aE <= 7) (yY : 0 <= Int32.toInt bI /\ Int32.toInt bI <= 1) (yK : 0 <= Int32.toInt aW /\ Int32.toInt aW <= 63) (aAH : 0 <= Int32.toInt dO /\ Int32.toInt dO <= 65535) (aAv : 0 <= Int32.toInt bM /\ Int32.toInt bM <= 1000000) (zY : ∀ k : Nat, 0 <= Int32.toInt (sH k) /\ Int32.toInt (sH k) <= 65535) (aAw : ∀ k : Nat, 0 <= Int32.toInt (uE k) /\ Int32.toInt (uE k) <= 1000000) (zL : ∀ k : Nat, 0 <= Int32.toInt (oJ k) /\ Int32.toInt (oJ k) <= 99) (hn25 : 256 - Int32.toInt x3 <= n25) : ws_X10_soonest_89 post K25 bT aG bW qG m_x gR pW qR nG oO pJ qO qQ x1 x2 x3 bL bY jD mLn oF rP dQ bZ aR aE bI aW dO bM bQ bO sW sH uE oJ vK := by
  have l0 := aEc
  intro v1 ev1
  have f2 : Int32.toInt (x3 + 1) = Int32.toInt x3 + Int32.toInt (1 : Int32) := aAD _ _ (by omega)
  rw [<- ev1] at f2
  have f3 := aAT x2
  have f4 := aAT bQ
  have f5 := aAT bO
  exact hK25 x1 x2 v1 bL bY jD mLn oF rP dQ bZ aR aE bI aW dO bM bQ bO sW sH uE oJ vK aBK aBN (by omega) yJ yG yM zE aAR aA1 aAA zT yL xQ yY yK aAH aAv zY aAw zL (by omega)
set_option maxHeartbeats 8000000 in
set_option maxRecDepth 200000 in
theorem ts_X10_soonest_84 {post : Int32 -> Int32 -> Int32 -> Nat -> Int32 -> Int32 -> Int32 -> Int32 -> Int32 -> Int32 -> Int32 -> Int32 -> Int32 -> Int32 -> Int32 -> Int32 -> Int32 -> (Nat -> Int32) -> (Nat -> Int32) -> (Nat -> Int32) -> (Nat -> Int32) -> (Nat -> Int32) -> Prop} {SB : Int} {K25 : Int32 -> Int32 -> Int32 -> Int32 -> Int32 -> Nat -> Int32 -> Int32 -> Int32 -> Int32 -> Int32 -> Int32 -> Int32 -> Int32 -> Int32 -> Int32 -> Int32 -> Int32 -> Int32 -> (Nat -> Int32) -> (Nat -> Int32) -> (Nat -> Int32) -> (Nat -> Int32) -> (Nat -> Int32) -> Prop} {n25 : Int} (bT aG bW : Int32) (qG m_x gR pW qR nG oO pJ qO qQ : Nat -> Int32) (xJ : 0 <= Int32.toInt bT /\ Int32.toInt bT <= 16) (vZ : 0 <= Int32.toInt aG /\ Int32.toInt aG <= 8) (zQ : 0 <= Int32.toInt bW /\ Int32.toInt bW <= 40) (xU : ∀ k : Nat, k = 17 -> -1 <= Int32.toInt (qG k) /\ Int32.toInt (qG k) <= SB) (xV : ∀ k : Nat, k = 19 -> 0 <= Int32.toInt (qG k) /\ Int32.toInt (qG k) <= 9) (aAW : ∀ k : Nat, 0 <= Int32.toInt (m_x k) /\ Int32.toInt (m_x k) <= 99) (xK : ∀ k : Nat, 0 <= Int32.toInt (gR k) /\ Int32.toInt (gR k) <= 99) (yR : ∀ k : Nat, 0 <= Int32.toInt (pW k) /\ Int32.toInt (pW k) <= 9) (zM : ∀ k : Nat, 0 <= Int32.toInt (qR k) /\ Int32.toInt (qR k) <= 9) (xT : ∀ k : Nat, 0 <= Int32.toInt (nG k) /\ Int32.toInt (nG k) <= 99) (yF : ∀ k : Nat, 0 <= Int32.toInt (oO k) /\ Int32.toInt (oO k) <= 99) (yD : ∀ k : Nat, k = 4 -> 1 <= Int32.toInt (pJ k) /\ Int32.toInt (pJ k) <= 30) (xZ : ∀ k : Nat, k = 3 -> 0 <= Int32.toInt (pJ k) /\ Int32.toInt (pJ k) <= 9) (zG : ∀ k : Nat, -128 <= Int32.toInt (qO k) /\ Int32.toInt (qO k) <= 127) (zI : ∀ k : Nat, -128 <= Int32.toInt (qQ k) /\ Int32.toInt (qQ k) <= 127) (hc0 : -1 <= SB /\ SB <= 7) (hc1 : (Int32.toInt aG <= 0 /\ SB = 0) \/ (1 <= Int32.toInt aG /\ SB = Int32.toInt aG - 1)) (hpost : ∀ (r : Int32) (xM : Int32) (xG : Int32) (aAP : Nat) (zS : Int32) (aAz : Int32) (aAm : Int32) (zH : Int32) (aAM : Int32) (zP : Int32) (yO : Int32) (zZ : Int32) (zO : Int32) (aAS : Int32) (aB9 : Int32) (aEo : Int32) (aEn : Int32) (aBX : Nat -> Int32) (aA5 : Nat -> Int32) (aCX : Nat -> Int32) (aBR : Nat -> Int32) (aGb : Nat -> Int32), (-2147483648 <= Int32.toInt r /\ Int32.toInt r <= 1000000) -> (1 <= Int32.toInt xM /\ Int32.toInt xM <= 1) -> (0 <= Int32.toInt xG /\ Int32.toInt xG <= 0) -> (aAP = 0 \/ aAP = 1 \/ aAP = 2) -> (0 <= Int32.toInt zS /\ Int32.toInt zS <= 80) -> (0 <= Int32.toInt aAz /\ Int32.toInt aAz <= 80) -> (0 <= Int32.toInt aAm /\ Int32.toInt aAm <= 80) -> (-1 <= Int32.toInt zH /\ Int32.toInt zH <= 80) -> (0 <= Int32.toInt aAM /\ Int32.toInt aAM <= 0) -> (0 <= Int32.toInt zP /\ Int32.toInt zP <= 15) -> (0 <= Int32.toInt yO /\ Int32.toInt yO <= 7) -> (0 <= Int32.toInt zZ /\ Int32.toInt zZ <= 1) -> (0 <= Int32.toInt zO /\ Int32.toInt zO <= 63) -> (0 <= Int32.toInt aAS /\ Int32.toInt aAS <= 65535) -> (0 <= Int32.toInt aB9 /\ Int32.toInt aB9 <= 1000000) -> (∀ k : Nat, 0 <= Int32.toInt (aA5 k) /\ Int32.toInt (aA5 k) <= 65535) -> (∀ k : Nat, 0 <= Int32.toInt (aCX k) /\ Int32.toInt (aCX k) <= 1000000) -> (∀ k : Nat, 0 <= Int32.toInt (aBR k) /\ Int32.toInt (aBR k) <= 99) -> post r xM xG aAP zS aAz aAm zH aAM zP yO zZ zO aAS aB9 aEo aEn aBX aA5 aCX aBR aGb) (hK25 : ∀ (x1 : Int32) (x2 : Int32) (x3 : Int32) (bL : Int32) (bY : Int32) (jD : Nat) (mLn : Int32) (oF : Int32) (rP : Int32) (dQ : Int32) (bZ : Int32) (aR : Int32) (aE : Int32) (bI : Int32) (aW : Int32) (dO : Int32) (bM : Int32) (bQ : Int32) (bO : Int32) (sW : Nat -> Int32) (sH : Nat -> Int32) (uE : Nat -> Int32) (oJ : Nat -> Int32) (vK : Nat -> Int32), (-1 <= Int32.toInt x1 /\ Int32.toInt x1 <= 255) -> (-2147483648 <= Int32.toInt x2 /\ Int32.toInt x2 <= 1000000) -> (0 <= Int32.toInt x3 /\ Int32.toInt x3 <= 256) -> (0 <= Int32.toInt bL /\ Int32.toInt bL <= 16) -> (0 <= Int32.toInt bY /\ Int32.toInt bY <= 0) -> (jD = 0 \/ jD = 1 \/ jD = 2) -> (0 <= Int32.toInt mLn /\ Int32.toInt mLn <= 80) -> (0 <= Int32.toInt oF /\ Int32.toInt oF <= 80) -> (0 <= Int32.toInt rP /\ Int32.toInt rP <= 80) -> (-1 <= Int32.toInt dQ /\ Int32.toInt dQ <= 80) -> (0 <= Int32.toInt bZ /\ Int32.toInt bZ <= 0) -> (0 <= Int32.toInt aR /\ Int32.toInt aR <= 15) -> (0 <= Int32.toInt aE /\ Int32.toInt aE <= 7) -> (0 <= Int32.toInt bI /\ Int32.toInt bI <= 1) -> (0 <= Int32.toInt aW /\ Int32.toInt aW <= 63) -> (0 <= Int32.toInt dO /\ Int32.toInt dO <= 65535) -> (0 <= Int32.toInt bM /\ Int32.toInt bM <= 1000000) -> (∀ k : Nat, 0 <= Int32.toInt (sH k) /\ Int32.toInt (sH k) <= 65535) -> (∀ k : Nat, 0 <= Int32.toInt (uE k) /\ Int32.toInt (uE k) <= 1000000) -> (∀ k : Nat, 0 <= Int32.toInt (oJ k) /\ Int32.toInt (oJ k) <= 99) -> (256 - Int32.toInt x3 < n25) -> K25 x1 x2 x3 bL bY jD mLn oF rP dQ bZ aR aE bI aW dO bM bQ bO sW sH uE oJ vK) (x3 x4 bL bY : Int32) (jD : Nat) (mLn oF rP dQ bZ aR aE bI aW dO bM bQ bO : Int32) (sW sH uE oJ vK : Nat -> Int32) (aCH : 0 <= Int32.toInt x3 /\ Int32.toInt x3 <= 255) (aDO : -2147483648 <= Int32.toInt x4 /\ Int32.toInt x4 <= 1000000) (yJ : 0 <= Int32.toInt bL /\ Int32.toInt bL <= 16) (yG : 0 <= Int32.toInt bY /\ Int32.toInt bY <= 0) (yM : jD = 0 \/ jD = 1 \/ jD = 2) (zE : 0 <= Int32.toInt mLn /\ Int32.toInt mLn <= 80) (aAR : 0 <= Int32.toInt oF /\ Int32.toInt oF <= 80) (aA1 : 0 <= Int32.toInt rP /\ Int32.toInt rP <= 80) (aAA : -1 <= Int32.toInt dQ /\ Int32.toInt dQ <= 80) (zT : 0 <= Int32.toInt bZ /\ Int32.toInt bZ <= 0) (yL : 0 <= Int32.toInt aR /\ Int32.toInt aR <= 15) (xQ : 0 <= Int32.toInt aE /\ Int32.toInt aE <= 7) (yY : 0 <= Int32.toInt bI /\ Int32.toInt bI <= 1) (yK : 0 <= Int32.toInt aW /\ Int32.toInt aW <= 63) (aAH : 0 <= Int32.toInt dO /\ Int32.toInt dO <= 65535) (aAv : 0 <= Int32.toInt bM /\ Int32.toInt bM <= 1000000) (zY : ∀ k : Nat, 0 <= Int32.toInt (sH k) /\ Int32.toInt (sH k) <= 65535) (aAw : ∀ k : Nat, 0 <= Int32.toInt (uE k) /\ Int32.toInt (uE k) <= 1000000) (zL : ∀ k : Nat, 0 <= Int32.toInt (oJ k) /\ Int32.toInt (oJ k) <= 99) (hn25 : 256 - Int32.toInt x3 <= n25) : ws_X10_soonest_84 post K25 bT aG bW qG m_x gR pW qR nG oO pJ qO qQ x3 x4 bL bY jD mLn oF rP dQ bZ aR aE bI aW dO bM bQ bO sW sH uE oJ vK := by
  have f6 := aAT x4
  have f7 := aAT bQ
  have f8 := aAT bO
  exact ts_X10_soonest_89 bT aG bW qG m_x gR pW qR nG oO pJ qO qQ xJ vZ zQ xU xV aAW xK yR zM xT yF yD xZ zG zI hc0 hc1 hpost hK25 x3 x4 x3 bL bY jD mLn oF rP dQ bZ aR aE bI aW dO bM bQ bO sW sH uE oJ vK (by omega) aDO aCH yJ yG yM zE aAR aA1 aAA zT yL xQ yY yK aAH aAv zY aAw zL hn25
set_option maxHeartbeats 8000000 in
set_option maxRecDepth 200000 in
theorem ts_X10_soonest_25 {post : Int32 -> Int32 -> Int32 -> Nat -> Int32 -> Int32 -> Int32 -> Int32 -> Int32 -> Int32 -> Int32 -> Int32 -> Int32 -> Int32 -> Int32 -> Int32 -> Int32 -> (Nat -> Int32) -> (Nat -> Int32) -> (Nat -> Int32) -> (Nat -> Int32) -> (Nat -> Int32) -> Prop} {SB : Int} {next : Int32 -> Int32 -> Int32 -> Int32 -> Int32 -> Nat -> Int32 -> Int32 -> Int32 -> Int32 -> Int32 -> Int32 -> Int32 -> Int32 -> Int32 -> Int32 -> Int32 -> Int32 -> Int32 -> (Nat -> Int32) -> (Nat -> Int32) -> (Nat -> Int32) -> (Nat -> Int32) -> (Nat -> Int32) -> Prop} {n25 : Int} (bT aG bW : Int32) (qG m_x gR pW qR nG oO pJ qO qQ : Nat -> Int32) (xJ : 0 <= Int32.toInt bT /\ Int32.toInt bT <= 16) (vZ : 0 <= Int32.toInt aG /\ Int32.toInt aG <= 8) (zQ : 0 <= Int32.toInt bW /\ Int32.toInt bW <= 40) (xU : ∀ k : Nat, k = 17 -> -1 <= Int32.toInt (qG k) /\ Int32.toInt (qG k) <= SB) (xV : ∀ k : Nat, k = 19 -> 0 <= Int32.toInt (qG k) /\ Int32.toInt (qG k) <= 9) (aAW : ∀ k : Nat, 0 <= Int32.toInt (m_x k) /\ Int32.toInt (m_x k) <= 99) (xK : ∀ k : Nat, 0 <= Int32.toInt (gR k) /\ Int32.toInt (gR k) <= 99) (yR : ∀ k : Nat, 0 <= Int32.toInt (pW k) /\ Int32.toInt (pW k) <= 9) (zM : ∀ k : Nat, 0 <= Int32.toInt (qR k) /\ Int32.toInt (qR k) <= 9) (xT : ∀ k : Nat, 0 <= Int32.toInt (nG k) /\ Int32.toInt (nG k) <= 99) (yF : ∀ k : Nat, 0 <= Int32.toInt (oO k) /\ Int32.toInt (oO k) <= 99) (yD : ∀ k : Nat, k = 4 -> 1 <= Int32.toInt (pJ k) /\ Int32.toInt (pJ k) <= 30) (xZ : ∀ k : Nat, k = 3 -> 0 <= Int32.toInt (pJ k) /\ Int32.toInt (pJ k) <= 9) (zG : ∀ k : Nat, -128 <= Int32.toInt (qO k) /\ Int32.toInt (qO k) <= 127) (zI : ∀ k : Nat, -128 <= Int32.toInt (qQ k) /\ Int32.toInt (qQ k) <= 127) (hc0 : -1 <= SB /\ SB <= 7) (hc1 : (Int32.toInt aG <= 0 /\ SB = 0) \/ (1 <= Int32.toInt aG /\ SB = Int32.toInt aG - 1)) (hpost : ∀ (r : Int32) (xM : Int32) (xG : Int32) (aAP : Nat) (zS : Int32) (aAz : Int32) (aAm : Int32) (zH : Int32) (aAM : Int32) (zP : Int32) (yO : Int32) (zZ : Int32) (zO : Int32) (aAS : Int32) (aB9 : Int32) (aEo : Int32) (aEn : Int32) (aBX : Nat -> Int32) (aA5 : Nat -> Int32) (aCX : Nat -> Int32) (aBR : Nat -> Int32) (aGb : Nat -> Int32), (-2147483648 <= Int32.toInt r /\ Int32.toInt r <= 1000000) -> (1 <= Int32.toInt xM /\ Int32.toInt xM <= 1) -> (0 <= Int32.toInt xG /\ Int32.toInt xG <= 0) -> (aAP = 0 \/ aAP = 1 \/ aAP = 2) -> (0 <= Int32.toInt zS /\ Int32.toInt zS <= 80) -> (0 <= Int32.toInt aAz /\ Int32.toInt aAz <= 80) -> (0 <= Int32.toInt aAm /\ Int32.toInt aAm <= 80) -> (-1 <= Int32.toInt zH /\ Int32.toInt zH <= 80) -> (0 <= Int32.toInt aAM /\ Int32.toInt aAM <= 0) -> (0 <= Int32.toInt zP /\ Int32.toInt zP <= 15) -> (0 <= Int32.toInt yO /\ Int32.toInt yO <= 7) -> (0 <= Int32.toInt zZ /\ Int32.toInt zZ <= 1) -> (0 <= Int32.toInt zO /\ Int32.toInt zO <= 63) -> (0 <= Int32.toInt aAS /\ Int32.toInt aAS <= 65535) -> (0 <= Int32.toInt aB9 /\ Int32.toInt aB9 <= 1000000) -> (∀ k : Nat, 0 <= Int32.toInt (aA5 k) /\ Int32.toInt (aA5 k) <= 65535) -> (∀ k : Nat, 0 <= Int32.toInt (aCX k) /\ Int32.toInt (aCX k) <= 1000000) -> (∀ k : Nat, 0 <= Int32.toInt (aBR k) /\ Int32.toInt (aBR k) <= 99) -> post r xM xG aAP zS aAz aAm zH aAM zP yO zZ zO aAS aB9 aEo aEn aBX aA5 aCX aBR aGb) (hKn : ∀ (x1 : Int32) (x2 : Int32) (x3 : Int32) (bL : Int32) (bY : Int32) (jD : Nat) (mLn : Int32) (oF : Int32) (rP : Int32) (dQ : Int32) (bZ : Int32) (aR : Int32) (aE : Int32) (bI : Int32) (aW : Int32) (dO : Int32) (bM : Int32) (bQ : Int32) (bO : Int32) (sW : Nat -> Int32) (sH : Nat -> Int32) (uE : Nat -> Int32) (oJ : Nat -> Int32) (vK : Nat -> Int32), (-1 <= Int32.toInt x1 /\ Int32.toInt x1 <= 255) -> (-2147483648 <= Int32.toInt x2 /\ Int32.toInt x2 <= 1000000) -> (0 <= Int32.toInt x3 /\ Int32.toInt x3 <= 256) -> (0 <= Int32.toInt bL /\ Int32.toInt bL <= 16) -> (0 <= Int32.toInt bY /\ Int32.toInt bY <= 0) -> (jD = 0 \/ jD = 1 \/ jD = 2) -> (0 <= Int32.toInt mLn /\ Int32.toInt mLn <= 80) -> (0 <= Int32.toInt oF /\ Int32.toInt oF <= 80) -> (0 <= Int32.toInt rP /\ Int32.toInt rP <= 80) -> (-1 <= Int32.toInt dQ /\ Int32.toInt dQ <= 80) -> (0 <= Int32.toInt bZ /\ Int32.toInt bZ <= 0) -> (0 <= Int32.toInt aR /\ Int32.toInt aR <= 15) -> (0 <= Int32.toInt aE /\ Int32.toInt aE <= 7) -> (0 <= Int32.toInt bI /\ Int32.toInt bI <= 1) -> (0 <= Int32.toInt aW /\ Int32.toInt aW <= 63) -> (0 <= Int32.toInt dO /\ Int32.toInt dO <= 65535) -> (0 <= Int32.toInt bM /\ Int32.toInt bM <= 1000000) -> (∀ k : Nat, 0 <= Int32.toInt (sH k) /\ Int32.toInt (sH k) <= 65535) -> (∀ k : Nat, 0 <= Int32.toInt (uE k) /\ Int32.toInt (uE k) <= 1000000) -> (∀ k : Nat, 0 <= Int32.toInt (oJ k) /\ Int32.toInt (oJ k) <= 99) -> (256 - Int32.toInt x3 < n25) -> next x1 x2 x3 bL bY jD mLn oF rP dQ bZ aR aE bI aW dO bM bQ bO sW sH uE oJ vK) (x1 x2 x3 bL bY : Int32) (jD : Nat) (mLn oF rP dQ bZ aR aE bI aW dO bM bQ bO : Int32) (sW sH uE oJ vK : Nat -> Int32) (aBK : -1 <= Int32.toInt x1 /\ Int32.toInt x1 <= 255) (aBN : -2147483648 <= Int32.toInt x2 /\ Int32.toInt x2 <= 1000000) (aCH : 0 <= Int32.toInt x3 /\ Int32.toInt x3 <= 256) (yJ : 0 <= Int32.toInt bL /\ Int32.toInt bL <= 16) (yG : 0 <= Int32.toInt bY /\ Int32.toInt bY <= 0) (yM : jD = 0 \/ jD = 1 \/ jD = 2) (zE : 0 <= Int32.toInt mLn /\ Int32.toInt mLn <= 80) (aAR : 0 <= Int32.toInt oF /\ Int32.toInt oF <= 80) (aA1 : 0 <= Int32.toInt rP /\ Int32.toInt rP <= 80) (aAA : -1 <= Int32.toInt dQ /\ Int32.toInt dQ <= 80) (zT : 0 <= Int32.toInt bZ /\ Int32.toInt bZ <= 0) (yL : 0 <= Int32.toInt aR /\ Int32.toInt aR <= 15) (xQ : 0 <= Int32.toInt aE /\ Int32.toInt aE <= 7) (yY : 0 <= Int32.toInt bI /\ Int32.toInt bI <= 1) (yK : 0 <= Int32.toInt aW /\ Int32.toInt aW <= 63) (aAH : 0 <= Int32.toInt dO /\ Int32.toInt dO <= 65535) (aAv : 0 <= Int32.toInt bM /\ Int32.toInt bM <= 1000000) (zY : ∀ k : Nat, 0 <= Int32.toInt (sH k) /\ Int32.toInt (sH k) <= 65535) (aAw : ∀ k : Nat, 0 <= Int32.toInt (uE k) /\ Int32.toInt (uE k) <= 1000000) (zL : ∀ k : Nat, 0 <= Int32.toInt (oJ k) /\ Int32.toInt (oJ k) <= 99) (hn25 : 256 - Int32.toInt x3 <= n25) : ws_X10_soonest_25 post next bT aG bW qG m_x gR pW qR nG oO pJ qO qQ x1 x2 x3 bL bY jD mLn oF rP dQ bZ aR aE bI aW dO bM bQ bO sW sH uE oJ vK := by
  have l0 := aE0
  have l1 := aEc
  have l2 := aKH
  have l3 := aJ8
  have l4 := li_63
  have l5 := aJ9
  intro v9 ev9
  have f10 := aDv 8 256 aG (by decide) (by omega)
  have hv9 := congrArg Int32.toInt ev9
  have f12 : Int32.toInt (v9 - 1) = Int32.toInt v9 - Int32.toInt (1 : Int32) := aCA _ _ (by omega)
  refine And.intro (fun c11 => ?_) (fun c11 => ?_)
  · skip
    have c11 := (aAd _ _).mp c11
    refine And.intro (aBZ (by omega)) ?_
    intro v13 ev13
    have f14 : Int32.toInt (0 + 1) = Int32.toInt (0 : Int32) + Int32.toInt (1 : Int32) := aAD _ _ (by omega)
    rw [<- ev13] at f14
    have f15 := aAT x2
    exact hpost _ _ _ _ _ _ _ _ _ _ _ _ _ _ _ _ _ _ _ _ _ _ aBN (by omega) yG yM zE aAR aA1 aAA zT yL xQ yY yK aAH aAv zY aAw zL
  · skip
    have c11 := mt (aAd _ _).mpr c11
    refine aSL (by omega) vZ zY (fun r16 h_r16 => ?_)
    have f19 := aBx dO (r16 ^^^ (-1)) (by omega)
    refine And.intro (fun c17 => ?_) (fun c17 => ?_)
    · skip
      have c17Z := c17
      have c17 := (zJ _ _).mp c17
      have s20 := ti_subset dO r16 (c17Z) (by omega)
      refine t_X10_workOf (by omega) xJ vZ aAH aAv xU xV yF yD xZ zY aAw zL (by omega) (by omega) (fun r25 m_workMoves_21 m_workPicks_22 m_workDowns_23 m_load_24 h_m_workMoves_21 => ?_)
      have f27 := aAT r25
      have f28 := aAT x2
      refine And.intro (fun c26 => ?_) (fun c26 => ?_)
      · skip
        have c26 := (aAd _ _).mp c26
        have f29 := aAT m_workPicks_22
        have f30 := aAT m_workDowns_23
        exact ts_X10_soonest_89 bT aG bW qG m_x gR pW qR nG oO pJ qO qQ xJ vZ zQ xU xV aAW xK yR zM xT yF yD xZ zG zI hc0 hc1 hpost hKn x1 x2 x3 bL bY jD mLn oF rP dQ bZ aR aE bI aW dO m_workMoves_21 m_workPicks_22 m_workDowns_23 sW sH uE oJ m_load_24 aBK aBN (by omega) yJ yG yM zE aAR aA1 aAA zT yL xQ yY yK aAH h_m_workMoves_21 zY aAw zL hn25
      · skip
        have c26 := mt (aAd _ _).mpr c26
        refine And.intro (fun c31 => ?_) (fun c31 => ?_)
        · skip
          have c31 := mt (zJ _ _).mpr c31
          have f32 := aAT m_workPicks_22
          have f33 := aAT m_workDowns_23
          exact ts_X10_soonest_84 bT aG bW qG m_x gR pW qR nG oO pJ qO qQ xJ vZ zQ xU xV aAW xK yR zM xT yF yD xZ zG zI hc0 hc1 hpost hKn x3 r25 bL bY jD mLn oF rP dQ bZ aR aE bI aW dO m_workMoves_21 m_workPicks_22 m_workDowns_23 sW sH uE oJ m_load_24 (by omega) (by omega) yJ yG yM zE aAR aA1 aAA zT yL xQ yY yK aAH h_m_workMoves_21 zY aAw zL hn25
        · skip
          have c31 := (zJ _ _).mp c31
          intro v34 ev34
          intro v35 ev35
          have f37 := aAQ v34 1431655765 (by omega)
          have f36 : Int32.toInt (x3 - (v34 &&& 1431655765)) = Int32.toInt x3 - Int32.toInt (v34 &&& 1431655765) := aCA _ _ (by omega)
          rw [<- ev35] at f36
          intro v38 ev38
          have f39 := aAQ v35 858993459 (by omega)
          have hv38 := congrArg Int32.toInt ev38
          intro v40 ev40
          intro v41 ev41
          have f43 := aAQ v40 858993459 (by omega)
          have f42 : Int32.toInt (v38 + (v40 &&& 858993459)) = Int32.toInt v38 + Int32.toInt (v40 &&& 858993459) := aAD _ _ (by omega)
          rw [<- ev41] at f42
          intro v44 ev44
          have hv44 := congrArg Int32.toInt ev44
          intro v46 ev46
          have f47 := aAQ v44 252645135 (by omega)
          have hv46 := congrArg Int32.toInt ev46
          intro v48 ev48
          have hv48 := congrArg Int32.toInt ev48
          intro v50 ev50
          have hv50 := congrArg Int32.toInt ev50
          intro v52 ev52
          intro v53 ev53
          have f55 := aAQ v52 1431655765 (by omega)
          have f54 : Int32.toInt (x1 - (v52 &&& 1431655765)) = Int32.toInt x1 - Int32.toInt (v52 &&& 1431655765) := aCA _ _ (by omega)
          rw [<- ev53] at f54
          intro v56 ev56
          have f57 := aAQ v53 858993459 (by omega)
          have hv56 := congrArg Int32.toInt ev56
          intro v58 ev58
          intro v59 ev59
          have f61 := aAQ v58 858993459 (by omega)
          have f60 : Int32.toInt (v56 + (v58 &&& 858993459)) = Int32.toInt v56 + Int32.toInt (v58 &&& 858993459) := aAD _ _ (by omega)
          rw [<- ev59] at f60
          intro v62 ev62
          have hv62 := congrArg Int32.toInt ev62
          intro v64 ev64
          have f65 := aAQ v62 252645135 (by omega)
          have hv64 := congrArg Int32.toInt ev64
          intro v66 ev66
          have hv66 := congrArg Int32.toInt ev66
          intro v68 ev68
          have hv68 := congrArg Int32.toInt ev68
          have f71 := aAQ v50 63 (by omega)
          have f72 := aAQ v68 63 (by omega)
          refine And.intro (fun c70 => ?_) (fun c70 => ?_)
          · skip
            have c70 := (aAd _ _).mp c70
            have f73 := aAT m_workPicks_22
            have f74 := aAT m_workDowns_23
            exact ts_X10_soonest_84 bT aG bW qG m_x gR pW qR nG oO pJ qO qQ xJ vZ zQ xU xV aAW xK yR zM xT yF yD xZ zG zI hc0 hc1 hpost hKn x3 r25 bL bY jD mLn oF rP dQ bZ aR aE bI aW dO m_workMoves_21 m_workPicks_22 m_workDowns_23 sW sH uE oJ m_load_24 (by omega) (by omega) yJ yG yM zE aAR aA1 aAA zT yL xQ yY yK aAH h_m_workMoves_21 zY aAw zL hn25
          · skip
            have c70 := mt (aAd _ _).mpr c70
            have f75 := aAT m_workPicks_22
            have f76 := aAT m_workDowns_23
            exact ts_X10_soonest_89 bT aG bW qG m_x gR pW qR nG oO pJ qO qQ xJ vZ zQ xU xV aAW xK yR zM xT yF yD xZ zG zI hc0 hc1 hpost hKn x1 x2 x3 bL bY jD mLn oF rP dQ bZ aR aE bI aW dO m_workMoves_21 m_workPicks_22 m_workDowns_23 sW sH uE oJ m_load_24 aBK aBN (by omega) yJ yG yM zE aAR aA1 aAA zT yL xQ yY yK aAH h_m_workMoves_21 zY aAw zL hn25
    · skip
      have c17 := mt (zJ _ _).mpr c17
      have f77 := aAT x2
      have f78 := aAT bQ
      have f79 := aAT bO
      exact ts_X10_soonest_89 bT aG bW qG m_x gR pW qR nG oO pJ qO qQ xJ vZ zQ xU xV aAW xK yR zM xT yF yD xZ zG zI hc0 hc1 hpost hKn x1 x2 x3 bL bY jD mLn oF rP dQ bZ aR aE bI aW dO bM bQ bO sW sH uE oJ vK aBK aBN (by omega) yJ yG yM zE aAR aA1 aAA zT yL xQ yY yK aAH aAv zY aAw zL hn25
set_option maxHeartbeats 8000000 in
set_option maxRecDepth 200000 in
theorem tb_X10_soonest_25 {post : Int32 -> Int32 -> Int32 -> Nat -> Int32 -> Int32 -> Int32 -> Int32 -> Int32 -> Int32 -> Int32 -> Int32 -> Int32 -> Int32 -> Int32 -> Int32 -> Int32 -> (Nat -> Int32) -> (Nat -> Int32) -> (Nat -> Int32) -> (Nat -> Int32) -> (Nat -> Int32) -> Prop} {SB : Int} (bT aG bW : Int32) (qG m_x gR pW qR nG oO pJ qO qQ : Nat -> Int32) (xJ : 0 <= Int32.toInt bT /\ Int32.toInt bT <= 16) (vZ : 0 <= Int32.toInt aG /\ Int32.toInt aG <= 8) (zQ : 0 <= Int32.toInt bW /\ Int32.toInt bW <= 40) (xU : ∀ k : Nat, k = 17 -> -1 <= Int32.toInt (qG k) /\ Int32.toInt (qG k) <= SB) (xV : ∀ k : Nat, k = 19 -> 0 <= Int32.toInt (qG k) /\ Int32.toInt (qG k) <= 9) (aAW : ∀ k : Nat, 0 <= Int32.toInt (m_x k) /\ Int32.toInt (m_x k) <= 99) (xK : ∀ k : Nat, 0 <= Int32.toInt (gR k) /\ Int32.toInt (gR k) <= 99) (yR : ∀ k : Nat, 0 <= Int32.toInt (pW k) /\ Int32.toInt (pW k) <= 9) (zM : ∀ k : Nat, 0 <= Int32.toInt (qR k) /\ Int32.toInt (qR k) <= 9) (xT : ∀ k : Nat, 0 <= Int32.toInt (nG k) /\ Int32.toInt (nG k) <= 99) (yF : ∀ k : Nat, 0 <= Int32.toInt (oO k) /\ Int32.toInt (oO k) <= 99) (yD : ∀ k : Nat, k = 4 -> 1 <= Int32.toInt (pJ k) /\ Int32.toInt (pJ k) <= 30) (xZ : ∀ k : Nat, k = 3 -> 0 <= Int32.toInt (pJ k) /\ Int32.toInt (pJ k) <= 9) (zG : ∀ k : Nat, -128 <= Int32.toInt (qO k) /\ Int32.toInt (qO k) <= 127) (zI : ∀ k : Nat, -128 <= Int32.toInt (qQ k) /\ Int32.toInt (qQ k) <= 127) (hc0 : -1 <= SB /\ SB <= 7) (hc1 : (Int32.toInt aG <= 0 /\ SB = 0) \/ (1 <= Int32.toInt aG /\ SB = Int32.toInt aG - 1)) (hpost : ∀ (r : Int32) (xM : Int32) (xG : Int32) (aAP : Nat) (zS : Int32) (aAz : Int32) (aAm : Int32) (zH : Int32) (aAM : Int32) (zP : Int32) (yO : Int32) (zZ : Int32) (zO : Int32) (aAS : Int32) (aB9 : Int32) (aEo : Int32) (aEn : Int32) (aBX : Nat -> Int32) (aA5 : Nat -> Int32) (aCX : Nat -> Int32) (aBR : Nat -> Int32) (aGb : Nat -> Int32), (-2147483648 <= Int32.toInt r /\ Int32.toInt r <= 1000000) -> (1 <= Int32.toInt xM /\ Int32.toInt xM <= 1) -> (0 <= Int32.toInt xG /\ Int32.toInt xG <= 0) -> (aAP = 0 \/ aAP = 1 \/ aAP = 2) -> (0 <= Int32.toInt zS /\ Int32.toInt zS <= 80) -> (0 <= Int32.toInt aAz /\ Int32.toInt aAz <= 80) -> (0 <= Int32.toInt aAm /\ Int32.toInt aAm <= 80) -> (-1 <= Int32.toInt zH /\ Int32.toInt zH <= 80) -> (0 <= Int32.toInt aAM /\ Int32.toInt aAM <= 0) -> (0 <= Int32.toInt zP /\ Int32.toInt zP <= 15) -> (0 <= Int32.toInt yO /\ Int32.toInt yO <= 7) -> (0 <= Int32.toInt zZ /\ Int32.toInt zZ <= 1) -> (0 <= Int32.toInt zO /\ Int32.toInt zO <= 63) -> (0 <= Int32.toInt aAS /\ Int32.toInt aAS <= 65535) -> (0 <= Int32.toInt aB9 /\ Int32.toInt aB9 <= 1000000) -> (∀ k : Nat, 0 <= Int32.toInt (aA5 k) /\ Int32.toInt (aA5 k) <= 65535) -> (∀ k : Nat, 0 <= Int32.toInt (aCX k) /\ Int32.toInt (aCX k) <= 1000000) -> (∀ k : Nat, 0 <= Int32.toInt (aBR k) /\ Int32.toInt (aBR k) <= 99) -> post r xM xG aAP zS aAz aAm zH aAM zP yO zZ zO aAS aB9 aEo aEn aBX aA5 aCX aBR aGb) : ∀ (n : Nat) (x1 x2 x3 bL bY : Int32) (jD : Nat) (mLn oF rP dQ bZ aR aE bI aW dO bM bQ bO : Int32) (sW sH uE oJ vK : Nat -> Int32), (-1 <= Int32.toInt x1 /\ Int32.toInt x1 <= 255) -> (-2147483648 <= Int32.toInt x2 /\ Int32.toInt x2 <= 1000000) -> (0 <= Int32.toInt x3 /\ Int32.toInt x3 <= 256) -> (0 <= Int32.toInt bL /\ Int32.toInt bL <= 16) -> (0 <= Int32.toInt bY /\ Int32.toInt bY <= 0) -> (jD = 0 \/ jD = 1 \/ jD = 2) -> (0 <= Int32.toInt mLn /\ Int32.toInt mLn <= 80) -> (0 <= Int32.toInt oF /\ Int32.toInt oF <= 80) -> (0 <= Int32.toInt rP /\ Int32.toInt rP <= 80) -> (-1 <= Int32.toInt dQ /\ Int32.toInt dQ <= 80) -> (0 <= Int32.toInt bZ /\ Int32.toInt bZ <= 0) -> (0 <= Int32.toInt aR /\ Int32.toInt aR <= 15) -> (0 <= Int32.toInt aE /\ Int32.toInt aE <= 7) -> (0 <= Int32.toInt bI /\ Int32.toInt bI <= 1) -> (0 <= Int32.toInt aW /\ Int32.toInt aW <= 63) -> (0 <= Int32.toInt dO /\ Int32.toInt dO <= 65535) -> (0 <= Int32.toInt bM /\ Int32.toInt bM <= 1000000) -> (∀ k : Nat, 0 <= Int32.toInt (sH k) /\ Int32.toInt (sH k) <= 65535) -> (∀ k : Nat, 0 <= Int32.toInt (uE k) /\ Int32.toInt (uE k) <= 1000000) -> (∀ k : Nat, 0 <= Int32.toInt (oJ k) /\ Int32.toInt (oJ k) <= 99) -> (256 - Int32.toInt x3 < (n : Int)) -> wb_X10_soonest_25 post bT aG bW qG m_x gR pW qR nG oO pJ qO qQ n x1 x2 x3 bL bY jD mLn oF rP dQ bZ aR aE bI aW dO bM bQ bO sW sH uE oJ vK := by
  intro n
  induction n with
  | zero =>
    intro x1 x2 x3 bL bY jD mLn oF rP dQ bZ aR aE bI aW dO bM bQ bO sW sH uE oJ vK aBK aBN aCH yJ yG yM zE aAR aA1 aAA zT yL xQ yY yK aAH aAv zY aAw zL hm
    exfalso; omega
  | succ n ih =>
    intro x1 x2 x3 bL bY jD mLn oF rP dQ bZ aR aE bI aW dO bM bQ bO sW sH uE oJ vK aBK aBN aCH yJ yG yM zE aAR aA1 aAA zT yL xQ yY yK aAH aAv zY aAw zL hm
    exact ts_X10_soonest_25 bT aG bW qG m_x gR pW qR nG oO pJ qO qQ xJ vZ zQ xU xV aAW xK yR zM xT yF yD xZ zG zI hc0 hc1 hpost ih x1 x2 x3 bL bY jD mLn oF rP dQ bZ aR aE bI aW dO bM bQ bO sW sH uE oJ vK aBK aBN aCH yJ yG yM zE aAR aA1 aAA zT yL xQ yY yK aAH aAv zY aAw zL (by omega)
set_option maxHeartbeats 8000000 in
set_option maxRecDepth 200000 in
theorem t_X10_soonest {post : Int32 -> Int32 -> Int32 -> Nat -> Int32 -> Int32 -> Int32 -> Int32 -> Int32 -> Int32 -> Int32 -> Int32 -> Int32 -> Int32 -> Int32 -> Int32 -> Int32 -> (Nat -> Int32) -> (Nat -> Int32) -> (Nat -> Int32) -> (Nat -> Int32) -> (Nat -> Int32) -> Prop} {SB : Int} {bT aG bL bY : Int32} {jD : Nat} {mLn oF rP dQ bW bZ aR aE bI aW dO bM bQ bO : Int32} {qG m_x gR pW qR nG oO pJ qO sW qQ sH uE oJ vK : Nat -> Int32} (xJ : 0 <= Int32.toInt bT /\ Int32.toInt bT <= 16) (vZ : 0 <= Int32.toInt aG /\ Int32.toInt aG <= 8) (yJ : 0 <= Int32.toInt bL /\ Int32.toInt bL <= 16) (yG : 0 <= Int32.toInt bY /\ Int32.toInt bY <= 1) (yM : jD = 0 \/ jD = 1 \/ jD = 2) (zE : 0 <= Int32.toInt mLn /\ Int32.toInt mLn <= 80) (aAR : 0 <= Int32.toInt oF /\ Int32.toInt oF <= 80) (aA1 : 0 <= Int32.toInt rP /\ Int32.toInt rP <= 80) (aAA : -1 <= Int32.toInt dQ /\ Int32.toInt dQ <= 80) (zQ : 0 <= Int32.toInt bW /\ Int32.toInt bW <= 40) (zT : 0 <= Int32.toInt bZ /\ Int32.toInt bZ <= 0) (yL : 0 <= Int32.toInt aR /\ Int32.toInt aR <= 15) (xQ : 0 <= Int32.toInt aE /\ Int32.toInt aE <= 7) (yY : 0 <= Int32.toInt bI /\ Int32.toInt bI <= 1) (yK : 0 <= Int32.toInt aW /\ Int32.toInt aW <= 63) (aAH : 0 <= Int32.toInt dO /\ Int32.toInt dO <= 65535) (aAv : 0 <= Int32.toInt bM /\ Int32.toInt bM <= 1000000) (xU : ∀ k : Nat, k = 17 -> -1 <= Int32.toInt (qG k) /\ Int32.toInt (qG k) <= SB) (xV : ∀ k : Nat, k = 19 -> 0 <= Int32.toInt (qG k) /\ Int32.toInt (qG k) <= 9) (aAW : ∀ k : Nat, 0 <= Int32.toInt (m_x k) /\ Int32.toInt (m_x k) <= 99) (xK : ∀ k : Nat, 0 <= Int32.toInt (gR k) /\ Int32.toInt (gR k) <= 99) (yR : ∀ k : Nat, 0 <= Int32.toInt (pW k) /\ Int32.toInt (pW k) <= 9) (zM : ∀ k : Nat, 0 <= Int32.toInt (qR k) /\ Int32.toInt (qR k) <= 9) (xT : ∀ k : Nat, 0 <= Int32.toInt (nG k) /\ Int32.toInt (nG k) <= 99) (yF : ∀ k : Nat, 0 <= Int32.toInt (oO k) /\ Int32.toInt (oO k) <= 99) (yD : ∀ k : Nat, k = 4 -> 1 <= Int32.toInt (pJ k) /\ Int32.toInt (pJ k) <= 30) (xZ : ∀ k : Nat, k = 3 -> 0 <= Int32.toInt (pJ k) /\ Int32.toInt (pJ k) <= 9) (zG : ∀ k : Nat, -128 <= Int32.toInt (qO k) /\ Int32.toInt (qO k) <= 127) (zI : ∀ k : Nat, -128 <= Int32.toInt (qQ k) /\ Int32.toInt (qQ k) <= 127) (zY : ∀ k : Nat, 0 <= Int32.toInt (sH k) /\ Int32.toInt (sH k) <= 65535) (aAw : ∀ k : Nat, 0 <= Int32.toInt (uE k) /\ Int32.toInt (uE k) <= 1000000) (zL : ∀ k : Nat, 0 <= Int32.toInt (oJ k) /\ Int32.toInt (oJ k) <= 99) (hc0 : -1 <= SB /\ SB <= 7) (hc1 : (Int32.toInt aG <= 0 /\ SB = 0) \/ (1 <= Int32.toInt aG /\ SB = Int32.toInt aG - 1)) (hpost : ∀ (r : Int32) (xM : Int32) (xG : Int32) (aAP : Nat) (zS : Int32) (aAz : Int32) (aAm : Int32) (zH : Int32) (aAM : Int32) (zP : Int32) (yO : Int32) (zZ : Int32) (zO : Int32) (aAS : Int32) (aB9 : Int32) (aEo : Int32) (aEn : Int32) (aBX : Nat -> Int32) (aA5 : Nat -> Int32) (aCX : Nat -> Int32) (aBR : Nat -> Int32) (aGb : Nat -> Int32), (-2147483648 <= Int32.toInt r /\ Int32.toInt r <= 1000000) -> (1 <= Int32.toInt xM /\ Int32.toInt xM <= 1) -> (0 <= Int32.toInt xG /\ Int32.toInt xG <= 0) -> (aAP = 0 \/ aAP = 1 \/ aAP = 2) -> (0 <= Int32.toInt zS /\ Int32.toInt zS <= 80) -> (0 <= Int32.toInt aAz /\ Int32.toInt aAz <= 80) -> (0 <= Int32.toInt aAm /\ Int32.toInt aAm <= 80) -> (-1 <= Int32.toInt zH /\ Int32.toInt zH <= 80) -> (0 <= Int32.toInt aAM /\ Int32.toInt aAM <= 0) -> (0 <= Int32.toInt zP /\ Int32.toInt zP <= 15) -> (0 <= Int32.toInt yO /\ Int32.toInt yO <= 7) -> (0 <= Int32.toInt zZ /\ Int32.toInt zZ <= 1) -> (0 <= Int32.toInt zO /\ Int32.toInt zO <= 63) -> (0 <= Int32.toInt aAS /\ Int32.toInt aAS <= 65535) -> (0 <= Int32.toInt aB9 /\ Int32.toInt aB9 <= 1000000) -> (∀ k : Nat, 0 <= Int32.toInt (aA5 k) /\ Int32.toInt (aA5 k) <= 65535) -> (∀ k : Nat, 0 <= Int32.toInt (aCX k) /\ Int32.toInt (aCX k) <= 1000000) -> (∀ k : Nat, 0 <= Int32.toInt (aBR k) /\ Int32.toInt (aBR k) <= 99) -> post r xM xG aAP zS aAz aAm zH aAM zP yO zZ zO aAS aB9 aEo aEn aBX aA5 aCX aBR aGb) : wp_X10_soonest post bT aG bL bY jD mLn oF rP dQ bW bZ aR aE bI aW dO bM bQ bO qG m_x gR pW qR nG oO pJ qO sW qQ sH uE oJ vK := by
  have l0 := aI2
  have l1 := aE0
  have l2 := li_1000000
  have l3 := li_18
  intro v80 ev80
  have hv80 := congrArg Int32.toInt ev80
  refine aLb xJ vZ aAH xU xV aAW xK zM xT yF yD xZ zY (by omega) (by omega) (fun m_wanted_82 m_hand_83 h_m_wanted_82 h_m_hand_83 => ?_)
  refine t_X10_layMoves vZ xT yD xZ aAw (fun m_moves_84 h_m_moves_84 ox85 => ?_)
  refine t_X10_laySeconds xJ vZ yM zE aAR aA1 aAA zQ zT yL xQ yY yK aAW xK yR xT yF zG zI zL (fun m_read_86 m_length_87 m_top_88 m_at_89 m_wrong_90 m_isAsked_91 m_askedFruit_92 m_askedStanding_93 m_askedHook_94 m_askedApron_95 m_handSeconds_96 h_m_read_86 h_m_length_87 h_m_top_88 h_m_at_89 h_m_wrong_90 h_m_isAsked_91 h_m_askedFruit_92 h_m_askedStanding_93 h_m_askedHook_94 h_m_askedApron_95 h_m_handSeconds_96 => ?_)
  have f97 := aAT bQ
  have f98 := aAT bO
  exact ⟨258, tb_X10_soonest_25 bT aG bW qG m_x gR pW qR nG oO pJ qO qQ xJ vZ zQ xU xV aAW xK yR zM xT yF yD xZ zG zI hc0 hc1 hpost _ (-1) 1000000 0 bL 0 m_read_86 m_length_87 m_top_88 m_at_89 m_wrong_90 m_isAsked_91 m_askedFruit_92 m_askedStanding_93 m_askedHook_94 m_askedApron_95 m_wanted_82 bM bQ bO sW m_hand_83 m_moves_84 m_handSeconds_96 vK (by omega) (by omega) (by omega) yJ (by omega) h_m_read_86 h_m_length_87 h_m_top_88 h_m_at_89 h_m_wrong_90 h_m_isAsked_91 h_m_askedFruit_92 h_m_askedStanding_93 h_m_askedHook_94 h_m_askedApron_95 h_m_wanted_82 aAv h_m_hand_83 h_m_moves_84 h_m_handSeconds_96 (by omega)⟩
set_option maxHeartbeats 8000000 in
set_option maxRecDepth 200000 in
theorem ts_X10_pays_68 {post : Int32 -> Int32 -> Int32 -> Nat -> Int32 -> Int32 -> Int32 -> Int32 -> Int32 -> Int32 -> Int32 -> Int32 -> Int32 -> Int32 -> (Nat -> Int32) -> (Nat -> Int32) -> Prop} {SB : Int} {K36 : Int32 -> Int32 -> Int32 -> Int32 -> Int32 -> Int32 -> Nat -> Int32 -> Int32 -> Int32 -> Int32 -> Int32 -> Int32 -> Int32 -> Int32 -> Int32 -> Int32 -> (Nat -> Int32) -> (Nat -> Int32) -> Prop} {n36 : Int} (bT aG bW : Int32) (qG m_x gR pW qR nG oO pJ qO qQ : Nat -> Int32) (xJ : 0 <= Int32.toInt bT /\ Int32.toInt bT <= 16) (vZ : 0 <= Int32.toInt aG /\ Int32.toInt aG <= 8) (zQ : 0 <= Int32.toInt bW /\ Int32.toInt bW <= 40) (xU : ∀ k : Nat, k = 17 -> -1 <= Int32.toInt (qG k) /\ Int32.toInt (qG k) <= SB) (xV : ∀ k : Nat, k = 19 -> 0 <= Int32.toInt (qG k) /\ Int32.toInt (qG k) <= 9) (aAW : ∀ k : Nat, 0 <= Int32.toInt (m_x k) /\ Int32.toInt (m_x k) <= 99) (xK : ∀ k : Nat, 0 <= Int32.toInt (gR k) /\ Int32.toInt (gR k) <= 99) (yR : ∀ k : Nat, 0 <= Int32.toInt (pW k) /\ Int32.toInt (pW k) <= 9) (zM : ∀ k : Nat, 0 <= Int32.toInt (qR k) /\ Int32.toInt (qR k) <= 9) (xT : ∀ k : Nat, 0 <= Int32.toInt (nG k) /\ Int32.toInt (nG k) <= 99) (yF : ∀ k : Nat, 0 <= Int32.toInt (oO k) /\ Int32.toInt (oO k) <= 99) (yD : ∀ k : Nat, k = 4 -> 1 <= Int32.toInt (pJ k) /\ Int32.toInt (pJ k) <= 30) (xZ : ∀ k : Nat, k = 3 -> 0 <= Int32.toInt (pJ k) /\ Int32.toInt (pJ k) <= 9) (zG : ∀ k : Nat, -128 <= Int32.toInt (qO k) /\ Int32.toInt (qO k) <= 127) (zI : ∀ k : Nat, -128 <= Int32.toInt (qQ k) /\ Int32.toInt (qQ k) <= 127) (hc0 : -1 <= SB /\ SB <= 7) (hc1 : (Int32.toInt aG <= 0 /\ SB = 0) \/ (1 <= Int32.toInt aG /\ SB = Int32.toInt aG - 1)) (hpost : ∀ (r : Int32) (xM : Int32) (xG : Int32) (aAP : Nat) (zS : Int32) (aAz : Int32) (aAm : Int32) (zH : Int32) (aAM : Int32) (zP : Int32) (yO : Int32) (zZ : Int32) (zO : Int32) (aAS : Int32) (aBX : Nat -> Int32) (aA5 : Nat -> Int32), (0 <= Int32.toInt xM /\ Int32.toInt xM <= 16) -> (0 <= Int32.toInt xG /\ Int32.toInt xG <= 0) -> (aAP = 0 \/ aAP = 1 \/ aAP = 2) -> (0 <= Int32.toInt zS /\ Int32.toInt zS <= 80) -> (0 <= Int32.toInt aAz /\ Int32.toInt aAz <= 80) -> (0 <= Int32.toInt aAm /\ Int32.toInt aAm <= 80) -> (-1 <= Int32.toInt zH /\ Int32.toInt zH <= 80) -> (0 <= Int32.toInt aAM /\ Int32.toInt aAM <= 0) -> (0 <= Int32.toInt zP /\ Int32.toInt zP <= 15) -> (0 <= Int32.toInt yO /\ Int32.toInt yO <= 7) -> (0 <= Int32.toInt zZ /\ Int32.toInt zZ <= 1) -> (0 <= Int32.toInt zO /\ Int32.toInt zO <= 63) -> (0 <= Int32.toInt aAS /\ Int32.toInt aAS <= 65535) -> (∀ k : Nat, 0 <= Int32.toInt (aA5 k) /\ Int32.toInt (aA5 k) <= 65535) -> post r xM xG aAP zS aAz aAm zH aAM zP yO zZ zO aAS aBX aA5) (hK36 : ∀ (x1 : Int32) (x2 : Int32) (x3 : Int32) (x4 : Int32) (bL : Int32) (bY : Int32) (jD : Nat) (mLn : Int32) (oF : Int32) (rP : Int32) (dQ : Int32) (bZ : Int32) (aR : Int32) (aE : Int32) (bI : Int32) (aW : Int32) (dO : Int32) (sW : Nat -> Int32) (sH : Nat -> Int32), (0 <= Int32.toInt x1 /\ Int32.toInt x1 <= 7) -> (0 <= Int32.toInt x2 /\ Int32.toInt x2 <= 65535) -> (0 <= Int32.toInt x4 /\ Int32.toInt x4 <= 16) -> (0 <= Int32.toInt bL /\ Int32.toInt bL <= 16) -> (0 <= Int32.toInt bY /\ Int32.toInt bY <= 0) -> (jD = 0 \/ jD = 1 \/ jD = 2) -> (0 <= Int32.toInt mLn /\ Int32.toInt mLn <= 80) -> (0 <= Int32.toInt oF /\ Int32.toInt oF <= 80) -> (0 <= Int32.toInt rP /\ Int32.toInt rP <= 80) -> (-1 <= Int32.toInt dQ /\ Int32.toInt dQ <= 80) -> (0 <= Int32.toInt bZ /\ Int32.toInt bZ <= 0) -> (0 <= Int32.toInt aR /\ Int32.toInt aR <= 15) -> (0 <= Int32.toInt aE /\ Int32.toInt aE <= 7) -> (0 <= Int32.toInt bI /\ Int32.toInt bI <= 1) -> (0 <= Int32.toInt aW /\ Int32.toInt aW <= 63) -> (0 <= Int32.toInt dO /\ Int32.toInt dO <= 65535) -> (∀ k : Nat, 0 <= Int32.toInt (sH k) /\ Int32.toInt (sH k) <= 65535) -> (16 - Int32.toInt x4 < n36) -> K36 x1 x2 x3 x4 bL bY jD mLn oF rP dQ bZ aR aE bI aW dO sW sH) (x1 x2 x4 k0 k1 bL bY : Int32) (jD : Nat) (mLn oF rP dQ bZ aR aE bI aW dO : Int32) (sW sH : Nat -> Int32) (aBK : 0 <= Int32.toInt x1 /\ Int32.toInt x1 <= 7) (aBN : 0 <= Int32.toInt x2 /\ Int32.toInt x2 <= 65535) (aDO : 0 <= Int32.toInt x4 /\ Int32.toInt x4 <= 15) (h_k1 : 0 <= Int32.toInt k1 /\ Int32.toInt k1 <= 99) (yJ : 0 <= Int32.toInt bL /\ Int32.toInt bL <= 16) (yG : 0 <= Int32.toInt bY /\ Int32.toInt bY <= 0) (yM : jD = 0 \/ jD = 1 \/ jD = 2) (zE : 0 <= Int32.toInt mLn /\ Int32.toInt mLn <= 80) (aAR : 0 <= Int32.toInt oF /\ Int32.toInt oF <= 80) (aA1 : 0 <= Int32.toInt rP /\ Int32.toInt rP <= 80) (aAA : -1 <= Int32.toInt dQ /\ Int32.toInt dQ <= 80) (zT : 0 <= Int32.toInt bZ /\ Int32.toInt bZ <= 0) (yL : 0 <= Int32.toInt aR /\ Int32.toInt aR <= 15) (xQ : 0 <= Int32.toInt aE /\ Int32.toInt aE <= 7) (yY : 0 <= Int32.toInt bI /\ Int32.toInt bI <= 1) (yK : 0 <= Int32.toInt aW /\ Int32.toInt aW <= 63) (aAH : 0 <= Int32.toInt dO /\ Int32.toInt dO <= 65535) (zY : ∀ k : Nat, 0 <= Int32.toInt (sH k) /\ Int32.toInt (sH k) <= 65535) (hn36 : 16 - Int32.toInt x4 <= n36) : ws_X10_pays_68 post K36 bT aG bW qG m_x gR pW qR nG oO pJ qO qQ x1 x2 x4 k0 k1 bL bY jD mLn oF rP dQ bZ aR aE bI aW dO sW sH := by
  have l0 := aEc
  intro v1 ev1
  have hv1 := congrArg Int32.toInt ev1
  intro v3 ev3
  have f4 : Int32.toInt (x4 + 1) = Int32.toInt x4 + Int32.toInt (1 : Int32) := aAD _ _ (by omega)
  rw [<- ev3] at f4
  have f5 := aAT v1
  exact hK36 x1 x2 v1 v3 bL bY jD mLn oF rP dQ bZ aR aE bI aW dO sW sH aBK aBN (by omega) yJ yG yM zE aAR aA1 aAA zT yL xQ yY yK aAH zY (by omega)
set_option maxHeartbeats 8000000 in
set_option maxRecDepth 200000 in
theorem ts_X10_pays_109 {post : Int32 -> Int32 -> Int32 -> Nat -> Int32 -> Int32 -> Int32 -> Int32 -> Int32 -> Int32 -> Int32 -> Int32 -> Int32 -> Int32 -> (Nat -> Int32) -> (Nat -> Int32) -> Prop} {SB : Int} (bT aG bW : Int32) (qG m_x gR pW qR nG oO pJ qO qQ : Nat -> Int32) (xJ : 0 <= Int32.toInt bT /\ Int32.toInt bT <= 16) (vZ : 0 <= Int32.toInt aG /\ Int32.toInt aG <= 8) (zQ : 0 <= Int32.toInt bW /\ Int32.toInt bW <= 40) (xU : ∀ k : Nat, k = 17 -> -1 <= Int32.toInt (qG k) /\ Int32.toInt (qG k) <= SB) (xV : ∀ k : Nat, k = 19 -> 0 <= Int32.toInt (qG k) /\ Int32.toInt (qG k) <= 9) (aAW : ∀ k : Nat, 0 <= Int32.toInt (m_x k) /\ Int32.toInt (m_x k) <= 99) (xK : ∀ k : Nat, 0 <= Int32.toInt (gR k) /\ Int32.toInt (gR k) <= 99) (yR : ∀ k : Nat, 0 <= Int32.toInt (pW k) /\ Int32.toInt (pW k) <= 9) (zM : ∀ k : Nat, 0 <= Int32.toInt (qR k) /\ Int32.toInt (qR k) <= 9) (xT : ∀ k : Nat, 0 <= Int32.toInt (nG k) /\ Int32.toInt (nG k) <= 99) (yF : ∀ k : Nat, 0 <= Int32.toInt (oO k) /\ Int32.toInt (oO k) <= 99) (yD : ∀ k : Nat, k = 4 -> 1 <= Int32.toInt (pJ k) /\ Int32.toInt (pJ k) <= 30) (xZ : ∀ k : Nat, k = 3 -> 0 <= Int32.toInt (pJ k) /\ Int32.toInt (pJ k) <= 9) (zG : ∀ k : Nat, -128 <= Int32.toInt (qO k) /\ Int32.toInt (qO k) <= 127) (zI : ∀ k : Nat, -128 <= Int32.toInt (qQ k) /\ Int32.toInt (qQ k) <= 127) (hc0 : -1 <= SB /\ SB <= 7) (hc1 : (Int32.toInt aG <= 0 /\ SB = 0) \/ (1 <= Int32.toInt aG /\ SB = Int32.toInt aG - 1)) (hpost : ∀ (r : Int32) (xM : Int32) (xG : Int32) (aAP : Nat) (zS : Int32) (aAz : Int32) (aAm : Int32) (zH : Int32) (aAM : Int32) (zP : Int32) (yO : Int32) (zZ : Int32) (zO : Int32) (aAS : Int32) (aBX : Nat -> Int32) (aA5 : Nat -> Int32), (0 <= Int32.toInt xM /\ Int32.toInt xM <= 16) -> (0 <= Int32.toInt xG /\ Int32.toInt xG <= 0) -> (aAP = 0 \/ aAP = 1 \/ aAP = 2) -> (0 <= Int32.toInt zS /\ Int32.toInt zS <= 80) -> (0 <= Int32.toInt aAz /\ Int32.toInt aAz <= 80) -> (0 <= Int32.toInt aAm /\ Int32.toInt aAm <= 80) -> (-1 <= Int32.toInt zH /\ Int32.toInt zH <= 80) -> (0 <= Int32.toInt aAM /\ Int32.toInt aAM <= 0) -> (0 <= Int32.toInt zP /\ Int32.toInt zP <= 15) -> (0 <= Int32.toInt yO /\ Int32.toInt yO <= 7) -> (0 <= Int32.toInt zZ /\ Int32.toInt zZ <= 1) -> (0 <= Int32.toInt zO /\ Int32.toInt zO <= 63) -> (0 <= Int32.toInt aAS /\ Int32.toInt aAS <= 65535) -> (∀ k : Nat, 0 <= Int32.toInt (aA5 k) /\ Int32.toInt (aA5 k) <= 65535) -> post r xM xG aAP zS aAz aAm zH aAM zP yO zZ zO aAS aBX aA5) (x1 x2 x3 k1 bL bY : Int32) (jD : Nat) (mLn oF rP dQ bZ aR aE bI aW dO : Int32) (sW sH : Nat -> Int32) (aBK : 0 <= Int32.toInt x1 /\ Int32.toInt x1 <= 7) (aBN : 0 <= Int32.toInt x2 /\ Int32.toInt x2 <= 65535) (h_k1 : 0 <= Int32.toInt k1 /\ Int32.toInt k1 <= 900) (yJ : 0 <= Int32.toInt bL /\ Int32.toInt bL <= 0) (yG : 0 <= Int32.toInt bY /\ Int32.toInt bY <= 0) (yM : jD = 0 \/ jD = 1 \/ jD = 2) (zE : 0 <= Int32.toInt mLn /\ Int32.toInt mLn <= 80) (aAR : 0 <= Int32.toInt oF /\ Int32.toInt oF <= 80) (aA1 : 0 <= Int32.toInt rP /\ Int32.toInt rP <= 80) (aAA : -1 <= Int32.toInt dQ /\ Int32.toInt dQ <= 80) (zT : 0 <= Int32.toInt bZ /\ Int32.toInt bZ <= 0) (yL : 0 <= Int32.toInt aR /\ Int32.toInt aR <= 15) (xQ : 0 <= Int32.toInt aE /\ Int32.toInt aE <= 7) (yY : 0 <= Int32.toInt bI /\ Int32.toInt bI <= 1) (yK : 0 <= Int32.toInt aW /\ Int32.toInt aW <= 63) (aAH : 0 <= Int32.toInt dO /\ Int32.toInt dO <= 65535) (zY : ∀ k : Nat, 0 <= Int32.toInt (sH k) /\ Int32.toInt (sH k) <= 65535) : ws_X10_pays_109 post bT aG bW qG m_x gR pW qR nG oO pJ qO qQ x1 x2 x3 k1 bL bY jD mLn oF rP dQ bZ aR aE bI aW dO sW sH := by
  have l0 := aE0
  have l1 := aEc
  have l2 := aKH
  have l3 := li_16
  have l4 := aJ8
  have l5 := li_4
  have l6 := li_63
  have l7 := aJ9
  have l8 := li_9
  refine And.intro (aBZ (by omega)) ?_
  intro v6 ev6
  have f7 : Int32.toInt (bL + 1) = Int32.toInt bL + Int32.toInt (1 : Int32) := aAD _ _ (by omega)
  rw [<- ev6] at f7
  refine And.intro (aBZ (by omega)) ?_
  intro v8 ev8
  have f9 : Int32.toInt (v6 + 1) = Int32.toInt v6 + Int32.toInt (1 : Int32) := aAD _ _ (by omega)
  rw [<- ev8] at f9
  intro v10 ev10
  intro v11 ev11
  have f13 := aAQ v10 1431655765 (by omega)
  have f12 : Int32.toInt (x2 - (v10 &&& 1431655765)) = Int32.toInt x2 - Int32.toInt (v10 &&& 1431655765) := aCA _ _ (by omega)
  rw [<- ev11] at f12
  intro v14 ev14
  have f15 := aAQ v11 858993459 (by omega)
  have hv14 := congrArg Int32.toInt ev14
  intro v16 ev16
  intro v17 ev17
  have f19 := aAQ v16 858993459 (by omega)
  have f18 : Int32.toInt (v14 + (v16 &&& 858993459)) = Int32.toInt v14 + Int32.toInt (v16 &&& 858993459) := aAD _ _ (by omega)
  rw [<- ev17] at f18
  intro v20 ev20
  have hv20 := congrArg Int32.toInt ev20
  intro v22 ev22
  have f23 := aAQ v20 252645135 (by omega)
  have hv22 := congrArg Int32.toInt ev22
  intro v24 ev24
  have hv24 := congrArg Int32.toInt ev24
  intro v26 ev26
  have hv26 := congrArg Int32.toInt ev26
  have q28 := yD (4 : Int32).toNatClampNeg (by have e9 : (4 : Int32).toNatClampNeg = (Int32.toInt (4 : Int32)).toNat := rfl; omega)
  intro v29 ev29
  have f31 := aAQ v26 63 (by omega)
  have f30 : Int32.toInt ((v26 &&& 63) + (pJ (4 : Int32).toNatClampNeg)) = Int32.toInt (v26 &&& 63) + Int32.toInt (pJ (4 : Int32).toNatClampNeg) := aAD _ _ (by omega)
  rw [<- ev29] at f30
  intro v33 ev33
  have f34 : Int32.toInt (v29 - 1) = Int32.toInt v29 - Int32.toInt (1 : Int32) := aCA _ _ (by omega)
  rw [<- ev33] at f34
  have q35 := yD (4 : Int32).toNatClampNeg (by have e9 : (4 : Int32).toNatClampNeg = (Int32.toInt (4 : Int32)).toNat := rfl; omega)
  refine And.intro (mt (zJ _ _).mp (by omega)) ?_
  intro v36 ev36
  refine And.intro (aBZ (by omega)) ?_
  intro v37 ev37
  have f38 := yF x1.toNatClampNeg
  have hv37 := congrArg Int32.toInt ev37
  intro v39 ev39
  have f40 : Int32.toInt (v37 + 9) = Int32.toInt v37 + Int32.toInt (9 : Int32) := aAD _ _ (by omega)
  rw [<- ev39] at f40
  intro v41 ev41
  have hv41 := congrArg Int32.toInt ev41
  refine And.intro (aBZ (by omega)) ?_
  intro v43 ev43
  have f44 : Int32.toInt (v8 + 1) = Int32.toInt v8 + Int32.toInt (1 : Int32) := aAD _ _ (by omega)
  rw [<- ev43] at f44
  intro v45 ev45
  have hv45 := congrArg Int32.toInt ev45
  refine aNU aBN xJ yR (fun r47 => ?_)
  exact hpost _ _ _ _ _ _ _ _ _ _ _ _ _ _ _ _ (by omega) yG yM zE aAR aA1 aAA zT yL xQ yY yK aAH zY
set_option maxHeartbeats 8000000 in
set_option maxRecDepth 200000 in
theorem ts_X10_pays_36 {post : Int32 -> Int32 -> Int32 -> Nat -> Int32 -> Int32 -> Int32 -> Int32 -> Int32 -> Int32 -> Int32 -> Int32 -> Int32 -> Int32 -> (Nat -> Int32) -> (Nat -> Int32) -> Prop} {SB : Int} {next : Int32 -> Int32 -> Int32 -> Int32 -> Int32 -> Int32 -> Nat -> Int32 -> Int32 -> Int32 -> Int32 -> Int32 -> Int32 -> Int32 -> Int32 -> Int32 -> Int32 -> (Nat -> Int32) -> (Nat -> Int32) -> Prop} {n36 : Int} (bT aG bW : Int32) (qG m_x gR pW qR nG oO pJ qO qQ : Nat -> Int32) (xJ : 0 <= Int32.toInt bT /\ Int32.toInt bT <= 16) (vZ : 0 <= Int32.toInt aG /\ Int32.toInt aG <= 8) (zQ : 0 <= Int32.toInt bW /\ Int32.toInt bW <= 40) (xU : ∀ k : Nat, k = 17 -> -1 <= Int32.toInt (qG k) /\ Int32.toInt (qG k) <= SB) (xV : ∀ k : Nat, k = 19 -> 0 <= Int32.toInt (qG k) /\ Int32.toInt (qG k) <= 9) (aAW : ∀ k : Nat, 0 <= Int32.toInt (m_x k) /\ Int32.toInt (m_x k) <= 99) (xK : ∀ k : Nat, 0 <= Int32.toInt (gR k) /\ Int32.toInt (gR k) <= 99) (yR : ∀ k : Nat, 0 <= Int32.toInt (pW k) /\ Int32.toInt (pW k) <= 9) (zM : ∀ k : Nat, 0 <= Int32.toInt (qR k) /\ Int32.toInt (qR k) <= 9) (xT : ∀ k : Nat, 0 <= Int32.toInt (nG k) /\ Int32.toInt (nG k) <= 99) (yF : ∀ k : Nat, 0 <= Int32.toInt (oO k) /\ Int32.toInt (oO k) <= 99) (yD : ∀ k : Nat, k = 4 -> 1 <= Int32.toInt (pJ k) /\ Int32.toInt (pJ k) <= 30) (xZ : ∀ k : Nat, k = 3 -> 0 <= Int32.toInt (pJ k) /\ Int32.toInt (pJ k) <= 9) (zG : ∀ k : Nat, -128 <= Int32.toInt (qO k) /\ Int32.toInt (qO k) <= 127) (zI : ∀ k : Nat, -128 <= Int32.toInt (qQ k) /\ Int32.toInt (qQ k) <= 127) (hc0 : -1 <= SB /\ SB <= 7) (hc1 : (Int32.toInt aG <= 0 /\ SB = 0) \/ (1 <= Int32.toInt aG /\ SB = Int32.toInt aG - 1)) (hpost : ∀ (r : Int32) (xM : Int32) (xG : Int32) (aAP : Nat) (zS : Int32) (aAz : Int32) (aAm : Int32) (zH : Int32) (aAM : Int32) (zP : Int32) (yO : Int32) (zZ : Int32) (zO : Int32) (aAS : Int32) (aBX : Nat -> Int32) (aA5 : Nat -> Int32), (0 <= Int32.toInt xM /\ Int32.toInt xM <= 16) -> (0 <= Int32.toInt xG /\ Int32.toInt xG <= 0) -> (aAP = 0 \/ aAP = 1 \/ aAP = 2) -> (0 <= Int32.toInt zS /\ Int32.toInt zS <= 80) -> (0 <= Int32.toInt aAz /\ Int32.toInt aAz <= 80) -> (0 <= Int32.toInt aAm /\ Int32.toInt aAm <= 80) -> (-1 <= Int32.toInt zH /\ Int32.toInt zH <= 80) -> (0 <= Int32.toInt aAM /\ Int32.toInt aAM <= 0) -> (0 <= Int32.toInt zP /\ Int32.toInt zP <= 15) -> (0 <= Int32.toInt yO /\ Int32.toInt yO <= 7) -> (0 <= Int32.toInt zZ /\ Int32.toInt zZ <= 1) -> (0 <= Int32.toInt zO /\ Int32.toInt zO <= 63) -> (0 <= Int32.toInt aAS /\ Int32.toInt aAS <= 65535) -> (∀ k : Nat, 0 <= Int32.toInt (aA5 k) /\ Int32.toInt (aA5 k) <= 65535) -> post r xM xG aAP zS aAz aAm zH aAM zP yO zZ zO aAS aBX aA5) (hKn : ∀ (x1 : Int32) (x2 : Int32) (x3 : Int32) (x4 : Int32) (bL : Int32) (bY : Int32) (jD : Nat) (mLn : Int32) (oF : Int32) (rP : Int32) (dQ : Int32) (bZ : Int32) (aR : Int32) (aE : Int32) (bI : Int32) (aW : Int32) (dO : Int32) (sW : Nat -> Int32) (sH : Nat -> Int32), (0 <= Int32.toInt x1 /\ Int32.toInt x1 <= 7) -> (0 <= Int32.toInt x2 /\ Int32.toInt x2 <= 65535) -> (0 <= Int32.toInt x4 /\ Int32.toInt x4 <= 16) -> (0 <= Int32.toInt bL /\ Int32.toInt bL <= 16) -> (0 <= Int32.toInt bY /\ Int32.toInt bY <= 0) -> (jD = 0 \/ jD = 1 \/ jD = 2) -> (0 <= Int32.toInt mLn /\ Int32.toInt mLn <= 80) -> (0 <= Int32.toInt oF /\ Int32.toInt oF <= 80) -> (0 <= Int32.toInt rP /\ Int32.toInt rP <= 80) -> (-1 <= Int32.toInt dQ /\ Int32.toInt dQ <= 80) -> (0 <= Int32.toInt bZ /\ Int32.toInt bZ <= 0) -> (0 <= Int32.toInt aR /\ Int32.toInt aR <= 15) -> (0 <= Int32.toInt aE /\ Int32.toInt aE <= 7) -> (0 <= Int32.toInt bI /\ Int32.toInt bI <= 1) -> (0 <= Int32.toInt aW /\ Int32.toInt aW <= 63) -> (0 <= Int32.toInt dO /\ Int32.toInt dO <= 65535) -> (∀ k : Nat, 0 <= Int32.toInt (sH k) /\ Int32.toInt (sH k) <= 65535) -> (16 - Int32.toInt x4 < n36) -> next x1 x2 x3 x4 bL bY jD mLn oF rP dQ bZ aR aE bI aW dO sW sH) (x1 x2 x3 x4 bL bY : Int32) (jD : Nat) (mLn oF rP dQ bZ aR aE bI aW dO : Int32) (sW sH : Nat -> Int32) (aBK : 0 <= Int32.toInt x1 /\ Int32.toInt x1 <= 7) (aBN : 0 <= Int32.toInt x2 /\ Int32.toInt x2 <= 65535) (aDO : 0 <= Int32.toInt x4 /\ Int32.toInt x4 <= 16) (yJ : 0 <= Int32.toInt bL /\ Int32.toInt bL <= 16) (yG : 0 <= Int32.toInt bY /\ Int32.toInt bY <= 0) (yM : jD = 0 \/ jD = 1 \/ jD = 2) (zE : 0 <= Int32.toInt mLn /\ Int32.toInt mLn <= 80) (aAR : 0 <= Int32.toInt oF /\ Int32.toInt oF <= 80) (aA1 : 0 <= Int32.toInt rP /\ Int32.toInt rP <= 80) (aAA : -1 <= Int32.toInt dQ /\ Int32.toInt dQ <= 80) (zT : 0 <= Int32.toInt bZ /\ Int32.toInt bZ <= 0) (yL : 0 <= Int32.toInt aR /\ Int32.toInt aR <= 15) (xQ : 0 <= Int32.toInt aE /\ Int32.toInt aE <= 7) (yY : 0 <= Int32.toInt bI /\ Int32.toInt bI <= 1) (yK : 0 <= Int32.toInt aW /\ Int32.toInt aW <= 63) (aAH : 0 <= Int32.toInt dO /\ Int32.toInt dO <= 65535) (zY : ∀ k : Nat, 0 <= Int32.toInt (sH k) /\ Int32.toInt (sH k) <= 65535) (hn36 : 16 - Int32.toInt x4 <= n36) : ws_X10_pays_36 post next bT aG bW qG m_x gR pW qR nG oO pJ qO qQ x1 x2 x3 x4 bL bY jD mLn oF rP dQ bZ aR aE bI aW dO sW sH := by
  have l0 := aE0
  have l1 := aEc
  have l2 := li_17
  refine And.intro (fun c48 => ?_) (fun c48 => ?_)
  · skip
    have c48 := (aAO _ _).mp c48
    have q49 := xU (17 : Int32).toNatClampNeg (by have e9 : (17 : Int32).toNatClampNeg = (Int32.toInt (17 : Int32)).toNat := rfl; omega)
    intro v50 ev50
    have hv50 := congrArg Int32.toInt ev50
    refine And.intro (fun c52 => ?_) (fun c52 => ?_)
    · skip
      have c52 := mt (zJ _ _).mpr c52
      have q53 := xU (17 : Int32).toNatClampNeg (by have e9 : (17 : Int32).toNatClampNeg = (Int32.toInt (17 : Int32)).toNat := rfl; omega)
      intro v54 ev54
      have hv54 := congrArg Int32.toInt ev54
      refine t_X10_moveOf (by omega) aBK xT yD xZ (by omega) (by omega) (fun r55 h_r55 ox56 => ?_)
      have f57 := aAT x3
      exact ts_X10_pays_109 bT aG bW qG m_x gR pW qR nG oO pJ qO qQ xJ vZ zQ xU xV aAW xK yR zM xT yF yD xZ zG zI hc0 hc1 hpost x1 x2 x3 r55 0 bY jD mLn oF rP dQ bZ aR aE bI aW dO sW sH aBK aBN (by omega) (by omega) yG yM zE aAR aA1 aAA zT yL xQ yY yK aAH zY
    · skip
      have c52 := (zJ _ _).mp c52
      have f58 := aAT x3
      exact ts_X10_pays_109 bT aG bW qG m_x gR pW qR nG oO pJ qO qQ xJ vZ zQ xU xV aAW xK yR zM xT yF yD xZ zG zI hc0 hc1 hpost x1 x2 x3 0 0 bY jD mLn oF rP dQ bZ aR aE bI aW dO sW sH aBK aBN (by omega) (by omega) yG yM zE aAR aA1 aAA zT yL xQ yY yK aAH zY
  · skip
    have c48 := mt (aAO _ _).mpr c48
    intro v59 ev59
    have f60 := aRJ x2 x4 (by omega)
    have hv59 := congrArg Int32.toInt ev59
    intro v61 ev61
    have f62 := aAQ v59 1 (by omega)
    have f63 := aBx v59 1 (by omega)
    have hv61 := congrArg Int32.toInt ev61
    refine And.intro (fun c64 => ?_) (fun c64 => ?_)
    · skip
      have c64 := mt (zJ _ _).mpr c64
      refine And.intro (fun _ => ?_) (fun h9 => absurd h9 (by decide))
      have f65 := aAT x3
      exact ts_X10_pays_68 bT aG bW qG m_x gR pW qR nG oO pJ qO qQ xJ vZ zQ xU xV aAW xK yR zM xT yF yD xZ zG zI hc0 hc1 hpost hKn x1 x2 x4 x3 0 bL bY jD mLn oF rP dQ bZ aR aE bI aW dO sW sH aBK aBN (by omega) (by omega) yJ yG yM zE aAR aA1 aAA zT yL xQ yY yK aAH zY hn36
    · skip
      have c64 := (zJ _ _).mp c64
      refine And.intro (fun h9 => absurd h9 (by decide)) (fun _ => ?_)
      refine t_X10_secondsOf (by omega) aBK (by omega) (by omega) yM zE aAR aA1 aAA zQ zT yL xQ yY yK aAW xK yR xT yF zG zI (fun r76 m_read_66 m_length_67 m_top_68 m_at_69 m_wrong_70 m_isAsked_71 m_askedFruit_72 m_askedStanding_73 m_askedHook_74 m_askedApron_75 h_r76 h_m_read_66 h_m_length_67 h_m_top_68 h_m_at_69 h_m_wrong_70 h_m_isAsked_71 h_m_askedFruit_72 h_m_askedStanding_73 h_m_askedHook_74 h_m_askedApron_75 => ?_)
      have f77 := aAT x3
      exact ts_X10_pays_68 bT aG bW qG m_x gR pW qR nG oO pJ qO qQ xJ vZ zQ xU xV aAW xK yR zM xT yF yD xZ zG zI hc0 hc1 hpost hKn x1 x2 x4 x3 r76 bL bY m_read_66 m_length_67 m_top_68 m_at_69 m_wrong_70 m_isAsked_71 m_askedFruit_72 m_askedStanding_73 m_askedHook_74 m_askedApron_75 dO sW sH aBK aBN (by omega) (by omega) yJ yG h_m_read_66 h_m_length_67 h_m_top_68 h_m_at_69 h_m_wrong_70 h_m_isAsked_71 h_m_askedFruit_72 h_m_askedStanding_73 h_m_askedHook_74 h_m_askedApron_75 aAH zY hn36
set_option maxHeartbeats 8000000 in
set_option maxRecDepth 200000 in
theorem tb_X10_pays_36 {post : Int32 -> Int32 -> Int32 -> Nat -> Int32 -> Int32 -> Int32 -> Int32 -> Int32 -> Int32 -> Int32 -> Int32 -> Int32 -> Int32 -> (Nat -> Int32) -> (Nat -> Int32) -> Prop} {SB : Int} (bT aG bW : Int32) (qG m_x gR pW qR nG oO pJ qO qQ : Nat -> Int32) (xJ : 0 <= Int32.toInt bT /\ Int32.toInt bT <= 16) (vZ : 0 <= Int32.toInt aG /\ Int32.toInt aG <= 8) (zQ : 0 <= Int32.toInt bW /\ Int32.toInt bW <= 40) (xU : ∀ k : Nat, k = 17 -> -1 <= Int32.toInt (qG k) /\ Int32.toInt (qG k) <= SB) (xV : ∀ k : Nat, k = 19 -> 0 <= Int32.toInt (qG k) /\ Int32.toInt (qG k) <= 9) (aAW : ∀ k : Nat, 0 <= Int32.toInt (m_x k) /\ Int32.toInt (m_x k) <= 99) (xK : ∀ k : Nat, 0 <= Int32.toInt (gR k) /\ Int32.toInt (gR k) <= 99) (yR : ∀ k : Nat, 0 <= Int32.toInt (pW k) /\ Int32.toInt (pW k) <= 9) (zM : ∀ k : Nat, 0 <= Int32.toInt (qR k) /\ Int32.toInt (qR k) <= 9) (xT : ∀ k : Nat, 0 <= Int32.toInt (nG k) /\ Int32.toInt (nG k) <= 99) (yF : ∀ k : Nat, 0 <= Int32.toInt (oO k) /\ Int32.toInt (oO k) <= 99) (yD : ∀ k : Nat, k = 4 -> 1 <= Int32.toInt (pJ k) /\ Int32.toInt (pJ k) <= 30) (xZ : ∀ k : Nat, k = 3 -> 0 <= Int32.toInt (pJ k) /\ Int32.toInt (pJ k) <= 9) (zG : ∀ k : Nat, -128 <= Int32.toInt (qO k) /\ Int32.toInt (qO k) <= 127) (zI : ∀ k : Nat, -128 <= Int32.toInt (qQ k) /\ Int32.toInt (qQ k) <= 127) (hc0 : -1 <= SB /\ SB <= 7) (hc1 : (Int32.toInt aG <= 0 /\ SB = 0) \/ (1 <= Int32.toInt aG /\ SB = Int32.toInt aG - 1)) (hpost : ∀ (r : Int32) (xM : Int32) (xG : Int32) (aAP : Nat) (zS : Int32) (aAz : Int32) (aAm : Int32) (zH : Int32) (aAM : Int32) (zP : Int32) (yO : Int32) (zZ : Int32) (zO : Int32) (aAS : Int32) (aBX : Nat -> Int32) (aA5 : Nat -> Int32), (0 <= Int32.toInt xM /\ Int32.toInt xM <= 16) -> (0 <= Int32.toInt xG /\ Int32.toInt xG <= 0) -> (aAP = 0 \/ aAP = 1 \/ aAP = 2) -> (0 <= Int32.toInt zS /\ Int32.toInt zS <= 80) -> (0 <= Int32.toInt aAz /\ Int32.toInt aAz <= 80) -> (0 <= Int32.toInt aAm /\ Int32.toInt aAm <= 80) -> (-1 <= Int32.toInt zH /\ Int32.toInt zH <= 80) -> (0 <= Int32.toInt aAM /\ Int32.toInt aAM <= 0) -> (0 <= Int32.toInt zP /\ Int32.toInt zP <= 15) -> (0 <= Int32.toInt yO /\ Int32.toInt yO <= 7) -> (0 <= Int32.toInt zZ /\ Int32.toInt zZ <= 1) -> (0 <= Int32.toInt zO /\ Int32.toInt zO <= 63) -> (0 <= Int32.toInt aAS /\ Int32.toInt aAS <= 65535) -> (∀ k : Nat, 0 <= Int32.toInt (aA5 k) /\ Int32.toInt (aA5 k) <= 65535) -> post r xM xG aAP zS aAz aAm zH aAM zP yO zZ zO aAS aBX aA5) : ∀ (n : Nat) (x1 x2 x3 x4 bL bY : Int32) (jD : Nat) (mLn oF rP dQ bZ aR aE bI aW dO : Int32) (sW sH : Nat -> Int32), (0 <= Int32.toInt x1 /\ Int32.toInt x1 <= 7) -> (0 <= Int32.toInt x2 /\ Int32.toInt x2 <= 65535) -> (0 <= Int32.toInt x4 /\ Int32.toInt x4 <= 16) -> (0 <= Int32.toInt bL /\ Int32.toInt bL <= 16) -> (0 <= Int32.toInt bY /\ Int32.toInt bY <= 0) -> (jD = 0 \/ jD = 1 \/ jD = 2) -> (0 <= Int32.toInt mLn /\ Int32.toInt mLn <= 80) -> (0 <= Int32.toInt oF /\ Int32.toInt oF <= 80) -> (0 <= Int32.toInt rP /\ Int32.toInt rP <= 80) -> (-1 <= Int32.toInt dQ /\ Int32.toInt dQ <= 80) -> (0 <= Int32.toInt bZ /\ Int32.toInt bZ <= 0) -> (0 <= Int32.toInt aR /\ Int32.toInt aR <= 15) -> (0 <= Int32.toInt aE /\ Int32.toInt aE <= 7) -> (0 <= Int32.toInt bI /\ Int32.toInt bI <= 1) -> (0 <= Int32.toInt aW /\ Int32.toInt aW <= 63) -> (0 <= Int32.toInt dO /\ Int32.toInt dO <= 65535) -> (∀ k : Nat, 0 <= Int32.toInt (sH k) /\ Int32.toInt (sH k) <= 65535) -> (16 - Int32.toInt x4 < (n : Int)) -> wb_X10_pays_36 post bT aG bW qG m_x gR pW qR nG oO pJ qO qQ n x1 x2 x3 x4 bL bY jD mLn oF rP dQ bZ aR aE bI aW dO sW sH := by
  intro n
  induction n with
  | zero =>
    intro x1 x2 x3 x4 bL bY jD mLn oF rP dQ bZ aR aE bI aW dO sW sH aBK aBN aDO yJ yG yM zE aAR aA1 aAA zT yL xQ yY yK aAH zY hm
    exfalso; omega
  | succ n ih =>
    intro x1 x2 x3 x4 bL bY jD mLn oF rP dQ bZ aR aE bI aW dO sW sH aBK aBN aDO yJ yG yM zE aAR aA1 aAA zT yL xQ yY yK aAH zY hm
    exact ts_X10_pays_36 bT aG bW qG m_x gR pW qR nG oO pJ qO qQ xJ vZ zQ xU xV aAW xK yR zM xT yF yD xZ zG zI hc0 hc1 hpost ih x1 x2 x3 x4 bL bY jD mLn oF rP dQ bZ aR aE bI aW dO sW sH aBK aBN aDO yJ yG yM zE aAR aA1 aAA zT yL xQ yY yK aAH zY (by omega)
set_option maxHeartbeats 8000000 in
set_option maxRecDepth 200000 in
theorem t_X10_pays {post : Int32 -> Int32 -> Int32 -> Nat -> Int32 -> Int32 -> Int32 -> Int32 -> Int32 -> Int32 -> Int32 -> Int32 -> Int32 -> Int32 -> (Nat -> Int32) -> (Nat -> Int32) -> Prop} {SB : Int} {p0 bT aG bL bY : Int32} {jD : Nat} {mLn oF rP dQ bW bZ aR aE bI aW dO : Int32} {qG m_x gR pW qR nG oO pJ qO sW qQ sH : Nat -> Int32} (xJ : 0 <= Int32.toInt bT /\ Int32.toInt bT <= 16) (vZ : 0 <= Int32.toInt aG /\ Int32.toInt aG <= 8) (yJ : 0 <= Int32.toInt bL /\ Int32.toInt bL <= 16) (yG : 0 <= Int32.toInt bY /\ Int32.toInt bY <= 1) (yM : jD = 0 \/ jD = 1 \/ jD = 2) (zE : 0 <= Int32.toInt mLn /\ Int32.toInt mLn <= 80) (aAR : 0 <= Int32.toInt oF /\ Int32.toInt oF <= 80) (aA1 : 0 <= Int32.toInt rP /\ Int32.toInt rP <= 80) (aAA : -1 <= Int32.toInt dQ /\ Int32.toInt dQ <= 80) (zQ : 0 <= Int32.toInt bW /\ Int32.toInt bW <= 40) (zT : 0 <= Int32.toInt bZ /\ Int32.toInt bZ <= 0) (yL : 0 <= Int32.toInt aR /\ Int32.toInt aR <= 15) (xQ : 0 <= Int32.toInt aE /\ Int32.toInt aE <= 7) (yY : 0 <= Int32.toInt bI /\ Int32.toInt bI <= 1) (yK : 0 <= Int32.toInt aW /\ Int32.toInt aW <= 63) (aAH : 0 <= Int32.toInt dO /\ Int32.toInt dO <= 65535) (xU : ∀ k : Nat, k = 17 -> -1 <= Int32.toInt (qG k) /\ Int32.toInt (qG k) <= SB) (xV : ∀ k : Nat, k = 19 -> 0 <= Int32.toInt (qG k) /\ Int32.toInt (qG k) <= 9) (aAW : ∀ k : Nat, 0 <= Int32.toInt (m_x k) /\ Int32.toInt (m_x k) <= 99) (xK : ∀ k : Nat, 0 <= Int32.toInt (gR k) /\ Int32.toInt (gR k) <= 99) (yR : ∀ k : Nat, 0 <= Int32.toInt (pW k) /\ Int32.toInt (pW k) <= 9) (zM : ∀ k : Nat, 0 <= Int32.toInt (qR k) /\ Int32.toInt (qR k) <= 9) (xT : ∀ k : Nat, 0 <= Int32.toInt (nG k) /\ Int32.toInt (nG k) <= 99) (yF : ∀ k : Nat, 0 <= Int32.toInt (oO k) /\ Int32.toInt (oO k) <= 99) (yD : ∀ k : Nat, k = 4 -> 1 <= Int32.toInt (pJ k) /\ Int32.toInt (pJ k) <= 30) (xZ : ∀ k : Nat, k = 3 -> 0 <= Int32.toInt (pJ k) /\ Int32.toInt (pJ k) <= 9) (zG : ∀ k : Nat, -128 <= Int32.toInt (qO k) /\ Int32.toInt (qO k) <= 127) (zI : ∀ k : Nat, -128 <= Int32.toInt (qQ k) /\ Int32.toInt (qQ k) <= 127) (zY : ∀ k : Nat, 0 <= Int32.toInt (sH k) /\ Int32.toInt (sH k) <= 65535) (hc0 : -1 <= SB /\ SB <= 7) (hc1 : (Int32.toInt aG <= 0 /\ SB = 0) \/ (1 <= Int32.toInt aG /\ SB = Int32.toInt aG - 1)) (hpost : ∀ (r : Int32) (xM : Int32) (xG : Int32) (aAP : Nat) (zS : Int32) (aAz : Int32) (aAm : Int32) (zH : Int32) (aAM : Int32) (zP : Int32) (yO : Int32) (zZ : Int32) (zO : Int32) (aAS : Int32) (aBX : Nat -> Int32) (aA5 : Nat -> Int32), (0 <= Int32.toInt xM /\ Int32.toInt xM <= 16) -> (0 <= Int32.toInt xG /\ Int32.toInt xG <= 0) -> (aAP = 0 \/ aAP = 1 \/ aAP = 2) -> (0 <= Int32.toInt zS /\ Int32.toInt zS <= 80) -> (0 <= Int32.toInt aAz /\ Int32.toInt aAz <= 80) -> (0 <= Int32.toInt aAm /\ Int32.toInt aAm <= 80) -> (-1 <= Int32.toInt zH /\ Int32.toInt zH <= 80) -> (0 <= Int32.toInt aAM /\ Int32.toInt aAM <= 0) -> (0 <= Int32.toInt zP /\ Int32.toInt zP <= 15) -> (0 <= Int32.toInt yO /\ Int32.toInt yO <= 7) -> (0 <= Int32.toInt zZ /\ Int32.toInt zZ <= 1) -> (0 <= Int32.toInt zO /\ Int32.toInt zO <= 63) -> (0 <= Int32.toInt aAS /\ Int32.toInt aAS <= 65535) -> (∀ k : Nat, 0 <= Int32.toInt (aA5 k) /\ Int32.toInt (aA5 k) <= 65535) -> post r xM xG aAP zS aAz aAm zH aAM zP yO zZ zO aAS aBX aA5) : wp_X10_pays post p0 bT aG bL bY jD mLn oF rP dQ bW bZ aR aE bI aW dO qG m_x gR pW qR nG oO pJ qO sW qQ sH := by
  have l0 := aE0
  have l1 := aEc
  have l2 := li_18
  intro v78 ev78
  have f79 : Int32.toInt (aG - 1) = Int32.toInt aG - Int32.toInt (1 : Int32) := aCA _ _ (by omega)
  rw [<- ev78] at f79
  have f81 := aAT p0
  refine And.intro (fun c80 => ?_) (fun c80 => ?_)
  · skip
    have c80 := (aAd _ _).mp c80
    refine And.intro (aHE (by omega)) ?_
    refine And.intro (fun h9 => absurd h9 (by decide)) (fun _ => ?_)
    exact hpost _ _ _ _ _ _ _ _ _ _ _ _ _ _ _ _ yJ (by omega) yM zE aAR aA1 aAA zT yL xQ yY yK aAH zY
  · skip
    have c80 := mt (aAd _ _).mpr c80
    refine And.intro (fun c82 => ?_) (fun c82 => ?_)
    · skip
      have c82 := (aAd _ _).mp c82
      refine And.intro (aHE (by omega)) ?_
      refine And.intro (fun h9 => absurd h9 (by decide)) (fun _ => ?_)
      exact hpost _ _ _ _ _ _ _ _ _ _ _ _ _ _ _ _ yJ (by omega) yM zE aAR aA1 aAA zT yL xQ yY yK aAH zY
    · skip
      have c82 := mt (aAd _ _).mpr c82
      refine And.intro (aHE (by omega)) ?_
      refine And.intro (fun _ => ?_) (fun h9 => absurd h9 (by decide))
      intro v83 ev83
      have hv83 := congrArg Int32.toInt ev83
      refine aLb xJ vZ aAH xU xV aAW xK zM xT yF yD xZ zY (by omega) (by omega) (fun m_wanted_85 m_hand_86 h_m_wanted_85 h_m_hand_86 => ?_)
      refine And.intro (aBZ (by omega)) ?_
      intro v87 ev87
      have f89 := h_m_hand_86 p0.toNatClampNeg
      have f88 := aAQ m_wanted_85 (m_hand_86 p0.toNatClampNeg) (by omega)
      have f90 := aBx m_wanted_85 (m_hand_86 p0.toNatClampNeg) (by omega)
      have hv87 := congrArg Int32.toInt ev87
      exact ⟨18, tb_X10_pays_36 bT aG bW qG m_x gR pW qR nG oO pJ qO qQ xJ vZ zQ xU xV aAW xK yR zM xT yF yD xZ zG zI hc0 hc1 hpost _ p0 v87 0 0 bL 0 jD mLn oF rP dQ bZ aR aE bI aW m_wanted_85 sW m_hand_86 (by omega) (by omega) (by omega) yJ (by omega) yM zE aAR aA1 aAA zT yL xQ yY yK h_m_wanted_85 h_m_hand_86 (by omega)⟩
set_option maxHeartbeats 8000000 in
set_option maxRecDepth 200000 in
theorem ts_X10_trips_85 {post : Int32 -> Int32 -> Int32 -> Int32 -> (Nat -> Int32) -> (Nat -> Int32) -> Prop} {SB : Int} {K65 : Int32 -> Int32 -> Int32 -> Int32 -> Int32 -> Int32 -> (Nat -> Int32) -> (Nat -> Int32) -> Prop} {n65 : Int} (bT aG : Int32) (qG m_x gR qR nG oO pJ : Nat -> Int32) (xJ : 0 <= Int32.toInt bT /\ Int32.toInt bT <= 16) (vZ : 0 <= Int32.toInt aG /\ Int32.toInt aG <= 8) (xU : ∀ k : Nat, k = 17 -> -1 <= Int32.toInt (qG k) /\ Int32.toInt (qG k) <= SB) (xV : ∀ k : Nat, k = 19 -> 0 <= Int32.toInt (qG k) /\ Int32.toInt (qG k) <= 9) (aAW : ∀ k : Nat, 0 <= Int32.toInt (m_x k) /\ Int32.toInt (m_x k) <= 99) (xK : ∀ k : Nat, 0 <= Int32.toInt (gR k) /\ Int32.toInt (gR k) <= 99) (zM : ∀ k : Nat, 0 <= Int32.toInt (qR k) /\ Int32.toInt (qR k) <= 9) (xT : ∀ k : Nat, 0 <= Int32.toInt (nG k) /\ Int32.toInt (nG k) <= 99) (yF : ∀ k : Nat, 0 <= Int32.toInt (oO k) /\ Int32.toInt (oO k) <= 99) (yD : ∀ k : Nat, k = 4 -> 1 <= Int32.toInt (pJ k) /\ Int32.toInt (pJ k) <= 30) (xZ : ∀ k : Nat, k = 3 -> 0 <= Int32.toInt (pJ k) /\ Int32.toInt (pJ k) <= 9) (hc0 : -1 <= SB /\ SB <= 7) (hc1 : (Int32.toInt aG <= 0 /\ SB = 0) \/ (1 <= Int32.toInt aG /\ SB = Int32.toInt aG - 1)) (hpost : ∀ (r : Int32) (xM : Int32) (xG : Int32) (aAS : Int32) (aBX : Nat -> Int32) (aA5 : Nat -> Int32), (0 <= Int32.toInt xM /\ Int32.toInt xM <= 16) -> (0 <= Int32.toInt xG /\ Int32.toInt xG <= 0) -> (0 <= Int32.toInt aAS /\ Int32.toInt aAS <= 65535) -> (∀ k : Nat, 0 <= Int32.toInt (aA5 k) /\ Int32.toInt (aA5 k) <= 65535) -> post r xM xG aAS aBX aA5) (hK65 : ∀ (x2 : Int32) (x3 : Int32) (x4 : Int32) (bL : Int32) (bY : Int32) (dO : Int32) (sW : Nat -> Int32) (sH : Nat -> Int32), (0 <= Int32.toInt x2 /\ Int32.toInt x2 <= 63) -> (0 <= Int32.toInt x4 /\ Int32.toInt x4 <= 63) -> (0 <= Int32.toInt bL /\ Int32.toInt bL <= 16) -> (0 <= Int32.toInt bY /\ Int32.toInt bY <= 0) -> (0 <= Int32.toInt dO /\ Int32.toInt dO <= 65535) -> (∀ k : Nat, 0 <= Int32.toInt (sH k) /\ Int32.toInt (sH k) <= 65535) -> (Int32.toInt x4 - 0 < n65) -> K65 x2 x3 x4 bL bY dO sW sH) (x2 x3 x4 bL bY dO : Int32) (sW sH : Nat -> Int32) (aBN : 0 <= Int32.toInt x2 /\ Int32.toInt x2 <= 29) (aDO : 1 <= Int32.toInt x4 /\ Int32.toInt x4 <= 63) (yJ : 0 <= Int32.toInt bL /\ Int32.toInt bL <= 16) (yG : 0 <= Int32.toInt bY /\ Int32.toInt bY <= 0) (aAH : 0 <= Int32.toInt dO /\ Int32.toInt dO <= 65535) (zY : ∀ k : Nat, 0 <= Int32.toInt (sH k) /\ Int32.toInt (sH k) <= 65535) (hn65 : Int32.toInt x4 - 0 <= n65) : ws_X10_trips_85 post K65 bT aG qG m_x gR qR nG oO pJ x2 x3 x4 bL bY dO sW sH := by
  have l0 := aI2
  have l1 := aEc
  intro v1 ev1
  have f2 : Int32.toInt (x2 + 1) = Int32.toInt x2 + Int32.toInt (1 : Int32) := aAD _ _ (by omega)
  rw [<- ev1] at f2
  intro v3 ev3
  have f4 : Int32.toInt (x4 + (-1)) = Int32.toInt x4 + Int32.toInt ((-1) : Int32) := aAD _ _ (by omega)
  rw [<- ev3] at f4
  have f5 := aAT x3
  exact hK65 v1 x3 v3 bL bY dO sW sH (by omega) (by omega) yJ yG aAH zY (by omega)
set_option maxHeartbeats 8000000 in
set_option maxRecDepth 200000 in
theorem ts_X10_trips_65 {post : Int32 -> Int32 -> Int32 -> Int32 -> (Nat -> Int32) -> (Nat -> Int32) -> Prop} {SB : Int} {next : Int32 -> Int32 -> Int32 -> Int32 -> Int32 -> Int32 -> (Nat -> Int32) -> (Nat -> Int32) -> Prop} {n65 : Int} (bT aG : Int32) (qG m_x gR qR nG oO pJ : Nat -> Int32) (xJ : 0 <= Int32.toInt bT /\ Int32.toInt bT <= 16) (vZ : 0 <= Int32.toInt aG /\ Int32.toInt aG <= 8) (xU : ∀ k : Nat, k = 17 -> -1 <= Int32.toInt (qG k) /\ Int32.toInt (qG k) <= SB) (xV : ∀ k : Nat, k = 19 -> 0 <= Int32.toInt (qG k) /\ Int32.toInt (qG k) <= 9) (aAW : ∀ k : Nat, 0 <= Int32.toInt (m_x k) /\ Int32.toInt (m_x k) <= 99) (xK : ∀ k : Nat, 0 <= Int32.toInt (gR k) /\ Int32.toInt (gR k) <= 99) (zM : ∀ k : Nat, 0 <= Int32.toInt (qR k) /\ Int32.toInt (qR k) <= 9) (xT : ∀ k : Nat, 0 <= Int32.toInt (nG k) /\ Int32.toInt (nG k) <= 99) (yF : ∀ k : Nat, 0 <= Int32.toInt (oO k) /\ Int32.toInt (oO k) <= 99) (yD : ∀ k : Nat, k = 4 -> 1 <= Int32.toInt (pJ k) /\ Int32.toInt (pJ k) <= 30) (xZ : ∀ k : Nat, k = 3 -> 0 <= Int32.toInt (pJ k) /\ Int32.toInt (pJ k) <= 9) (hc0 : -1 <= SB /\ SB <= 7) (hc1 : (Int32.toInt aG <= 0 /\ SB = 0) \/ (1 <= Int32.toInt aG /\ SB = Int32.toInt aG - 1)) (hpost : ∀ (r : Int32) (xM : Int32) (xG : Int32) (aAS : Int32) (aBX : Nat -> Int32) (aA5 : Nat -> Int32), (0 <= Int32.toInt xM /\ Int32.toInt xM <= 16) -> (0 <= Int32.toInt xG /\ Int32.toInt xG <= 0) -> (0 <= Int32.toInt aAS /\ Int32.toInt aAS <= 65535) -> (∀ k : Nat, 0 <= Int32.toInt (aA5 k) /\ Int32.toInt (aA5 k) <= 65535) -> post r xM xG aAS aBX aA5) (hKn : ∀ (x2 : Int32) (x3 : Int32) (x4 : Int32) (bL : Int32) (bY : Int32) (dO : Int32) (sW : Nat -> Int32) (sH : Nat -> Int32), (0 <= Int32.toInt x2 /\ Int32.toInt x2 <= 63) -> (0 <= Int32.toInt x4 /\ Int32.toInt x4 <= 63) -> (0 <= Int32.toInt bL /\ Int32.toInt bL <= 16) -> (0 <= Int32.toInt bY /\ Int32.toInt bY <= 0) -> (0 <= Int32.toInt dO /\ Int32.toInt dO <= 65535) -> (∀ k : Nat, 0 <= Int32.toInt (sH k) /\ Int32.toInt (sH k) <= 65535) -> (Int32.toInt x4 - 0 < n65) -> next x2 x3 x4 bL bY dO sW sH) (x2 x3 x4 bL bY dO : Int32) (sW sH : Nat -> Int32) (aBN : 0 <= Int32.toInt x2 /\ Int32.toInt x2 <= 63) (aDO : 0 <= Int32.toInt x4 /\ Int32.toInt x4 <= 63) (yJ : 0 <= Int32.toInt bL /\ Int32.toInt bL <= 16) (yG : 0 <= Int32.toInt bY /\ Int32.toInt bY <= 0) (aAH : 0 <= Int32.toInt dO /\ Int32.toInt dO <= 65535) (zY : ∀ k : Nat, 0 <= Int32.toInt (sH k) /\ Int32.toInt (sH k) <= 65535) (hn65 : Int32.toInt x4 - 0 <= n65) : ws_X10_trips_65 post next bT aG qG m_x gR qR nG oO pJ x2 x3 x4 bL bY dO sW sH := by
  have l0 := aE0
  have l1 := aEc
  have l2 := li_4
  refine And.intro (fun c6 => ?_) (fun c6 => ?_)
  · skip
    have c6 := (aAO _ _).mp c6
    refine And.intro (aBZ (by omega)) ?_
    intro v7 ev7
    have f8 : Int32.toInt (0 + 1) = Int32.toInt (0 : Int32) + Int32.toInt (1 : Int32) := aAD _ _ (by omega)
    rw [<- ev7] at f8
    exact hpost _ _ _ _ _ _ (by omega) yG aAH zY
  · skip
    have c6 := mt (aAO _ _).mpr c6
    have q9 := yD (4 : Int32).toNatClampNeg (by have e9 : (4 : Int32).toNatClampNeg = (Int32.toInt (4 : Int32)).toNat := rfl; omega)
    refine And.intro (fun c10 => ?_) (fun c10 => ?_)
    · skip
      have c10 := (aAd _ _).mp c10
      have f12 := aAT x3
      exact ts_X10_trips_85 bT aG qG m_x gR qR nG oO pJ xJ vZ xU xV aAW xK zM xT yF yD xZ hc0 hc1 hpost hKn x2 x3 x4 bL bY dO sW sH (by omega) (by omega) yJ yG aAH zY hn65
    · skip
      have c10 := mt (aAd _ _).mpr c10
      intro v13 ev13
      have hv13 := congrArg Int32.toInt ev13
      have f15 := aAT v13
      exact ts_X10_trips_85 bT aG qG m_x gR qR nG oO pJ xJ vZ xU xV aAW xK zM xT yF yD xZ hc0 hc1 hpost hKn 0 v13 x4 bL bY dO sW sH (by omega) (by omega) yJ yG aAH zY hn65
set_option maxHeartbeats 8000000 in
set_option maxRecDepth 200000 in
theorem tb_X10_trips_65 {post : Int32 -> Int32 -> Int32 -> Int32 -> (Nat -> Int32) -> (Nat -> Int32) -> Prop} {SB : Int} (bT aG : Int32) (qG m_x gR qR nG oO pJ : Nat -> Int32) (xJ : 0 <= Int32.toInt bT /\ Int32.toInt bT <= 16) (vZ : 0 <= Int32.toInt aG /\ Int32.toInt aG <= 8) (xU : ∀ k : Nat, k = 17 -> -1 <= Int32.toInt (qG k) /\ Int32.toInt (qG k) <= SB) (xV : ∀ k : Nat, k = 19 -> 0 <= Int32.toInt (qG k) /\ Int32.toInt (qG k) <= 9) (aAW : ∀ k : Nat, 0 <= Int32.toInt (m_x k) /\ Int32.toInt (m_x k) <= 99) (xK : ∀ k : Nat, 0 <= Int32.toInt (gR k) /\ Int32.toInt (gR k) <= 99) (zM : ∀ k : Nat, 0 <= Int32.toInt (qR k) /\ Int32.toInt (qR k) <= 9) (xT : ∀ k : Nat, 0 <= Int32.toInt (nG k) /\ Int32.toInt (nG k) <= 99) (yF : ∀ k : Nat, 0 <= Int32.toInt (oO k) /\ Int32.toInt (oO k) <= 99) (yD : ∀ k : Nat, k = 4 -> 1 <= Int32.toInt (pJ k) /\ Int32.toInt (pJ k) <= 30) (xZ : ∀ k : Nat, k = 3 -> 0 <= Int32.toInt (pJ k) /\ Int32.toInt (pJ k) <= 9) (hc0 : -1 <= SB /\ SB <= 7) (hc1 : (Int32.toInt aG <= 0 /\ SB = 0) \/ (1 <= Int32.toInt aG /\ SB = Int32.toInt aG - 1)) (hpost : ∀ (r : Int32) (xM : Int32) (xG : Int32) (aAS : Int32) (aBX : Nat -> Int32) (aA5 : Nat -> Int32), (0 <= Int32.toInt xM /\ Int32.toInt xM <= 16) -> (0 <= Int32.toInt xG /\ Int32.toInt xG <= 0) -> (0 <= Int32.toInt aAS /\ Int32.toInt aAS <= 65535) -> (∀ k : Nat, 0 <= Int32.toInt (aA5 k) /\ Int32.toInt (aA5 k) <= 65535) -> post r xM xG aAS aBX aA5) : ∀ (n : Nat) (x2 x3 x4 bL bY dO : Int32) (sW sH : Nat -> Int32), (0 <= Int32.toInt x2 /\ Int32.toInt x2 <= 63) -> (0 <= Int32.toInt x4 /\ Int32.toInt x4 <= 63) -> (0 <= Int32.toInt bL /\ Int32.toInt bL <= 16) -> (0 <= Int32.toInt bY /\ Int32.toInt bY <= 0) -> (0 <= Int32.toInt dO /\ Int32.toInt dO <= 65535) -> (∀ k : Nat, 0 <= Int32.toInt (sH k) /\ Int32.toInt (sH k) <= 65535) -> (Int32.toInt x4 - 0 < (n : Int)) -> wb_X10_trips_65 post bT aG qG m_x gR qR nG oO pJ n x2 x3 x4 bL bY dO sW sH := by
  intro n
  induction n with
  | zero =>
    intro x2 x3 x4 bL bY dO sW sH aBN aDO yJ yG aAH zY hm
    exfalso; omega
  | succ n ih =>
    intro x2 x3 x4 bL bY dO sW sH aBN aDO yJ yG aAH zY hm
    exact ts_X10_trips_65 bT aG qG m_x gR qR nG oO pJ xJ vZ xU xV aAW xK zM xT yF yD xZ hc0 hc1 hpost ih x2 x3 x4 bL bY dO sW sH aBN aDO yJ yG aAH zY (by omega)
set_option maxHeartbeats 8000000 in
set_option maxRecDepth 200000 in
theorem ts_X10_trips_46 {post : Int32 -> Int32 -> Int32 -> Int32 -> (Nat -> Int32) -> (Nat -> Int32) -> Prop} {SB : Int} (bT aG : Int32) (qG m_x gR qR nG oO pJ : Nat -> Int32) (xJ : 0 <= Int32.toInt bT /\ Int32.toInt bT <= 16) (vZ : 0 <= Int32.toInt aG /\ Int32.toInt aG <= 8) (xU : ∀ k : Nat, k = 17 -> -1 <= Int32.toInt (qG k) /\ Int32.toInt (qG k) <= SB) (xV : ∀ k : Nat, k = 19 -> 0 <= Int32.toInt (qG k) /\ Int32.toInt (qG k) <= 9) (aAW : ∀ k : Nat, 0 <= Int32.toInt (m_x k) /\ Int32.toInt (m_x k) <= 99) (xK : ∀ k : Nat, 0 <= Int32.toInt (gR k) /\ Int32.toInt (gR k) <= 99) (zM : ∀ k : Nat, 0 <= Int32.toInt (qR k) /\ Int32.toInt (qR k) <= 9) (xT : ∀ k : Nat, 0 <= Int32.toInt (nG k) /\ Int32.toInt (nG k) <= 99) (yF : ∀ k : Nat, 0 <= Int32.toInt (oO k) /\ Int32.toInt (oO k) <= 99) (yD : ∀ k : Nat, k = 4 -> 1 <= Int32.toInt (pJ k) /\ Int32.toInt (pJ k) <= 30) (xZ : ∀ k : Nat, k = 3 -> 0 <= Int32.toInt (pJ k) /\ Int32.toInt (pJ k) <= 9) (hc0 : -1 <= SB /\ SB <= 7) (hc1 : (Int32.toInt aG <= 0 /\ SB = 0) \/ (1 <= Int32.toInt aG /\ SB = Int32.toInt aG - 1)) (hpost : ∀ (r : Int32) (xM : Int32) (xG : Int32) (aAS : Int32) (aBX : Nat -> Int32) (aA5 : Nat -> Int32), (0 <= Int32.toInt xM /\ Int32.toInt xM <= 16) -> (0 <= Int32.toInt xG /\ Int32.toInt xG <= 0) -> (0 <= Int32.toInt aAS /\ Int32.toInt aAS <= 65535) -> (∀ k : Nat, 0 <= Int32.toInt (aA5 k) /\ Int32.toInt (aA5 k) <= 65535) -> post r xM xG aAS aBX aA5) (x1 k0 bL bY dO : Int32) (sW sH : Nat -> Int32) (aBK : 0 <= Int32.toInt x1 /\ Int32.toInt x1 <= 7) (h_k0 : 0 <= Int32.toInt k0 /\ Int32.toInt k0 <= 63) (yJ : 0 <= Int32.toInt bL /\ Int32.toInt bL <= 16) (yG : 0 <= Int32.toInt bY /\ Int32.toInt bY <= 0) (aAH : 0 <= Int32.toInt dO /\ Int32.toInt dO <= 65535) (zY : ∀ k : Nat, 0 <= Int32.toInt (sH k) /\ Int32.toInt (sH k) <= 65535) : ws_X10_trips_46 post bT aG qG m_x gR qR nG oO pJ x1 k0 bL bY dO sW sH := by
  have l0 := aE0
  have l1 := aKH
  have l2 := aJ8
  have l3 := li_63
  have l4 := aJ9
  refine And.intro (aBZ (by omega)) ?_
  intro v16 ev16
  have f18 := zY x1.toNatClampNeg
  have f17 := aAQ dO (sH x1.toNatClampNeg) (by omega)
  have f19 := aBx dO (sH x1.toNatClampNeg) (by omega)
  have hv16 := congrArg Int32.toInt ev16
  intro v20 ev20
  intro v21 ev21
  have f23 := aAQ v20 1431655765 (by omega)
  have f22 : Int32.toInt (v16 - (v20 &&& 1431655765)) = Int32.toInt v16 - Int32.toInt (v20 &&& 1431655765) := aCA _ _ (by omega)
  rw [<- ev21] at f22
  intro v24 ev24
  have f25 := aAQ v21 858993459 (by omega)
  have hv24 := congrArg Int32.toInt ev24
  intro v26 ev26
  intro v27 ev27
  have f29 := aAQ v26 858993459 (by omega)
  have f28 : Int32.toInt (v24 + (v26 &&& 858993459)) = Int32.toInt v24 + Int32.toInt (v26 &&& 858993459) := aAD _ _ (by omega)
  rw [<- ev27] at f28
  intro v30 ev30
  have hv30 := congrArg Int32.toInt ev30
  intro v32 ev32
  have f33 := aAQ v30 252645135 (by omega)
  have hv32 := congrArg Int32.toInt ev32
  intro v34 ev34
  have hv34 := congrArg Int32.toInt ev34
  intro v36 ev36
  have hv36 := congrArg Int32.toInt ev36
  have f38 := aAQ v36 63 (by omega)
  exact ⟨65, tb_X10_trips_65 bT aG qG m_x gR qR nG oO pJ xJ vZ xU xV aAW xK zM xT yF yD xZ hc0 hc1 hpost _ k0 0 (v36 &&& 63) bL bY dO sW sH h_k0 (by omega) yJ yG aAH zY (by omega)⟩
set_option maxHeartbeats 8000000 in
set_option maxRecDepth 200000 in
theorem t_X10_trips {post : Int32 -> Int32 -> Int32 -> Int32 -> (Nat -> Int32) -> (Nat -> Int32) -> Prop} {SB : Int} {p0 bT aG bL bY dO : Int32} {qG m_x gR qR nG oO pJ sW sH : Nat -> Int32} (xJ : 0 <= Int32.toInt bT /\ Int32.toInt bT <= 16) (vZ : 0 <= Int32.toInt aG /\ Int32.toInt aG <= 8) (yJ : 0 <= Int32.toInt bL /\ Int32.toInt bL <= 16) (yG : 0 <= Int32.toInt bY /\ Int32.toInt bY <= 1) (aAH : 0 <= Int32.toInt dO /\ Int32.toInt dO <= 65535) (xU : ∀ k : Nat, k = 17 -> -1 <= Int32.toInt (qG k) /\ Int32.toInt (qG k) <= SB) (xV : ∀ k : Nat, k = 19 -> 0 <= Int32.toInt (qG k) /\ Int32.toInt (qG k) <= 9) (aAW : ∀ k : Nat, 0 <= Int32.toInt (m_x k) /\ Int32.toInt (m_x k) <= 99) (xK : ∀ k : Nat, 0 <= Int32.toInt (gR k) /\ Int32.toInt (gR k) <= 99) (zM : ∀ k : Nat, 0 <= Int32.toInt (qR k) /\ Int32.toInt (qR k) <= 9) (xT : ∀ k : Nat, 0 <= Int32.toInt (nG k) /\ Int32.toInt (nG k) <= 99) (yF : ∀ k : Nat, 0 <= Int32.toInt (oO k) /\ Int32.toInt (oO k) <= 99) (yD : ∀ k : Nat, k = 4 -> 1 <= Int32.toInt (pJ k) /\ Int32.toInt (pJ k) <= 30) (xZ : ∀ k : Nat, k = 3 -> 0 <= Int32.toInt (pJ k) /\ Int32.toInt (pJ k) <= 9) (zY : ∀ k : Nat, 0 <= Int32.toInt (sH k) /\ Int32.toInt (sH k) <= 65535) (hc0 : -1 <= SB /\ SB <= 7) (hc1 : (Int32.toInt aG <= 0 /\ SB = 0) \/ (1 <= Int32.toInt aG /\ SB = Int32.toInt aG - 1)) (hpost : ∀ (r : Int32) (xM : Int32) (xG : Int32) (aAS : Int32) (aBX : Nat -> Int32) (aA5 : Nat -> Int32), (0 <= Int32.toInt xM /\ Int32.toInt xM <= 16) -> (0 <= Int32.toInt xG /\ Int32.toInt xG <= 0) -> (0 <= Int32.toInt aAS /\ Int32.toInt aAS <= 65535) -> (∀ k : Nat, 0 <= Int32.toInt (aA5 k) /\ Int32.toInt (aA5 k) <= 65535) -> post r xM xG aAS aBX aA5) : wp_X10_trips post p0 bT aG bL bY dO qG m_x gR qR nG oO pJ sW sH := by
  have l0 := aE0
  have l1 := aEc
  have l2 := aKH
  have l3 := li_17
  have l4 := li_18
  have l5 := aJ8
  have l6 := li_63
  have l7 := aJ9
  intro v39 ev39
  have f40 : Int32.toInt (aG - 1) = Int32.toInt aG - Int32.toInt (1 : Int32) := aCA _ _ (by omega)
  rw [<- ev39] at f40
  have f42 := aAT p0
  refine And.intro (fun c41 => ?_) (fun c41 => ?_)
  · skip
    have c41 := (aAd _ _).mp c41
    refine And.intro (aHE (by omega)) ?_
    refine And.intro (fun h9 => absurd h9 (by decide)) (fun _ => ?_)
    exact hpost _ _ _ _ _ _ yJ (by omega) aAH zY
  · skip
    have c41 := mt (aAd _ _).mpr c41
    refine And.intro (fun c43 => ?_) (fun c43 => ?_)
    · skip
      have c43 := (aAd _ _).mp c43
      refine And.intro (aHE (by omega)) ?_
      refine And.intro (fun h9 => absurd h9 (by decide)) (fun _ => ?_)
      exact hpost _ _ _ _ _ _ yJ (by omega) aAH zY
    · skip
      have c43 := mt (aAd _ _).mpr c43
      refine And.intro (aHE (by omega)) ?_
      refine And.intro (fun _ => ?_) (fun h9 => absurd h9 (by decide))
      intro v44 ev44
      have hv44 := congrArg Int32.toInt ev44
      refine aLb xJ vZ aAH xU xV aAW xK zM xT yF yD xZ zY (by omega) (by omega) (fun m_wanted_46 m_hand_47 h_m_wanted_46 h_m_hand_47 => ?_)
      have q48 := xU (17 : Int32).toNatClampNeg (by have e9 : (17 : Int32).toNatClampNeg = (Int32.toInt (17 : Int32)).toNat := rfl; omega)
      intro v49 ev49
      have hv49 := congrArg Int32.toInt ev49
      refine And.intro (fun c51 => ?_) (fun c51 => ?_)
      · skip
        have c51 := mt (zJ _ _).mpr c51
        exact ts_X10_trips_46 bT aG qG m_x gR qR nG oO pJ xJ vZ xU xV aAW xK zM xT yF yD xZ hc0 hc1 hpost p0 0 bL 0 m_wanted_46 sW m_hand_47 (by omega) (by omega) yJ (by omega) h_m_wanted_46 h_m_hand_47
      · skip
        have c51 := (zJ _ _).mp c51
        refine aKO (by omega) xJ xU xV (by omega) (fun r52 h_r52 ox53 => ?_)
        intro v54 ev54
        intro v55 ev55
        have f57 := aAQ v54 1431655765 (by omega)
        have f56 : Int32.toInt (r52 - (v54 &&& 1431655765)) = Int32.toInt r52 - Int32.toInt (v54 &&& 1431655765) := aCA _ _ (by omega)
        rw [<- ev55] at f56
        intro v58 ev58
        have f59 := aAQ v55 858993459 (by omega)
        have hv58 := congrArg Int32.toInt ev58
        intro v60 ev60
        intro v61 ev61
        have f63 := aAQ v60 858993459 (by omega)
        have f62 : Int32.toInt (v58 + (v60 &&& 858993459)) = Int32.toInt v58 + Int32.toInt (v60 &&& 858993459) := aAD _ _ (by omega)
        rw [<- ev61] at f62
        intro v64 ev64
        have hv64 := congrArg Int32.toInt ev64
        intro v66 ev66
        have f67 := aAQ v64 252645135 (by omega)
        have hv66 := congrArg Int32.toInt ev66
        intro v68 ev68
        have hv68 := congrArg Int32.toInt ev68
        intro v70 ev70
        have hv70 := congrArg Int32.toInt ev70
        have f72 := aAQ v70 63 (by omega)
        exact ts_X10_trips_46 bT aG qG m_x gR qR nG oO pJ xJ vZ xU xV aAW xK zM xT yF yD xZ hc0 hc1 hpost p0 (v70 &&& 63) bL 0 m_wanted_46 sW m_hand_47 (by omega) (by omega) yJ (by omega) h_m_wanted_46 h_m_hand_47
set_option maxHeartbeats 8000000 in
set_option maxRecDepth 200000 in
theorem t_X10_helps {post : Int32 -> Int32 -> Int32 -> Int32 -> (Nat -> Int32) -> (Nat -> Int32) -> Prop} {SB : Int} {bT aG bL bY dO : Int32} {qG m_x gR qR nG oO pJ sW sH : Nat -> Int32} (xJ : 0 <= Int32.toInt bT /\ Int32.toInt bT <= 16) (vZ : 0 <= Int32.toInt aG /\ Int32.toInt aG <= 8) (yJ : 0 <= Int32.toInt bL /\ Int32.toInt bL <= 16) (yG : 0 <= Int32.toInt bY /\ Int32.toInt bY <= 1) (aAH : 0 <= Int32.toInt dO /\ Int32.toInt dO <= 65535) (xU : ∀ k : Nat, k = 17 -> -1 <= Int32.toInt (qG k) /\ Int32.toInt (qG k) <= SB) (xV : ∀ k : Nat, k = 19 -> 0 <= Int32.toInt (qG k) /\ Int32.toInt (qG k) <= 9) (aAW : ∀ k : Nat, 0 <= Int32.toInt (m_x k) /\ Int32.toInt (m_x k) <= 99) (xK : ∀ k : Nat, 0 <= Int32.toInt (gR k) /\ Int32.toInt (gR k) <= 99) (zM : ∀ k : Nat, 0 <= Int32.toInt (qR k) /\ Int32.toInt (qR k) <= 9) (xT : ∀ k : Nat, 0 <= Int32.toInt (nG k) /\ Int32.toInt (nG k) <= 99) (yF : ∀ k : Nat, 0 <= Int32.toInt (oO k) /\ Int32.toInt (oO k) <= 99) (yD : ∀ k : Nat, k = 4 -> 1 <= Int32.toInt (pJ k) /\ Int32.toInt (pJ k) <= 30) (xZ : ∀ k : Nat, k = 3 -> 0 <= Int32.toInt (pJ k) /\ Int32.toInt (pJ k) <= 9) (zY : ∀ k : Nat, 0 <= Int32.toInt (sH k) /\ Int32.toInt (sH k) <= 65535) (hc0 : -1 <= SB /\ SB <= 7) (hc1 : (Int32.toInt aG <= 0 /\ SB = 0) \/ (1 <= Int32.toInt aG /\ SB = Int32.toInt aG - 1)) (hpost : ∀ (r : Int32) (xM : Int32) (xG : Int32) (aAS : Int32) (aBX : Nat -> Int32) (aA5 : Nat -> Int32), (-63 <= Int32.toInt r /\ Int32.toInt r <= 63) -> (2 <= Int32.toInt xM /\ Int32.toInt xM <= 2) -> (0 <= Int32.toInt xG /\ Int32.toInt xG <= 0) -> (0 <= Int32.toInt aAS /\ Int32.toInt aAS <= 65535) -> (∀ k : Nat, 0 <= Int32.toInt (aA5 k) /\ Int32.toInt (aA5 k) <= 65535) -> post r xM xG aAS aBX aA5) : wp_X10_helps post bT aG bL bY dO qG m_x gR qR nG oO pJ sW sH := by
  have l0 := aE0
  have l1 := aEc
  have l2 := aKH
  have l3 := aJ8
  have l4 := li_63
  have l5 := aJ9
  refine aLb xJ vZ aAH xU xV aAW xK zM xT yF yD xZ zY (by omega) (by omega) (fun aDN aII h_m_wanted_1 h_m_hand_2 => ?_)
  refine t_X10_cover h_m_wanted_1 vZ h_m_hand_2 (fun r3 h_r3 => ?_)
  intro v4 ev4
  intro v5 ev5
  have f7 := aAQ v4 1431655765 (by omega)
  have f6 : Int32.toInt (r3 - (v4 &&& 1431655765)) = Int32.toInt r3 - Int32.toInt (v4 &&& 1431655765) := aCA _ _ (by omega)
  rw [<- ev5] at f6
  intro v8 ev8
  have f9 := aAQ v5 858993459 (by omega)
  have hv8 := congrArg Int32.toInt ev8
  intro v10 ev10
  intro v11 ev11
  have f13 := aAQ v10 858993459 (by omega)
  have f12 : Int32.toInt (v8 + (v10 &&& 858993459)) = Int32.toInt v8 + Int32.toInt (v10 &&& 858993459) := aAD _ _ (by omega)
  rw [<- ev11] at f12
  intro v14 ev14
  have hv14 := congrArg Int32.toInt ev14
  intro v16 ev16
  have f17 := aAQ v14 252645135 (by omega)
  have hv16 := congrArg Int32.toInt ev16
  intro v18 ev18
  have hv18 := congrArg Int32.toInt ev18
  intro v20 ev20
  have hv20 := congrArg Int32.toInt ev20
  intro v22 ev22
  intro v23 ev23
  have f25 := aAQ v22 1431655765 (by omega)
  have f24 : Int32.toInt (aDN - (v22 &&& 1431655765)) = Int32.toInt aDN - Int32.toInt (v22 &&& 1431655765) := aCA _ _ (by omega)
  rw [<- ev23] at f24
  intro v26 ev26
  have f27 := aAQ v23 858993459 (by omega)
  have hv26 := congrArg Int32.toInt ev26
  intro v28 ev28
  intro v29 ev29
  have f31 := aAQ v28 858993459 (by omega)
  have f30 : Int32.toInt (v26 + (v28 &&& 858993459)) = Int32.toInt v26 + Int32.toInt (v28 &&& 858993459) := aAD _ _ (by omega)
  rw [<- ev29] at f30
  intro v32 ev32
  have hv32 := congrArg Int32.toInt ev32
  intro v34 ev34
  have f35 := aAQ v32 252645135 (by omega)
  have hv34 := congrArg Int32.toInt ev34
  intro v36 ev36
  have hv36 := congrArg Int32.toInt ev36
  intro v38 ev38
  have hv38 := congrArg Int32.toInt ev38
  refine aLb xJ vZ h_m_wanted_1 xU xV aAW xK zM xT yF yD xZ h_m_hand_2 (by omega) (by omega) (fun m_wanted_40 m_hand_41 h_m_wanted_40 h_m_hand_41 => ?_)
  refine t_X10_cover h_m_wanted_40 vZ h_m_hand_41 (fun r42 h_r42 => ?_)
  intro v43 ev43
  intro v44 ev44
  have f46 := aAQ v43 1431655765 (by omega)
  have f45 : Int32.toInt (r42 - (v43 &&& 1431655765)) = Int32.toInt r42 - Int32.toInt (v43 &&& 1431655765) := aCA _ _ (by omega)
  rw [<- ev44] at f45
  intro v47 ev47
  have f48 := aAQ v44 858993459 (by omega)
  have hv47 := congrArg Int32.toInt ev47
  intro v49 ev49
  intro v50 ev50
  have f52 := aAQ v49 858993459 (by omega)
  have f51 : Int32.toInt (v47 + (v49 &&& 858993459)) = Int32.toInt v47 + Int32.toInt (v49 &&& 858993459) := aAD _ _ (by omega)
  rw [<- ev50] at f51
  intro v53 ev53
  have hv53 := congrArg Int32.toInt ev53
  intro v55 ev55
  have f56 := aAQ v53 252645135 (by omega)
  have hv55 := congrArg Int32.toInt ev55
  intro v57 ev57
  have hv57 := congrArg Int32.toInt ev57
  intro v59 ev59
  have hv59 := congrArg Int32.toInt ev59
  refine And.intro (aBZ (by omega)) ?_
  intro v61 ev61
  have f62 : Int32.toInt (0 + 1) = Int32.toInt (0 : Int32) + Int32.toInt (1 : Int32) := aAD _ _ (by omega)
  rw [<- ev61] at f62
  intro v63 ev63
  intro v64 ev64
  have f66 := aAQ v63 1431655765 (by omega)
  have f65 : Int32.toInt (m_wanted_40 - (v63 &&& 1431655765)) = Int32.toInt m_wanted_40 - Int32.toInt (v63 &&& 1431655765) := aCA _ _ (by omega)
  rw [<- ev64] at f65
  intro v67 ev67
  have f68 := aAQ v64 858993459 (by omega)
  have hv67 := congrArg Int32.toInt ev67
  intro v69 ev69
  intro v70 ev70
  have f72 := aAQ v69 858993459 (by omega)
  have f71 : Int32.toInt (v67 + (v69 &&& 858993459)) = Int32.toInt v67 + Int32.toInt (v69 &&& 858993459) := aAD _ _ (by omega)
  rw [<- ev70] at f71
  intro v73 ev73
  have hv73 := congrArg Int32.toInt ev73
  intro v75 ev75
  have f76 := aAQ v73 252645135 (by omega)
  have hv75 := congrArg Int32.toInt ev75
  intro v77 ev77
  have hv77 := congrArg Int32.toInt ev77
  intro v79 ev79
  have hv79 := congrArg Int32.toInt ev79
  refine And.intro (aBZ (by omega)) ?_
  intro v81 ev81
  have f82 : Int32.toInt (v61 + 1) = Int32.toInt v61 + Int32.toInt (1 : Int32) := aAD _ _ (by omega)
  rw [<- ev81] at f82
  have f84 := aAQ v20 63 (by omega)
  have f85 := aAQ v59 63 (by omega)
  have f83 : Int32.toInt ((v20 &&& 63) - (v59 &&& 63)) = Int32.toInt (v20 &&& 63) - Int32.toInt (v59 &&& 63) := aCA _ _ (by omega)
  exact hpost _ _ _ _ _ _ (by omega) (by omega) (by omega) h_m_wanted_40 h_m_hand_41
set_option maxHeartbeats 8000000 in
set_option maxRecDepth 200000 in
theorem ts_X10_hooked_107 {post : Int32 -> Int32 -> Int32 -> Int32 -> (Nat -> Int32) -> (Nat -> Int32) -> Prop} {SB : Int} {K52 : Int32 -> Int32 -> Int32 -> Int32 -> Int32 -> Int32 -> Int32 -> Int32 -> (Nat -> Int32) -> (Nat -> Int32) -> Prop} {n52 : Int} (bT aG : Int32) (qG m_x gR qR nG oO pJ : Nat -> Int32) (xJ : 0 <= Int32.toInt bT /\ Int32.toInt bT <= 16) (vZ : 0 <= Int32.toInt aG /\ Int32.toInt aG <= 8) (xU : ∀ k : Nat, k = 17 -> -1 <= Int32.toInt (qG k) /\ Int32.toInt (qG k) <= SB) (xV : ∀ k : Nat, k = 19 -> 0 <= Int32.toInt (qG k) /\ Int32.toInt (qG k) <= 9) (aAW : ∀ k : Nat, 0 <= Int32.toInt (m_x k) /\ Int32.toInt (m_x k) <= 99) (xK : ∀ k : Nat, 0 <= Int32.toInt (gR k) /\ Int32.toInt (gR k) <= 99) (zM : ∀ k : Nat, 0 <= Int32.toInt (qR k) /\ Int32.toInt (qR k) <= 9) (xT : ∀ k : Nat, 0 <= Int32.toInt (nG k) /\ Int32.toInt (nG k) <= 99) (yF : ∀ k : Nat, 0 <= Int32.toInt (oO k) /\ Int32.toInt (oO k) <= 99) (yD : ∀ k : Nat, k = 4 -> 1 <= Int32.toInt (pJ k) /\ Int32.toInt (pJ k) <= 30) (xZ : ∀ k : Nat, k = 3 -> 0 <= Int32.toInt (pJ k) /\ Int32.toInt (pJ k) <= 9) (hc0 : -1 <= SB /\ SB <= 7) (hc1 : (Int32.toInt aG <= 0 /\ SB = 0) \/ (1 <= Int32.toInt aG /\ SB = Int32.toInt aG - 1)) (hpost : ∀ (r : Int32) (xM : Int32) (xG : Int32) (aAS : Int32) (aBX : Nat -> Int32) (aA5 : Nat -> Int32), (0 <= Int32.toInt r /\ Int32.toInt r <= 65535) -> (2 <= Int32.toInt xM /\ Int32.toInt xM <= 2) -> (0 <= Int32.toInt xG /\ Int32.toInt xG <= 0) -> (0 <= Int32.toInt aAS /\ Int32.toInt aAS <= 65535) -> (∀ k : Nat, 0 <= Int32.toInt (aA5 k) /\ Int32.toInt (aA5 k) <= 65535) -> post r xM xG aAS aBX aA5) (hK52 : ∀ (x1 : Int32) (x2 : Int32) (x3 : Int32) (x4 : Int32) (x5 : Int32) (bL : Int32) (bY : Int32) (dO : Int32) (sW : Nat -> Int32) (sH : Nat -> Int32), (0 <= Int32.toInt x1 /\ Int32.toInt x1 <= 65535) -> (0 <= Int32.toInt x2 /\ Int32.toInt x2 <= 65535) -> (-1 <= Int32.toInt x3 /\ Int32.toInt x3 <= 7) -> (0 <= Int32.toInt x4 /\ Int32.toInt x4 <= 63) -> (0 <= Int32.toInt x5 /\ Int32.toInt x5 <= 8) -> (0 <= Int32.toInt bL /\ Int32.toInt bL <= 16) -> (0 <= Int32.toInt bY /\ Int32.toInt bY <= 0) -> (0 <= Int32.toInt dO /\ Int32.toInt dO <= 65535) -> (∀ k : Nat, 0 <= Int32.toInt (sH k) /\ Int32.toInt (sH k) <= 65535) -> (8 - Int32.toInt x5 < n52) -> K52 x1 x2 x3 x4 x5 bL bY dO sW sH) (x1 x2 x3 x4 x5 bL bY dO : Int32) (sW sH : Nat -> Int32) (aBK : 0 <= Int32.toInt x1 /\ Int32.toInt x1 <= 65535) (aBN : 0 <= Int32.toInt x2 /\ Int32.toInt x2 <= 65535) (aCH : -1 <= Int32.toInt x3 /\ Int32.toInt x3 <= 7) (aDO : 0 <= Int32.toInt x4 /\ Int32.toInt x4 <= 63) (aF7 : 0 <= Int32.toInt x5 /\ Int32.toInt x5 <= 7) (yJ : 0 <= Int32.toInt bL /\ Int32.toInt bL <= 16) (yG : 0 <= Int32.toInt bY /\ Int32.toInt bY <= 0) (aAH : 0 <= Int32.toInt dO /\ Int32.toInt dO <= 65535) (zY : ∀ k : Nat, 0 <= Int32.toInt (sH k) /\ Int32.toInt (sH k) <= 65535) (hn52 : 8 - Int32.toInt x5 <= n52) : ws_X10_hooked_107 post K52 bT aG qG m_x gR qR nG oO pJ x1 x2 x3 x4 x5 bL bY dO sW sH := by
  have l0 := aEc
  intro v1 ev1
  have f2 : Int32.toInt (x5 + 1) = Int32.toInt x5 + Int32.toInt (1 : Int32) := aAD _ _ (by omega)
  rw [<- ev1] at f2
  exact hK52 x1 x2 x3 x4 v1 bL bY dO sW sH aBK aBN aCH aDO (by omega) yJ yG aAH zY (by omega)
set_option maxHeartbeats 8000000 in
set_option maxRecDepth 200000 in
theorem ts_X10_hooked_52 {post : Int32 -> Int32 -> Int32 -> Int32 -> (Nat -> Int32) -> (Nat -> Int32) -> Prop} {SB : Int} {next : Int32 -> Int32 -> Int32 -> Int32 -> Int32 -> Int32 -> Int32 -> Int32 -> (Nat -> Int32) -> (Nat -> Int32) -> Prop} {n52 : Int} (bT aG : Int32) (qG m_x gR qR nG oO pJ : Nat -> Int32) (xJ : 0 <= Int32.toInt bT /\ Int32.toInt bT <= 16) (vZ : 0 <= Int32.toInt aG /\ Int32.toInt aG <= 8) (xU : ∀ k : Nat, k = 17 -> -1 <= Int32.toInt (qG k) /\ Int32.toInt (qG k) <= SB) (xV : ∀ k : Nat, k = 19 -> 0 <= Int32.toInt (qG k) /\ Int32.toInt (qG k) <= 9) (aAW : ∀ k : Nat, 0 <= Int32.toInt (m_x k) /\ Int32.toInt (m_x k) <= 99) (xK : ∀ k : Nat, 0 <= Int32.toInt (gR k) /\ Int32.toInt (gR k) <= 99) (zM : ∀ k : Nat, 0 <= Int32.toInt (qR k) /\ Int32.toInt (qR k) <= 9) (xT : ∀ k : Nat, 0 <= Int32.toInt (nG k) /\ Int32.toInt (nG k) <= 99) (yF : ∀ k : Nat, 0 <= Int32.toInt (oO k) /\ Int32.toInt (oO k) <= 99) (yD : ∀ k : Nat, k = 4 -> 1 <= Int32.toInt (pJ k) /\ Int32.toInt (pJ k) <= 30) (xZ : ∀ k : Nat, k = 3 -> 0 <= Int32.toInt (pJ k) /\ Int32.toInt (pJ k) <= 9) (hc0 : -1 <= SB /\ SB <= 7) (hc1 : (Int32.toInt aG <= 0 /\ SB = 0) \/ (1 <= Int32.toInt aG /\ SB = Int32.toInt aG - 1)) (hpost : ∀ (r : Int32) (xM : Int32) (xG : Int32) (aAS : Int32) (aBX : Nat -> Int32) (aA5 : Nat -> Int32), (0 <= Int32.toInt r /\ Int32.toInt r <= 65535) -> (2 <= Int32.toInt xM /\ Int32.toInt xM <= 2) -> (0 <= Int32.toInt xG /\ Int32.toInt xG <= 0) -> (0 <= Int32.toInt aAS /\ Int32.toInt aAS <= 65535) -> (∀ k : Nat, 0 <= Int32.toInt (aA5 k) /\ Int32.toInt (aA5 k) <= 65535) -> post r xM xG aAS aBX aA5) (hKn : ∀ (x1 : Int32) (x2 : Int32) (x3 : Int32) (x4 : Int32) (x5 : Int32) (bL : Int32) (bY : Int32) (dO : Int32) (sW : Nat -> Int32) (sH : Nat -> Int32), (0 <= Int32.toInt x1 /\ Int32.toInt x1 <= 65535) -> (0 <= Int32.toInt x2 /\ Int32.toInt x2 <= 65535) -> (-1 <= Int32.toInt x3 /\ Int32.toInt x3 <= 7) -> (0 <= Int32.toInt x4 /\ Int32.toInt x4 <= 63) -> (0 <= Int32.toInt x5 /\ Int32.toInt x5 <= 8) -> (0 <= Int32.toInt bL /\ Int32.toInt bL <= 16) -> (0 <= Int32.toInt bY /\ Int32.toInt bY <= 0) -> (0 <= Int32.toInt dO /\ Int32.toInt dO <= 65535) -> (∀ k : Nat, 0 <= Int32.toInt (sH k) /\ Int32.toInt (sH k) <= 65535) -> (8 - Int32.toInt x5 < n52) -> next x1 x2 x3 x4 x5 bL bY dO sW sH) (x1 x2 x3 x4 x5 bL bY dO : Int32) (sW sH : Nat -> Int32) (aBK : 0 <= Int32.toInt x1 /\ Int32.toInt x1 <= 65535) (aBN : 0 <= Int32.toInt x2 /\ Int32.toInt x2 <= 65535) (aCH : -1 <= Int32.toInt x3 /\ Int32.toInt x3 <= 7) (aDO : 0 <= Int32.toInt x4 /\ Int32.toInt x4 <= 63) (aF7 : 0 <= Int32.toInt x5 /\ Int32.toInt x5 <= 8) (yJ : 0 <= Int32.toInt bL /\ Int32.toInt bL <= 16) (yG : 0 <= Int32.toInt bY /\ Int32.toInt bY <= 0) (aAH : 0 <= Int32.toInt dO /\ Int32.toInt dO <= 65535) (zY : ∀ k : Nat, 0 <= Int32.toInt (sH k) /\ Int32.toInt (sH k) <= 65535) (hn52 : 8 - Int32.toInt x5 <= n52) : ws_X10_hooked_52 post next bT aG qG m_x gR qR nG oO pJ x1 x2 x3 x4 x5 bL bY dO sW sH := by
  have l0 := aE0
  have l1 := aEc
  have l2 := aKH
  have l3 := li_18
  have l4 := aJ8
  have l5 := li_63
  have l6 := aJ9
  refine And.intro (fun c3 => ?_) (fun c3 => ?_)
  · skip
    have c3 := (aAO _ _).mp c3
    refine And.intro (aBZ (by omega)) ?_
    intro v4 ev4
    have f5 : Int32.toInt (0 + 1) = Int32.toInt (0 : Int32) + Int32.toInt (1 : Int32) := aAD _ _ (by omega)
    rw [<- ev4] at f5
    refine And.intro (aBZ (by omega)) ?_
    intro v6 ev6
    have f7 : Int32.toInt (v4 + 1) = Int32.toInt v4 + Int32.toInt (1 : Int32) := aAD _ _ (by omega)
    rw [<- ev6] at f7
    exact hpost _ _ _ _ _ _ aBN (by omega) yG aAH zY
  · skip
    have c3 := mt (aAO _ _).mpr c3
    intro v8 ev8
    have hv8 := congrArg Int32.toInt ev8
    refine aX7 (by omega) (by omega) xJ aAW xK xT yF yD xZ (fun r10 h_r10 => ?_)
    intro v11 ev11
    have f12 := aAQ x1 r10 (by omega)
    have f13 := aBx x1 r10 (by omega)
    have hv11 := congrArg Int32.toInt ev11
    intro v14 ev14
    have f15 := ti_or 16 65536 x2 v11 (by decide) (by omega) (by omega)
    have hv14 := congrArg Int32.toInt ev14
    intro v16 ev16
    intro v17 ev17
    have f19 := aAQ v16 1431655765 (by omega)
    have f18 : Int32.toInt (v11 - (v16 &&& 1431655765)) = Int32.toInt v11 - Int32.toInt (v16 &&& 1431655765) := aCA _ _ (by omega)
    rw [<- ev17] at f18
    intro v20 ev20
    have f21 := aAQ v17 858993459 (by omega)
    have hv20 := congrArg Int32.toInt ev20
    intro v22 ev22
    intro v23 ev23
    have f25 := aAQ v22 858993459 (by omega)
    have f24 : Int32.toInt (v20 + (v22 &&& 858993459)) = Int32.toInt v20 + Int32.toInt (v22 &&& 858993459) := aAD _ _ (by omega)
    rw [<- ev23] at f24
    intro v26 ev26
    have hv26 := congrArg Int32.toInt ev26
    intro v28 ev28
    have f29 := aAQ v26 252645135 (by omega)
    have hv28 := congrArg Int32.toInt ev28
    intro v30 ev30
    have hv30 := congrArg Int32.toInt ev30
    intro v32 ev32
    have hv32 := congrArg Int32.toInt ev32
    have f35 := aAQ v32 63 (by omega)
    refine And.intro (fun c34 => ?_) (fun c34 => ?_)
    · skip
      have c34 := (aAd _ _).mp c34
      intro v36 ev36
      intro v37 ev37
      have f39 := aAQ v36 1431655765 (by omega)
      have f38 : Int32.toInt (v11 - (v36 &&& 1431655765)) = Int32.toInt v11 - Int32.toInt (v36 &&& 1431655765) := aCA _ _ (by omega)
      rw [<- ev37] at f38
      intro v40 ev40
      have f41 := aAQ v37 858993459 (by omega)
      have hv40 := congrArg Int32.toInt ev40
      intro v42 ev42
      intro v43 ev43
      have f45 := aAQ v42 858993459 (by omega)
      have f44 : Int32.toInt (v40 + (v42 &&& 858993459)) = Int32.toInt v40 + Int32.toInt (v42 &&& 858993459) := aAD _ _ (by omega)
      rw [<- ev43] at f44
      intro v46 ev46
      have hv46 := congrArg Int32.toInt ev46
      intro v48 ev48
      have f49 := aAQ v46 252645135 (by omega)
      have hv48 := congrArg Int32.toInt ev48
      intro v50 ev50
      have hv50 := congrArg Int32.toInt ev50
      intro v52 ev52
      have hv52 := congrArg Int32.toInt ev52
      have f54 := aAQ v52 63 (by omega)
      exact ts_X10_hooked_107 bT aG qG m_x gR qR nG oO pJ xJ vZ xU xV aAW xK zM xT yF yD xZ hc0 hc1 hpost hKn x1 v14 x5 (v52 &&& 63) x5 bL bY dO sW sH aBK (by omega) (by omega) (by omega) (by omega) yJ yG aAH zY hn52
    · skip
      have c34 := mt (aAd _ _).mpr c34
      exact ts_X10_hooked_107 bT aG qG m_x gR qR nG oO pJ xJ vZ xU xV aAW xK zM xT yF yD xZ hc0 hc1 hpost hKn x1 v14 x3 x4 x5 bL bY dO sW sH aBK (by omega) aCH aDO (by omega) yJ yG aAH zY hn52
set_option maxHeartbeats 8000000 in
set_option maxRecDepth 200000 in
theorem tb_X10_hooked_52 {post : Int32 -> Int32 -> Int32 -> Int32 -> (Nat -> Int32) -> (Nat -> Int32) -> Prop} {SB : Int} (bT aG : Int32) (qG m_x gR qR nG oO pJ : Nat -> Int32) (xJ : 0 <= Int32.toInt bT /\ Int32.toInt bT <= 16) (vZ : 0 <= Int32.toInt aG /\ Int32.toInt aG <= 8) (xU : ∀ k : Nat, k = 17 -> -1 <= Int32.toInt (qG k) /\ Int32.toInt (qG k) <= SB) (xV : ∀ k : Nat, k = 19 -> 0 <= Int32.toInt (qG k) /\ Int32.toInt (qG k) <= 9) (aAW : ∀ k : Nat, 0 <= Int32.toInt (m_x k) /\ Int32.toInt (m_x k) <= 99) (xK : ∀ k : Nat, 0 <= Int32.toInt (gR k) /\ Int32.toInt (gR k) <= 99) (zM : ∀ k : Nat, 0 <= Int32.toInt (qR k) /\ Int32.toInt (qR k) <= 9) (xT : ∀ k : Nat, 0 <= Int32.toInt (nG k) /\ Int32.toInt (nG k) <= 99) (yF : ∀ k : Nat, 0 <= Int32.toInt (oO k) /\ Int32.toInt (oO k) <= 99) (yD : ∀ k : Nat, k = 4 -> 1 <= Int32.toInt (pJ k) /\ Int32.toInt (pJ k) <= 30) (xZ : ∀ k : Nat, k = 3 -> 0 <= Int32.toInt (pJ k) /\ Int32.toInt (pJ k) <= 9) (hc0 : -1 <= SB /\ SB <= 7) (hc1 : (Int32.toInt aG <= 0 /\ SB = 0) \/ (1 <= Int32.toInt aG /\ SB = Int32.toInt aG - 1)) (hpost : ∀ (r : Int32) (xM : Int32) (xG : Int32) (aAS : Int32) (aBX : Nat -> Int32) (aA5 : Nat -> Int32), (0 <= Int32.toInt r /\ Int32.toInt r <= 65535) -> (2 <= Int32.toInt xM /\ Int32.toInt xM <= 2) -> (0 <= Int32.toInt xG /\ Int32.toInt xG <= 0) -> (0 <= Int32.toInt aAS /\ Int32.toInt aAS <= 65535) -> (∀ k : Nat, 0 <= Int32.toInt (aA5 k) /\ Int32.toInt (aA5 k) <= 65535) -> post r xM xG aAS aBX aA5) : ∀ (n : Nat) (x1 x2 x3 x4 x5 bL bY dO : Int32) (sW sH : Nat -> Int32), (0 <= Int32.toInt x1 /\ Int32.toInt x1 <= 65535) -> (0 <= Int32.toInt x2 /\ Int32.toInt x2 <= 65535) -> (-1 <= Int32.toInt x3 /\ Int32.toInt x3 <= 7) -> (0 <= Int32.toInt x4 /\ Int32.toInt x4 <= 63) -> (0 <= Int32.toInt x5 /\ Int32.toInt x5 <= 8) -> (0 <= Int32.toInt bL /\ Int32.toInt bL <= 16) -> (0 <= Int32.toInt bY /\ Int32.toInt bY <= 0) -> (0 <= Int32.toInt dO /\ Int32.toInt dO <= 65535) -> (∀ k : Nat, 0 <= Int32.toInt (sH k) /\ Int32.toInt (sH k) <= 65535) -> (8 - Int32.toInt x5 < (n : Int)) -> wb_X10_hooked_52 post bT aG qG m_x gR qR nG oO pJ n x1 x2 x3 x4 x5 bL bY dO sW sH := by
  intro n
  induction n with
  | zero =>
    intro x1 x2 x3 x4 x5 bL bY dO sW sH aBK aBN aCH aDO aF7 yJ yG aAH zY hm
    exfalso; omega
  | succ n ih =>
    intro x1 x2 x3 x4 x5 bL bY dO sW sH aBK aBN aCH aDO aF7 yJ yG aAH zY hm
    exact ts_X10_hooked_52 bT aG qG m_x gR qR nG oO pJ xJ vZ xU xV aAW xK zM xT yF yD xZ hc0 hc1 hpost ih x1 x2 x3 x4 x5 bL bY dO sW sH aBK aBN aCH aDO aF7 yJ yG aAH zY (by omega)
set_option maxHeartbeats 8000000 in
set_option maxRecDepth 200000 in
theorem t_X10_hooked {post : Int32 -> Int32 -> Int32 -> Int32 -> (Nat -> Int32) -> (Nat -> Int32) -> Prop} {SB : Int} {bT aG bL bY dO : Int32} {qG m_x gR qR nG oO pJ sW sH : Nat -> Int32} (xJ : 0 <= Int32.toInt bT /\ Int32.toInt bT <= 16) (vZ : 0 <= Int32.toInt aG /\ Int32.toInt aG <= 8) (yJ : 0 <= Int32.toInt bL /\ Int32.toInt bL <= 16) (yG : 0 <= Int32.toInt bY /\ Int32.toInt bY <= 1) (aAH : 0 <= Int32.toInt dO /\ Int32.toInt dO <= 65535) (xU : ∀ k : Nat, k = 17 -> -1 <= Int32.toInt (qG k) /\ Int32.toInt (qG k) <= SB) (xV : ∀ k : Nat, k = 19 -> 0 <= Int32.toInt (qG k) /\ Int32.toInt (qG k) <= 9) (aAW : ∀ k : Nat, 0 <= Int32.toInt (m_x k) /\ Int32.toInt (m_x k) <= 99) (xK : ∀ k : Nat, 0 <= Int32.toInt (gR k) /\ Int32.toInt (gR k) <= 99) (zM : ∀ k : Nat, 0 <= Int32.toInt (qR k) /\ Int32.toInt (qR k) <= 9) (xT : ∀ k : Nat, 0 <= Int32.toInt (nG k) /\ Int32.toInt (nG k) <= 99) (yF : ∀ k : Nat, 0 <= Int32.toInt (oO k) /\ Int32.toInt (oO k) <= 99) (yD : ∀ k : Nat, k = 4 -> 1 <= Int32.toInt (pJ k) /\ Int32.toInt (pJ k) <= 30) (xZ : ∀ k : Nat, k = 3 -> 0 <= Int32.toInt (pJ k) /\ Int32.toInt (pJ k) <= 9) (zY : ∀ k : Nat, 0 <= Int32.toInt (sH k) /\ Int32.toInt (sH k) <= 65535) (hc0 : -1 <= SB /\ SB <= 7) (hc1 : (Int32.toInt aG <= 0 /\ SB = 0) \/ (1 <= Int32.toInt aG /\ SB = Int32.toInt aG - 1)) (hpost : ∀ (r : Int32) (xM : Int32) (xG : Int32) (aAS : Int32) (aBX : Nat -> Int32) (aA5 : Nat -> Int32), (0 <= Int32.toInt r /\ Int32.toInt r <= 65535) -> (2 <= Int32.toInt xM /\ Int32.toInt xM <= 2) -> (0 <= Int32.toInt xG /\ Int32.toInt xG <= 0) -> (0 <= Int32.toInt aAS /\ Int32.toInt aAS <= 65535) -> (∀ k : Nat, 0 <= Int32.toInt (aA5 k) /\ Int32.toInt (aA5 k) <= 65535) -> post r xM xG aAS aBX aA5) : wp_X10_hooked post bT aG bL bY dO qG m_x gR qR nG oO pJ sW sH := by
  have l0 := aI2
  have l1 := aE0
  have l2 := aEc
  have l3 := li_18
  have l4 := li_19
  intro v55 ev55
  have hv55 := congrArg Int32.toInt ev55
  refine aLb xJ vZ aAH xU xV aAW xK zM xT yF yD xZ zY (by omega) (by omega) (fun m_wanted_57 m_hand_58 h_m_wanted_57 h_m_hand_58 => ?_)
  refine aKO (by omega) xJ xU xV (by omega) (fun r59 h_r59 ox60 => ?_)
  have q61 := xV (19 : Int32).toNatClampNeg (by have e9 : (19 : Int32).toNatClampNeg = (Int32.toInt (19 : Int32)).toNat := rfl; omega)
  intro v62 ev62
  have hv62 := congrArg Int32.toInt ev62
  refine aXh (by omega) xJ zM (fun r64 h_r64 ox65 => ?_)
  intro v66 ev66
  have f67 := aAQ r59 r64 (by omega)
  have f68 := aBx r59 r64 (by omega)
  have hv66 := congrArg Int32.toInt ev66
  intro v69 ev69
  have f70 := aDv 8 256 aG (by decide) (by omega)
  have hv69 := congrArg Int32.toInt ev69
  have f72 : Int32.toInt (v69 - 1) = Int32.toInt v69 - Int32.toInt (1 : Int32) := aCA _ _ (by omega)
  refine aSL (by omega) vZ h_m_hand_58 (fun r71 h_r71 => ?_)
  intro v73 ev73
  have f75 := aBx v66 (r71 ^^^ (-1)) (by omega)
  have hv73 := congrArg Int32.toInt ev73
  exact ⟨10, tb_X10_hooked_52 bT aG qG m_x gR qR nG oO pJ xJ vZ xU xV aAW xK zM xT yF yD xZ hc0 hc1 hpost _ v73 0 (-1) 0 0 bL 0 m_wanted_57 sW m_hand_58 (by omega) (by omega) (by omega) (by omega) (by omega) yJ (by omega) h_m_wanted_57 h_m_hand_58 (by omega)⟩
set_option maxHeartbeats 8000000 in
set_option maxRecDepth 200000 in
theorem t_X10_broken {post : Int32 -> Int32 -> Int32 -> Int32 -> (Nat -> Int32) -> (Nat -> Int32) -> Prop} {SB : Int} {p0 bT aG bL bY dO : Int32} {qG m_x gR qR nG oO pJ sW sH : Nat -> Int32} (xJ : 0 <= Int32.toInt bT /\ Int32.toInt bT <= 16) (vZ : 0 <= Int32.toInt aG /\ Int32.toInt aG <= 8) (yJ : 0 <= Int32.toInt bL /\ Int32.toInt bL <= 16) (yG : 0 <= Int32.toInt bY /\ Int32.toInt bY <= 1) (aAH : 0 <= Int32.toInt dO /\ Int32.toInt dO <= 65535) (xU : ∀ k : Nat, k = 17 -> -1 <= Int32.toInt (qG k) /\ Int32.toInt (qG k) <= SB) (xV : ∀ k : Nat, k = 19 -> 0 <= Int32.toInt (qG k) /\ Int32.toInt (qG k) <= 9) (aAW : ∀ k : Nat, 0 <= Int32.toInt (m_x k) /\ Int32.toInt (m_x k) <= 99) (xK : ∀ k : Nat, 0 <= Int32.toInt (gR k) /\ Int32.toInt (gR k) <= 99) (zM : ∀ k : Nat, 0 <= Int32.toInt (qR k) /\ Int32.toInt (qR k) <= 9) (xT : ∀ k : Nat, 0 <= Int32.toInt (nG k) /\ Int32.toInt (nG k) <= 99) (yF : ∀ k : Nat, 0 <= Int32.toInt (oO k) /\ Int32.toInt (oO k) <= 99) (yD : ∀ k : Nat, k = 4 -> 1 <= Int32.toInt (pJ k) /\ Int32.toInt (pJ k) <= 30) (xZ : ∀ k : Nat, k = 3 -> 0 <= Int32.toInt (pJ k) /\ Int32.toInt (pJ k) <= 9) (zY : ∀ k : Nat, 0 <= Int32.toInt (sH k) /\ Int32.toInt (sH k) <= 65535) (hc0 : -1 <= SB /\ SB <= 7) (hc1 : (Int32.toInt aG <= 0 /\ SB = 0) \/ (1 <= Int32.toInt aG /\ SB = Int32.toInt aG - 1)) (hpost : ∀ (r : Int32) (xM : Int32) (xG : Int32) (aAS : Int32) (aBX : Nat -> Int32) (aA5 : Nat -> Int32), (-1 <= Int32.toInt r /\ Int32.toInt r <= 63) -> (0 <= Int32.toInt xM /\ Int32.toInt xM <= 16) -> (0 <= Int32.toInt xG /\ Int32.toInt xG <= 0) -> (0 <= Int32.toInt aAS /\ Int32.toInt aAS <= 65535) -> (∀ k : Nat, 0 <= Int32.toInt (aA5 k) /\ Int32.toInt (aA5 k) <= 65535) -> post r xM xG aAS aBX aA5) : wp_X10_broken post p0 bT aG bL bY dO qG m_x gR qR nG oO pJ sW sH := by
  have l0 := aI2
  have l1 := aE0
  have l2 := aEc
  have l3 := aKH
  have l4 := li_18
  have l5 := aJ8
  have l6 := li_63
  have l7 := aJ9
  intro v1 ev1
  have f2 : Int32.toInt (aG - 1) = Int32.toInt aG - Int32.toInt (1 : Int32) := aCA _ _ (by omega)
  rw [<- ev1] at f2
  have f4 := aAT p0
  refine And.intro (fun c3 => ?_) (fun c3 => ?_)
  · skip
    have c3 := (aAd _ _).mp c3
    refine And.intro (aHE (by omega)) ?_
    refine And.intro (fun h9 => absurd h9 (by decide)) (fun _ => ?_)
    exact hpost _ _ _ _ _ _ (by omega) yJ (by omega) aAH zY
  · skip
    have c3 := mt (aAd _ _).mpr c3
    refine And.intro (fun c5 => ?_) (fun c5 => ?_)
    · skip
      have c5 := (aAd _ _).mp c5
      refine And.intro (aHE (by omega)) ?_
      refine And.intro (fun h9 => absurd h9 (by decide)) (fun _ => ?_)
      exact hpost _ _ _ _ _ _ (by omega) yJ (by omega) aAH zY
    · skip
      have c5 := mt (aAd _ _).mpr c5
      refine And.intro (aHE (by omega)) ?_
      refine And.intro (fun _ => ?_) (fun h9 => absurd h9 (by decide))
      intro v6 ev6
      have hv6 := congrArg Int32.toInt ev6
      refine aLb xJ vZ aAH xU xV aAW xK zM xT yF yD xZ zY (by omega) (by omega) (fun m_wanted_8 m_hand_9 h_m_wanted_8 h_m_hand_9 => ?_)
      refine And.intro (aBZ (by omega)) ?_
      have a10 : ∀ k : Nat, 0 <= Int32.toInt ((upd m_hand_9 p0.toNatClampNeg 0) k) /\ Int32.toInt ((upd m_hand_9 p0.toNatClampNeg 0) k) <= 65535 := t_upd (fun k => by have q9 := h_m_hand_9 k; omega) (by omega)
      intro v11 ev11
      have f12 := aDv 8 256 aG (by decide) (by omega)
      have hv11 := congrArg Int32.toInt ev11
      have f14 : Int32.toInt (v11 - 1) = Int32.toInt v11 - Int32.toInt (1 : Int32) := aCA _ _ (by omega)
      refine aSL (by omega) vZ (fun k => by have q9 := a10 k; omega) (fun r13 h_r13 => ?_)
      intro v15 ev15
      have f16 := aAQ m_wanted_8 r13 (by omega)
      have f17 := aBx m_wanted_8 r13 (by omega)
      have hv15 := congrArg Int32.toInt ev15
      refine t_X10_cover (by omega) vZ (fun k => by have q9 := a10 k; omega) (fun r18 h_r18 => ?_)
      intro v19 ev19
      intro v20 ev20
      have f22 := aAQ v19 1431655765 (by omega)
      have f21 : Int32.toInt (r18 - (v19 &&& 1431655765)) = Int32.toInt r18 - Int32.toInt (v19 &&& 1431655765) := aCA _ _ (by omega)
      rw [<- ev20] at f21
      intro v23 ev23
      have f24 := aAQ v20 858993459 (by omega)
      have hv23 := congrArg Int32.toInt ev23
      intro v25 ev25
      intro v26 ev26
      have f28 := aAQ v25 858993459 (by omega)
      have f27 : Int32.toInt (v23 + (v25 &&& 858993459)) = Int32.toInt v23 + Int32.toInt (v25 &&& 858993459) := aAD _ _ (by omega)
      rw [<- ev26] at f27
      intro v29 ev29
      have hv29 := congrArg Int32.toInt ev29
      intro v31 ev31
      have f32 := aAQ v29 252645135 (by omega)
      have hv31 := congrArg Int32.toInt ev31
      intro v33 ev33
      have hv33 := congrArg Int32.toInt ev33
      intro v35 ev35
      have hv35 := congrArg Int32.toInt ev35
      intro v37 ev37
      have f39 := aBx m_wanted_8 (v15 ^^^ (-1)) (by omega)
      have hv37 := congrArg Int32.toInt ev37
      refine And.intro (aBZ (by omega)) ?_
      intro v40 ev40
      have f41 : Int32.toInt (0 + 1) = Int32.toInt (0 : Int32) + Int32.toInt (1 : Int32) := aAD _ _ (by omega)
      rw [<- ev40] at f41
      have f42 := aAQ v35 63 (by omega)
      exact hpost _ _ _ _ _ _ (by omega) (by omega) (by omega) h_m_wanted_8 (fun k => by have q9 := a10 k; omega)
set_option maxHeartbeats 8000000 in
set_option maxRecDepth 200000 in
theorem ts_X10_sweep_122 {post : Int32 -> Int32 -> Int32 -> Nat -> Int32 -> Int32 -> Int32 -> Int32 -> Int32 -> Int32 -> Int32 -> Int32 -> Int32 -> Int32 -> Int32 -> Int32 -> Int32 -> (Nat -> Int32) -> (Nat -> Int32) -> (Nat -> Int32) -> (Nat -> Int32) -> (Nat -> Int32) -> Prop} {SB : Int} {K40 : Int32 -> Int32 -> Int32 -> Int32 -> Int32 -> Int32 -> Int32 -> Nat -> Int32 -> Int32 -> Int32 -> Int32 -> Int32 -> Int32 -> Int32 -> Int32 -> Int32 -> Int32 -> Int32 -> Int32 -> Int32 -> (Nat -> Int32) -> (Nat -> Int32) -> (Nat -> Int32) -> (Nat -> Int32) -> (Nat -> Int32) -> Prop} {n40 : Int} (bT aG bW : Int32) (qG m_x gR pW qR nG oO pJ qO qQ : Nat -> Int32) (xJ : 0 <= Int32.toInt bT /\ Int32.toInt bT <= 16) (vZ : 0 <= Int32.toInt aG /\ Int32.toInt aG <= 8) (zQ : 0 <= Int32.toInt bW /\ Int32.toInt bW <= 40) (xU : ∀ k : Nat, k = 17 -> -1 <= Int32.toInt (qG k) /\ Int32.toInt (qG k) <= SB) (xV : ∀ k : Nat, k = 19 -> 0 <= Int32.toInt (qG k) /\ Int32.toInt (qG k) <= 9) (aAW : ∀ k : Nat, 0 <= Int32.toInt (m_x k) /\ Int32.toInt (m_x k) <= 99) (xK : ∀ k : Nat, 0 <= Int32.toInt (gR k) /\ Int32.toInt (gR k) <= 99) (yR : ∀ k : Nat, 0 <= Int32.toInt (pW k) /\ Int32.toInt (pW k) <= 9) (zM : ∀ k : Nat, 0 <= Int32.toInt (qR k) /\ Int32.toInt (qR k) <= 9) (xT : ∀ k : Nat, 0 <= Int32.toInt (nG k) /\ Int32.toInt (nG k) <= 99) (yF : ∀ k : Nat, 0 <= Int32.toInt (oO k) /\ Int32.toInt (oO k) <= 99) (yD : ∀ k : Nat, k = 4 -> 1 <= Int32.toInt (pJ k) /\ Int32.toInt (pJ k) <= 30) (xZ : ∀ k : Nat, k = 3 -> 0 <= Int32.toInt (pJ k) /\ Int32.toInt (pJ k) <= 9) (zG : ∀ k : Nat, -128 <= Int32.toInt (qO k) /\ Int32.toInt (qO k) <= 127) (zI : ∀ k : Nat, -128 <= Int32.toInt (qQ k) /\ Int32.toInt (qQ k) <= 127) (hc0 : -1 <= SB /\ SB <= 7) (hc1 : (Int32.toInt aG <= 0 /\ SB = 0) \/ (1 <= Int32.toInt aG /\ SB = Int32.toInt aG - 1)) (hpost : ∀ (r : Int32) (xM : Int32) (xG : Int32) (aAP : Nat) (zS : Int32) (aAz : Int32) (aAm : Int32) (zH : Int32) (aAM : Int32) (zP : Int32) (yO : Int32) (zZ : Int32) (zO : Int32) (aAS : Int32) (aB9 : Int32) (aEo : Int32) (aEn : Int32) (aBX : Nat -> Int32) (aA5 : Nat -> Int32) (aCX : Nat -> Int32) (aBR : Nat -> Int32) (aGb : Nat -> Int32), (-1 <= Int32.toInt r /\ Int32.toInt r <= 2147483647) -> (0 <= Int32.toInt xM /\ Int32.toInt xM <= 16) -> (0 <= Int32.toInt xG /\ Int32.toInt xG <= 0) -> (aAP = 0 \/ aAP = 1 \/ aAP = 2) -> (0 <= Int32.toInt zS /\ Int32.toInt zS <= 80) -> (0 <= Int32.toInt aAz /\ Int32.toInt aAz <= 80) -> (0 <= Int32.toInt aAm /\ Int32.toInt aAm <= 80) -> (-1 <= Int32.toInt zH /\ Int32.toInt zH <= 80) -> (0 <= Int32.toInt aAM /\ Int32.toInt aAM <= 0) -> (0 <= Int32.toInt zP /\ Int32.toInt zP <= 15) -> (0 <= Int32.toInt yO /\ Int32.toInt yO <= 7) -> (0 <= Int32.toInt zZ /\ Int32.toInt zZ <= 1) -> (0 <= Int32.toInt zO /\ Int32.toInt zO <= 63) -> (0 <= Int32.toInt aAS /\ Int32.toInt aAS <= 65535) -> (0 <= Int32.toInt aB9 /\ Int32.toInt aB9 <= 1000000) -> (∀ k : Nat, 0 <= Int32.toInt (aA5 k) /\ Int32.toInt (aA5 k) <= 65535) -> (∀ k : Nat, 0 <= Int32.toInt (aCX k) /\ Int32.toInt (aCX k) <= 1000000) -> (∀ k : Nat, 0 <= Int32.toInt (aBR k) /\ Int32.toInt (aBR k) <= 99) -> post r xM xG aAP zS aAz aAm zH aAM zP yO zZ zO aAS aB9 aEo aEn aBX aA5 aCX aBR aGb) (hK40 : ∀ (x1 : Int32) (x2 : Int32) (x3 : Int32) (x4 : Int32) (x5 : Int32) (bL : Int32) (bY : Int32) (jD : Nat) (mLn : Int32) (oF : Int32) (rP : Int32) (dQ : Int32) (bZ : Int32) (aR : Int32) (aE : Int32) (bI : Int32) (aW : Int32) (dO : Int32) (bM : Int32) (bQ : Int32) (bO : Int32) (sW : Nat -> Int32) (sH : Nat -> Int32) (uE : Nat -> Int32) (oJ : Nat -> Int32) (vK : Nat -> Int32), (0 <= Int32.toInt x1 /\ Int32.toInt x1 <= 9999) -> (-1 <= Int32.toInt x2 /\ Int32.toInt x2 <= 255) -> (-1 <= Int32.toInt x3 /\ Int32.toInt x3 <= 2147483647) -> (-2147483648 <= Int32.toInt x4 /\ Int32.toInt x4 <= 9999) -> (0 <= Int32.toInt x5 /\ Int32.toInt x5 <= 256) -> (0 <= Int32.toInt bL /\ Int32.toInt bL <= 16) -> (0 <= Int32.toInt bY /\ Int32.toInt bY <= 0) -> (jD = 0 \/ jD = 1 \/ jD = 2) -> (0 <= Int32.toInt mLn /\ Int32.toInt mLn <= 80) -> (0 <= Int32.toInt oF /\ Int32.toInt oF <= 80) -> (0 <= Int32.toInt rP /\ Int32.toInt rP <= 80) -> (-1 <= Int32.toInt dQ /\ Int32.toInt dQ <= 80) -> (0 <= Int32.toInt bZ /\ Int32.toInt bZ <= 0) -> (0 <= Int32.toInt aR /\ Int32.toInt aR <= 15) -> (0 <= Int32.toInt aE /\ Int32.toInt aE <= 7) -> (0 <= Int32.toInt bI /\ Int32.toInt bI <= 1) -> (0 <= Int32.toInt aW /\ Int32.toInt aW <= 63) -> (0 <= Int32.toInt dO /\ Int32.toInt dO <= 65535) -> (0 <= Int32.toInt bM /\ Int32.toInt bM <= 1000000) -> (∀ k : Nat, 0 <= Int32.toInt (sH k) /\ Int32.toInt (sH k) <= 65535) -> (∀ k : Nat, 0 <= Int32.toInt (uE k) /\ Int32.toInt (uE k) <= 1000000) -> (∀ k : Nat, 0 <= Int32.toInt (oJ k) /\ Int32.toInt (oJ k) <= 99) -> (256 - Int32.toInt x5 < n40) -> K40 x1 x2 x3 x4 x5 bL bY jD mLn oF rP dQ bZ aR aE bI aW dO bM bQ bO sW sH uE oJ vK) (x1 x2 x3 x4 x5 bL bY : Int32) (jD : Nat) (mLn oF rP dQ bZ aR aE bI aW dO bM bQ bO : Int32) (sW sH uE oJ vK : Nat -> Int32) (aBK : 0 <= Int32.toInt x1 /\ Int32.toInt x1 <= 9999) (aBN : -1 <= Int32.toInt x2 /\ Int32.toInt x2 <= 255) (aCH : -1 <= Int32.toInt x3 /\ Int32.toInt x3 <= 2147483647) (aDO : -2147483648 <= Int32.toInt x4 /\ Int32.toInt x4 <= 9999) (aF7 : 0 <= Int32.toInt x5 /\ Int32.toInt x5 <= 255) (yJ : 0 <= Int32.toInt bL /\ Int32.toInt bL <= 16) (yG : 0 <= Int32.toInt bY /\ Int32.toInt bY <= 0) (yM : jD = 0 \/ jD = 1 \/ jD = 2) (zE : 0 <= Int32.toInt mLn /\ Int32.toInt mLn <= 80) (aAR : 0 <= Int32.toInt oF /\ Int32.toInt oF <= 80) (aA1 : 0 <= Int32.toInt rP /\ Int32.toInt rP <= 80) (aAA : -1 <= Int32.toInt dQ /\ Int32.toInt dQ <= 80) (zT : 0 <= Int32.toInt bZ /\ Int32.toInt bZ <= 0) (yL : 0 <= Int32.toInt aR /\ Int32.toInt aR <= 15) (xQ : 0 <= Int32.toInt aE /\ Int32.toInt aE <= 7) (yY : 0 <= Int32.toInt bI /\ Int32.toInt bI <= 1) (yK : 0 <= Int32.toInt aW /\ Int32.toInt aW <= 63) (aAH : 0 <= Int32.toInt dO /\ Int32.toInt dO <= 65535) (aAv : 0 <= Int32.toInt bM /\ Int32.toInt bM <= 1000000) (zY : ∀ k : Nat, 0 <= Int32.toInt (sH k) /\ Int32.toInt (sH k) <= 65535) (aAw : ∀ k : Nat, 0 <= Int32.toInt (uE k) /\ Int32.toInt (uE k) <= 1000000) (zL : ∀ k : Nat, 0 <= Int32.toInt (oJ k) /\ Int32.toInt (oJ k) <= 99) (hn40 : 256 - Int32.toInt x5 <= n40) : ws_X10_sweep_122 post K40 bT aG bW qG m_x gR pW qR nG oO pJ qO qQ x1 x2 x3 x4 x5 bL bY jD mLn oF rP dQ bZ aR aE bI aW dO bM bQ bO sW sH uE oJ vK := by
  have l0 := aEc
  intro v1 ev1
  have f2 : Int32.toInt (x5 + 1) = Int32.toInt x5 + Int32.toInt (1 : Int32) := aAD _ _ (by omega)
  rw [<- ev1] at f2
  have f3 := aAT x3
  have f4 := aAT x4
  have f5 := aAT bQ
  have f6 := aAT bO
  exact hK40 x1 x2 x3 x4 v1 bL bY jD mLn oF rP dQ bZ aR aE bI aW dO bM bQ bO sW sH uE oJ vK aBK aBN aCH aDO (by omega) yJ yG yM zE aAR aA1 aAA zT yL xQ yY yK aAH aAv zY aAw zL (by omega)
set_option maxHeartbeats 8000000 in
set_option maxRecDepth 200000 in
theorem ts_X10_sweep_112 {post : Int32 -> Int32 -> Int32 -> Nat -> Int32 -> Int32 -> Int32 -> Int32 -> Int32 -> Int32 -> Int32 -> Int32 -> Int32 -> Int32 -> Int32 -> Int32 -> Int32 -> (Nat -> Int32) -> (Nat -> Int32) -> (Nat -> Int32) -> (Nat -> Int32) -> (Nat -> Int32) -> Prop} {SB : Int} {K40 : Int32 -> Int32 -> Int32 -> Int32 -> Int32 -> Int32 -> Int32 -> Nat -> Int32 -> Int32 -> Int32 -> Int32 -> Int32 -> Int32 -> Int32 -> Int32 -> Int32 -> Int32 -> Int32 -> Int32 -> Int32 -> (Nat -> Int32) -> (Nat -> Int32) -> (Nat -> Int32) -> (Nat -> Int32) -> (Nat -> Int32) -> Prop} {n40 : Int} (bT aG bW : Int32) (qG m_x gR pW qR nG oO pJ qO qQ : Nat -> Int32) (xJ : 0 <= Int32.toInt bT /\ Int32.toInt bT <= 16) (vZ : 0 <= Int32.toInt aG /\ Int32.toInt aG <= 8) (zQ : 0 <= Int32.toInt bW /\ Int32.toInt bW <= 40) (xU : ∀ k : Nat, k = 17 -> -1 <= Int32.toInt (qG k) /\ Int32.toInt (qG k) <= SB) (xV : ∀ k : Nat, k = 19 -> 0 <= Int32.toInt (qG k) /\ Int32.toInt (qG k) <= 9) (aAW : ∀ k : Nat, 0 <= Int32.toInt (m_x k) /\ Int32.toInt (m_x k) <= 99) (xK : ∀ k : Nat, 0 <= Int32.toInt (gR k) /\ Int32.toInt (gR k) <= 99) (yR : ∀ k : Nat, 0 <= Int32.toInt (pW k) /\ Int32.toInt (pW k) <= 9) (zM : ∀ k : Nat, 0 <= Int32.toInt (qR k) /\ Int32.toInt (qR k) <= 9) (xT : ∀ k : Nat, 0 <= Int32.toInt (nG k) /\ Int32.toInt (nG k) <= 99) (yF : ∀ k : Nat, 0 <= Int32.toInt (oO k) /\ Int32.toInt (oO k) <= 99) (yD : ∀ k : Nat, k = 4 -> 1 <= Int32.toInt (pJ k) /\ Int32.toInt (pJ k) <= 30) (xZ : ∀ k : Nat, k = 3 -> 0 <= Int32.toInt (pJ k) /\ Int32.toInt (pJ k) <= 9) (zG : ∀ k : Nat, -128 <= Int32.toInt (qO k) /\ Int32.toInt (qO k) <= 127) (zI : ∀ k : Nat, -128 <= Int32.toInt (qQ k) /\ Int32.toInt (qQ k) <= 127) (hc0 : -1 <= SB /\ SB <= 7) (hc1 : (Int32.toInt aG <= 0 /\ SB = 0) \/ (1 <= Int32.toInt aG /\ SB = Int32.toInt aG - 1)) (hpost : ∀ (r : Int32) (xM : Int32) (xG : Int32) (aAP : Nat) (zS : Int32) (aAz : Int32) (aAm : Int32) (zH : Int32) (aAM : Int32) (zP : Int32) (yO : Int32) (zZ : Int32) (zO : Int32) (aAS : Int32) (aB9 : Int32) (aEo : Int32) (aEn : Int32) (aBX : Nat -> Int32) (aA5 : Nat -> Int32) (aCX : Nat -> Int32) (aBR : Nat -> Int32) (aGb : Nat -> Int32), (-1 <= Int32.toInt r /\ Int32.toInt r <= 2147483647) -> (0 <= Int32.toInt xM /\ Int32.toInt xM <= 16) -> (0 <= Int32.toInt xG /\ Int32.toInt xG <= 0) -> (aAP = 0 \/ aAP = 1 \/ aAP = 2) -> (0 <= Int32.toInt zS /\ Int32.toInt zS <= 80) -> (0 <= Int32.toInt aAz /\ Int32.toInt aAz <= 80) -> (0 <= Int32.toInt aAm /\ Int32.toInt aAm <= 80) -> (-1 <= Int32.toInt zH /\ Int32.toInt zH <= 80) -> (0 <= Int32.toInt aAM /\ Int32.toInt aAM <= 0) -> (0 <= Int32.toInt zP /\ Int32.toInt zP <= 15) -> (0 <= Int32.toInt yO /\ Int32.toInt yO <= 7) -> (0 <= Int32.toInt zZ /\ Int32.toInt zZ <= 1) -> (0 <= Int32.toInt zO /\ Int32.toInt zO <= 63) -> (0 <= Int32.toInt aAS /\ Int32.toInt aAS <= 65535) -> (0 <= Int32.toInt aB9 /\ Int32.toInt aB9 <= 1000000) -> (∀ k : Nat, 0 <= Int32.toInt (aA5 k) /\ Int32.toInt (aA5 k) <= 65535) -> (∀ k : Nat, 0 <= Int32.toInt (aCX k) /\ Int32.toInt (aCX k) <= 1000000) -> (∀ k : Nat, 0 <= Int32.toInt (aBR k) /\ Int32.toInt (aBR k) <= 99) -> post r xM xG aAP zS aAz aAm zH aAM zP yO zZ zO aAS aB9 aEo aEn aBX aA5 aCX aBR aGb) (hK40 : ∀ (x1 : Int32) (x2 : Int32) (x3 : Int32) (x4 : Int32) (x5 : Int32) (bL : Int32) (bY : Int32) (jD : Nat) (mLn : Int32) (oF : Int32) (rP : Int32) (dQ : Int32) (bZ : Int32) (aR : Int32) (aE : Int32) (bI : Int32) (aW : Int32) (dO : Int32) (bM : Int32) (bQ : Int32) (bO : Int32) (sW : Nat -> Int32) (sH : Nat -> Int32) (uE : Nat -> Int32) (oJ : Nat -> Int32) (vK : Nat -> Int32), (0 <= Int32.toInt x1 /\ Int32.toInt x1 <= 9999) -> (-1 <= Int32.toInt x2 /\ Int32.toInt x2 <= 255) -> (-1 <= Int32.toInt x3 /\ Int32.toInt x3 <= 2147483647) -> (-2147483648 <= Int32.toInt x4 /\ Int32.toInt x4 <= 9999) -> (0 <= Int32.toInt x5 /\ Int32.toInt x5 <= 256) -> (0 <= Int32.toInt bL /\ Int32.toInt bL <= 16) -> (0 <= Int32.toInt bY /\ Int32.toInt bY <= 0) -> (jD = 0 \/ jD = 1 \/ jD = 2) -> (0 <= Int32.toInt mLn /\ Int32.toInt mLn <= 80) -> (0 <= Int32.toInt oF /\ Int32.toInt oF <= 80) -> (0 <= Int32.toInt rP /\ Int32.toInt rP <= 80) -> (-1 <= Int32.toInt dQ /\ Int32.toInt dQ <= 80) -> (0 <= Int32.toInt bZ /\ Int32.toInt bZ <= 0) -> (0 <= Int32.toInt aR /\ Int32.toInt aR <= 15) -> (0 <= Int32.toInt aE /\ Int32.toInt aE <= 7) -> (0 <= Int32.toInt bI /\ Int32.toInt bI <= 1) -> (0 <= Int32.toInt aW /\ Int32.toInt aW <= 63) -> (0 <= Int32.toInt dO /\ Int32.toInt dO <= 65535) -> (0 <= Int32.toInt bM /\ Int32.toInt bM <= 1000000) -> (∀ k : Nat, 0 <= Int32.toInt (sH k) /\ Int32.toInt (sH k) <= 65535) -> (∀ k : Nat, 0 <= Int32.toInt (uE k) /\ Int32.toInt (uE k) <= 1000000) -> (∀ k : Nat, 0 <= Int32.toInt (oJ k) /\ Int32.toInt (oJ k) <= 99) -> (256 - Int32.toInt x5 < n40) -> K40 x1 x2 x3 x4 x5 bL bY jD mLn oF rP dQ bZ aR aE bI aW dO bM bQ bO sW sH uE oJ vK) (x1 x5 x6 x7 bL bY : Int32) (jD : Nat) (mLn oF rP dQ bZ aR aE bI aW dO bM bQ bO : Int32) (sW sH uE oJ vK : Nat -> Int32) (aBK : 0 <= Int32.toInt x1 /\ Int32.toInt x1 <= 9999) (aF7 : 0 <= Int32.toInt x5 /\ Int32.toInt x5 <= 255) (h_x6 : -2147483648 <= Int32.toInt x6 /\ Int32.toInt x6 <= 9999) (h_x7 : -1 <= Int32.toInt x7 /\ Int32.toInt x7 <= 2147483647) (yJ : 0 <= Int32.toInt bL /\ Int32.toInt bL <= 16) (yG : 0 <= Int32.toInt bY /\ Int32.toInt bY <= 0) (yM : jD = 0 \/ jD = 1 \/ jD = 2) (zE : 0 <= Int32.toInt mLn /\ Int32.toInt mLn <= 80) (aAR : 0 <= Int32.toInt oF /\ Int32.toInt oF <= 80) (aA1 : 0 <= Int32.toInt rP /\ Int32.toInt rP <= 80) (aAA : -1 <= Int32.toInt dQ /\ Int32.toInt dQ <= 80) (zT : 0 <= Int32.toInt bZ /\ Int32.toInt bZ <= 0) (yL : 0 <= Int32.toInt aR /\ Int32.toInt aR <= 15) (xQ : 0 <= Int32.toInt aE /\ Int32.toInt aE <= 7) (yY : 0 <= Int32.toInt bI /\ Int32.toInt bI <= 1) (yK : 0 <= Int32.toInt aW /\ Int32.toInt aW <= 63) (aAH : 0 <= Int32.toInt dO /\ Int32.toInt dO <= 65535) (aAv : 0 <= Int32.toInt bM /\ Int32.toInt bM <= 1000000) (zY : ∀ k : Nat, 0 <= Int32.toInt (sH k) /\ Int32.toInt (sH k) <= 65535) (aAw : ∀ k : Nat, 0 <= Int32.toInt (uE k) /\ Int32.toInt (uE k) <= 1000000) (zL : ∀ k : Nat, 0 <= Int32.toInt (oJ k) /\ Int32.toInt (oJ k) <= 99) (hn40 : 256 - Int32.toInt x5 <= n40) : ws_X10_sweep_112 post K40 bT aG bW qG m_x gR pW qR nG oO pJ qO qQ x1 x5 x6 x7 bL bY jD mLn oF rP dQ bZ aR aE bI aW dO bM bQ bO sW sH uE oJ vK := by
  have f7 := aAT x7
  have f8 := aAT x6
  have f9 := aAT bQ
  have f10 := aAT bO
  exact ts_X10_sweep_122 bT aG bW qG m_x gR pW qR nG oO pJ qO qQ xJ vZ zQ xU xV aAW xK yR zM xT yF yD xZ zG zI hc0 hc1 hpost hK40 x1 x5 x7 x6 x5 bL bY jD mLn oF rP dQ bZ aR aE bI aW dO bM bQ bO sW sH uE oJ vK aBK (by omega) h_x7 h_x6 aF7 yJ yG yM zE aAR aA1 aAA zT yL xQ yY yK aAH aAv zY aAw zL hn40
set_option maxHeartbeats 8000000 in
set_option maxRecDepth 200000 in
theorem ts_X10_sweep_40 {post : Int32 -> Int32 -> Int32 -> Nat -> Int32 -> Int32 -> Int32 -> Int32 -> Int32 -> Int32 -> Int32 -> Int32 -> Int32 -> Int32 -> Int32 -> Int32 -> Int32 -> (Nat -> Int32) -> (Nat -> Int32) -> (Nat -> Int32) -> (Nat -> Int32) -> (Nat -> Int32) -> Prop} {SB : Int} {next : Int32 -> Int32 -> Int32 -> Int32 -> Int32 -> Int32 -> Int32 -> Nat -> Int32 -> Int32 -> Int32 -> Int32 -> Int32 -> Int32 -> Int32 -> Int32 -> Int32 -> Int32 -> Int32 -> Int32 -> Int32 -> (Nat -> Int32) -> (Nat -> Int32) -> (Nat -> Int32) -> (Nat -> Int32) -> (Nat -> Int32) -> Prop} {n40 : Int} (bT aG bW : Int32) (qG m_x gR pW qR nG oO pJ qO qQ : Nat -> Int32) (xJ : 0 <= Int32.toInt bT /\ Int32.toInt bT <= 16) (vZ : 0 <= Int32.toInt aG /\ Int32.toInt aG <= 8) (zQ : 0 <= Int32.toInt bW /\ Int32.toInt bW <= 40) (xU : ∀ k : Nat, k = 17 -> -1 <= Int32.toInt (qG k) /\ Int32.toInt (qG k) <= SB) (xV : ∀ k : Nat, k = 19 -> 0 <= Int32.toInt (qG k) /\ Int32.toInt (qG k) <= 9) (aAW : ∀ k : Nat, 0 <= Int32.toInt (m_x k) /\ Int32.toInt (m_x k) <= 99) (xK : ∀ k : Nat, 0 <= Int32.toInt (gR k) /\ Int32.toInt (gR k) <= 99) (yR : ∀ k : Nat, 0 <= Int32.toInt (pW k) /\ Int32.toInt (pW k) <= 9) (zM : ∀ k : Nat, 0 <= Int32.toInt (qR k) /\ Int32.toInt (qR k) <= 9) (xT : ∀ k : Nat, 0 <= Int32.toInt (nG k) /\ Int32.toInt (nG k) <= 99) (yF : ∀ k : Nat, 0 <= Int32.toInt (oO k) /\ Int32.toInt (oO k) <= 99) (yD : ∀ k : Nat, k = 4 -> 1 <= Int32.toInt (pJ k) /\ Int32.toInt (pJ k) <= 30) (xZ : ∀ k : Nat, k = 3 -> 0 <= Int32.toInt (pJ k) /\ Int32.toInt (pJ k) <= 9) (zG : ∀ k : Nat, -128 <= Int32.toInt (qO k) /\ Int32.toInt (qO k) <= 127) (zI : ∀ k : Nat, -128 <= Int32.toInt (qQ k) /\ Int32.toInt (qQ k) <= 127) (hc0 : -1 <= SB /\ SB <= 7) (hc1 : (Int32.toInt aG <= 0 /\ SB = 0) \/ (1 <= Int32.toInt aG /\ SB = Int32.toInt aG - 1)) (hpost : ∀ (r : Int32) (xM : Int32) (xG : Int32) (aAP : Nat) (zS : Int32) (aAz : Int32) (aAm : Int32) (zH : Int32) (aAM : Int32) (zP : Int32) (yO : Int32) (zZ : Int32) (zO : Int32) (aAS : Int32) (aB9 : Int32) (aEo : Int32) (aEn : Int32) (aBX : Nat -> Int32) (aA5 : Nat -> Int32) (aCX : Nat -> Int32) (aBR : Nat -> Int32) (aGb : Nat -> Int32), (-1 <= Int32.toInt r /\ Int32.toInt r <= 2147483647) -> (0 <= Int32.toInt xM /\ Int32.toInt xM <= 16) -> (0 <= Int32.toInt xG /\ Int32.toInt xG <= 0) -> (aAP = 0 \/ aAP = 1 \/ aAP = 2) -> (0 <= Int32.toInt zS /\ Int32.toInt zS <= 80) -> (0 <= Int32.toInt aAz /\ Int32.toInt aAz <= 80) -> (0 <= Int32.toInt aAm /\ Int32.toInt aAm <= 80) -> (-1 <= Int32.toInt zH /\ Int32.toInt zH <= 80) -> (0 <= Int32.toInt aAM /\ Int32.toInt aAM <= 0) -> (0 <= Int32.toInt zP /\ Int32.toInt zP <= 15) -> (0 <= Int32.toInt yO /\ Int32.toInt yO <= 7) -> (0 <= Int32.toInt zZ /\ Int32.toInt zZ <= 1) -> (0 <= Int32.toInt zO /\ Int32.toInt zO <= 63) -> (0 <= Int32.toInt aAS /\ Int32.toInt aAS <= 65535) -> (0 <= Int32.toInt aB9 /\ Int32.toInt aB9 <= 1000000) -> (∀ k : Nat, 0 <= Int32.toInt (aA5 k) /\ Int32.toInt (aA5 k) <= 65535) -> (∀ k : Nat, 0 <= Int32.toInt (aCX k) /\ Int32.toInt (aCX k) <= 1000000) -> (∀ k : Nat, 0 <= Int32.toInt (aBR k) /\ Int32.toInt (aBR k) <= 99) -> post r xM xG aAP zS aAz aAm zH aAM zP yO zZ zO aAS aB9 aEo aEn aBX aA5 aCX aBR aGb) (hKn : ∀ (x1 : Int32) (x2 : Int32) (x3 : Int32) (x4 : Int32) (x5 : Int32) (bL : Int32) (bY : Int32) (jD : Nat) (mLn : Int32) (oF : Int32) (rP : Int32) (dQ : Int32) (bZ : Int32) (aR : Int32) (aE : Int32) (bI : Int32) (aW : Int32) (dO : Int32) (bM : Int32) (bQ : Int32) (bO : Int32) (sW : Nat -> Int32) (sH : Nat -> Int32) (uE : Nat -> Int32) (oJ : Nat -> Int32) (vK : Nat -> Int32), (0 <= Int32.toInt x1 /\ Int32.toInt x1 <= 9999) -> (-1 <= Int32.toInt x2 /\ Int32.toInt x2 <= 255) -> (-1 <= Int32.toInt x3 /\ Int32.toInt x3 <= 2147483647) -> (-2147483648 <= Int32.toInt x4 /\ Int32.toInt x4 <= 9999) -> (0 <= Int32.toInt x5 /\ Int32.toInt x5 <= 256) -> (0 <= Int32.toInt bL /\ Int32.toInt bL <= 16) -> (0 <= Int32.toInt bY /\ Int32.toInt bY <= 0) -> (jD = 0 \/ jD = 1 \/ jD = 2) -> (0 <= Int32.toInt mLn /\ Int32.toInt mLn <= 80) -> (0 <= Int32.toInt oF /\ Int32.toInt oF <= 80) -> (0 <= Int32.toInt rP /\ Int32.toInt rP <= 80) -> (-1 <= Int32.toInt dQ /\ Int32.toInt dQ <= 80) -> (0 <= Int32.toInt bZ /\ Int32.toInt bZ <= 0) -> (0 <= Int32.toInt aR /\ Int32.toInt aR <= 15) -> (0 <= Int32.toInt aE /\ Int32.toInt aE <= 7) -> (0 <= Int32.toInt bI /\ Int32.toInt bI <= 1) -> (0 <= Int32.toInt aW /\ Int32.toInt aW <= 63) -> (0 <= Int32.toInt dO /\ Int32.toInt dO <= 65535) -> (0 <= Int32.toInt bM /\ Int32.toInt bM <= 1000000) -> (∀ k : Nat, 0 <= Int32.toInt (sH k) /\ Int32.toInt (sH k) <= 65535) -> (∀ k : Nat, 0 <= Int32.toInt (uE k) /\ Int32.toInt (uE k) <= 1000000) -> (∀ k : Nat, 0 <= Int32.toInt (oJ k) /\ Int32.toInt (oJ k) <= 99) -> (256 - Int32.toInt x5 < n40) -> next x1 x2 x3 x4 x5 bL bY jD mLn oF rP dQ bZ aR aE bI aW dO bM bQ bO sW sH uE oJ vK) (x1 x2 x3 x4 x5 bL bY : Int32) (jD : Nat) (mLn oF rP dQ bZ aR aE bI aW dO bM bQ bO : Int32) (sW sH uE oJ vK : Nat -> Int32) (aBK : 0 <= Int32.toInt x1 /\ Int32.toInt x1 <= 9999) (aBN : -1 <= Int32.toInt x2 /\ Int32.toInt x2 <= 255) (aCH : -1 <= Int32.toInt x3 /\ Int32.toInt x3 <= 2147483647) (aDO : -2147483648 <= Int32.toInt x4 /\ Int32.toInt x4 <= 9999) (aF7 : 0 <= Int32.toInt x5 /\ Int32.toInt x5 <= 256) (yJ : 0 <= Int32.toInt bL /\ Int32.toInt bL <= 16) (yG : 0 <= Int32.toInt bY /\ Int32.toInt bY <= 0) (yM : jD = 0 \/ jD = 1 \/ jD = 2) (zE : 0 <= Int32.toInt mLn /\ Int32.toInt mLn <= 80) (aAR : 0 <= Int32.toInt oF /\ Int32.toInt oF <= 80) (aA1 : 0 <= Int32.toInt rP /\ Int32.toInt rP <= 80) (aAA : -1 <= Int32.toInt dQ /\ Int32.toInt dQ <= 80) (zT : 0 <= Int32.toInt bZ /\ Int32.toInt bZ <= 0) (yL : 0 <= Int32.toInt aR /\ Int32.toInt aR <= 15) (xQ : 0 <= Int32.toInt aE /\ Int32.toInt aE <= 7) (yY : 0 <= Int32.toInt bI /\ Int32.toInt bI <= 1) (yK : 0 <= Int32.toInt aW /\ Int32.toInt aW <= 63) (aAH : 0 <= Int32.toInt dO /\ Int32.toInt dO <= 65535) (aAv : 0 <= Int32.toInt bM /\ Int32.toInt bM <= 1000000) (zY : ∀ k : Nat, 0 <= Int32.toInt (sH k) /\ Int32.toInt (sH k) <= 65535) (aAw : ∀ k : Nat, 0 <= Int32.toInt (uE k) /\ Int32.toInt (uE k) <= 1000000) (zL : ∀ k : Nat, 0 <= Int32.toInt (oJ k) /\ Int32.toInt (oJ k) <= 99) (hn40 : 256 - Int32.toInt x5 <= n40) : ws_X10_sweep_40 post next bT aG bW qG m_x gR pW qR nG oO pJ qO qQ x1 x2 x3 x4 x5 bL bY jD mLn oF rP dQ bZ aR aE bI aW dO bM bQ bO sW sH uE oJ vK := by
  have l0 := aE0
  have l1 := aEc
  have l2 := li_16
  intro v11 ev11
  have f12 := aDv 8 256 aG (by decide) (by omega)
  have hv11 := congrArg Int32.toInt ev11
  have f14 : Int32.toInt (v11 - 1) = Int32.toInt v11 - Int32.toInt (1 : Int32) := aCA _ _ (by omega)
  refine And.intro (fun c13 => ?_) (fun c13 => ?_)
  · skip
    have c13 := (aAd _ _).mp c13
    refine And.intro (aBZ (by omega)) ?_
    intro v15 ev15
    have f16 : Int32.toInt (0 + 1) = Int32.toInt (0 : Int32) + Int32.toInt (1 : Int32) := aAD _ _ (by omega)
    rw [<- ev15] at f16
    refine And.intro (aBZ (by omega)) ?_
    intro v17 ev17
    have f18 : Int32.toInt (v15 + 1) = Int32.toInt v15 + Int32.toInt (1 : Int32) := aAD _ _ (by omega)
    rw [<- ev17] at f18
    have f19 := aAT x3
    exact hpost _ _ _ _ _ _ _ _ _ _ _ _ _ _ _ _ _ _ _ _ _ _ aCH (by omega) yG yM zE aAR aA1 aAA zT yL xQ yY yK aAH aAv zY aAw zL
  · skip
    have c13 := mt (aAd _ _).mpr c13
    refine t_X10_workOf (by omega) xJ vZ aAH aAv xU xV yF yD xZ zY aAw zL (by omega) (by omega) (fun r24 aND aI4 aI3 m_load_23 h_m_workMoves_20 => ?_)
    have f26 := aAT r24
    refine And.intro (fun c25 => ?_) (fun c25 => ?_)
    · skip
      have c25 := (aAO _ _).mp c25
      refine aSL (by omega) vZ zY (fun r27 h_r27 => ?_)
      intro v28 ev28
      have f29 := aAQ dO r27 (by omega)
      have f30 := aBx dO r27 (by omega)
      have hv28 := congrArg Int32.toInt ev28
      intro v31 ev31
      have hv31 := congrArg Int32.toInt ev31
      refine aNU (by omega) xJ yR (fun r33 => ?_)
      have f35 := aAT r33
      have f36 := aAT x3
      refine And.intro (fun c34 => ?_) (fun c34 => ?_)
      · skip
        have c34 := (aAd _ _).mp c34
        have f37 := aAT x4
        have f38 := aAT aI4
        have f39 := aAT aI3
        exact ts_X10_sweep_122 bT aG bW qG m_x gR pW qR nG oO pJ qO qQ xJ vZ zQ xU xV aAW xK yR zM xT yF yD xZ zG zI hc0 hc1 hpost hKn x1 x2 x3 x4 x5 bL bY jD mLn oF rP dQ bZ aR aE bI aW dO aND aI4 aI3 sW sH uE oJ m_load_23 aBK aBN aCH aDO (by omega) yJ yG yM zE aAR aA1 aAA zT yL xQ yY yK aAH h_m_workMoves_20 zY aAw zL hn40
      · skip
        have c34 := mt (aAd _ _).mpr c34
        refine And.intro (fun c40 => ?_) (fun c40 => ?_)
        · skip
          have c40 := mt (zJ _ _).mpr c40
          have f41 := aAT aI4
          have f42 := aAT aI3
          exact ts_X10_sweep_112 bT aG bW qG m_x gR pW qR nG oO pJ qO qQ xJ vZ zQ xU xV aAW xK yR zM xT yF yD xZ zG zI hc0 hc1 hpost hKn x1 x5 r24 r33 bL bY jD mLn oF rP dQ bZ aR aE bI aW dO aND aI4 aI3 sW sH uE oJ m_load_23 aBK (by omega) (by omega) (by omega) yJ yG yM zE aAR aA1 aAA zT yL xQ yY yK aAH h_m_workMoves_20 zY aAw zL hn40
        · skip
          have c40 := (zJ _ _).mp c40
          have f44 := aAT x4
          refine And.intro (fun c43 => ?_) (fun c43 => ?_)
          · skip
            have c43 := (aAd _ _).mp c43
            have f45 := aAT aI4
            have f46 := aAT aI3
            exact ts_X10_sweep_112 bT aG bW qG m_x gR pW qR nG oO pJ qO qQ xJ vZ zQ xU xV aAW xK yR zM xT yF yD xZ zG zI hc0 hc1 hpost hKn x1 x5 r24 r33 bL bY jD mLn oF rP dQ bZ aR aE bI aW dO aND aI4 aI3 sW sH uE oJ m_load_23 aBK (by omega) (by omega) (by omega) yJ yG yM zE aAR aA1 aAA zT yL xQ yY yK aAH h_m_workMoves_20 zY aAw zL hn40
          · skip
            have c43 := mt (aAd _ _).mpr c43
            have f47 := aAT aI4
            have f48 := aAT aI3
            exact ts_X10_sweep_122 bT aG bW qG m_x gR pW qR nG oO pJ qO qQ xJ vZ zQ xU xV aAW xK yR zM xT yF yD xZ zG zI hc0 hc1 hpost hKn x1 x2 x3 x4 x5 bL bY jD mLn oF rP dQ bZ aR aE bI aW dO aND aI4 aI3 sW sH uE oJ m_load_23 aBK aBN aCH aDO (by omega) yJ yG yM zE aAR aA1 aAA zT yL xQ yY yK aAH h_m_workMoves_20 zY aAw zL hn40
    · skip
      have c25 := mt (aAO _ _).mpr c25
      have f49 := aAT x3
      have f50 := aAT x4
      have f51 := aAT aI4
      have f52 := aAT aI3
      exact ts_X10_sweep_122 bT aG bW qG m_x gR pW qR nG oO pJ qO qQ xJ vZ zQ xU xV aAW xK yR zM xT yF yD xZ zG zI hc0 hc1 hpost hKn x1 x2 x3 x4 x5 bL bY jD mLn oF rP dQ bZ aR aE bI aW dO aND aI4 aI3 sW sH uE oJ m_load_23 aBK aBN aCH aDO (by omega) yJ yG yM zE aAR aA1 aAA zT yL xQ yY yK aAH h_m_workMoves_20 zY aAw zL hn40
set_option maxHeartbeats 8000000 in
set_option maxRecDepth 200000 in
theorem tb_X10_sweep_40 {post : Int32 -> Int32 -> Int32 -> Nat -> Int32 -> Int32 -> Int32 -> Int32 -> Int32 -> Int32 -> Int32 -> Int32 -> Int32 -> Int32 -> Int32 -> Int32 -> Int32 -> (Nat -> Int32) -> (Nat -> Int32) -> (Nat -> Int32) -> (Nat -> Int32) -> (Nat -> Int32) -> Prop} {SB : Int} (bT aG bW : Int32) (qG m_x gR pW qR nG oO pJ qO qQ : Nat -> Int32) (xJ : 0 <= Int32.toInt bT /\ Int32.toInt bT <= 16) (vZ : 0 <= Int32.toInt aG /\ Int32.toInt aG <= 8) (zQ : 0 <= Int32.toInt bW /\ Int32.toInt bW <= 40) (xU : ∀ k : Nat, k = 17 -> -1 <= Int32.toInt (qG k) /\ Int32.toInt (qG k) <= SB) (xV : ∀ k : Nat, k = 19 -> 0 <= Int32.toInt (qG k) /\ Int32.toInt (qG k) <= 9) (aAW : ∀ k : Nat, 0 <= Int32.toInt (m_x k) /\ Int32.toInt (m_x k) <= 99) (xK : ∀ k : Nat, 0 <= Int32.toInt (gR k) /\ Int32.toInt (gR k) <= 99) (yR : ∀ k : Nat, 0 <= Int32.toInt (pW k) /\ Int32.toInt (pW k) <= 9) (zM : ∀ k : Nat, 0 <= Int32.toInt (qR k) /\ Int32.toInt (qR k) <= 9) (xT : ∀ k : Nat, 0 <= Int32.toInt (nG k) /\ Int32.toInt (nG k) <= 99) (yF : ∀ k : Nat, 0 <= Int32.toInt (oO k) /\ Int32.toInt (oO k) <= 99) (yD : ∀ k : Nat, k = 4 -> 1 <= Int32.toInt (pJ k) /\ Int32.toInt (pJ k) <= 30) (xZ : ∀ k : Nat, k = 3 -> 0 <= Int32.toInt (pJ k) /\ Int32.toInt (pJ k) <= 9) (zG : ∀ k : Nat, -128 <= Int32.toInt (qO k) /\ Int32.toInt (qO k) <= 127) (zI : ∀ k : Nat, -128 <= Int32.toInt (qQ k) /\ Int32.toInt (qQ k) <= 127) (hc0 : -1 <= SB /\ SB <= 7) (hc1 : (Int32.toInt aG <= 0 /\ SB = 0) \/ (1 <= Int32.toInt aG /\ SB = Int32.toInt aG - 1)) (hpost : ∀ (r : Int32) (xM : Int32) (xG : Int32) (aAP : Nat) (zS : Int32) (aAz : Int32) (aAm : Int32) (zH : Int32) (aAM : Int32) (zP : Int32) (yO : Int32) (zZ : Int32) (zO : Int32) (aAS : Int32) (aB9 : Int32) (aEo : Int32) (aEn : Int32) (aBX : Nat -> Int32) (aA5 : Nat -> Int32) (aCX : Nat -> Int32) (aBR : Nat -> Int32) (aGb : Nat -> Int32), (-1 <= Int32.toInt r /\ Int32.toInt r <= 2147483647) -> (0 <= Int32.toInt xM /\ Int32.toInt xM <= 16) -> (0 <= Int32.toInt xG /\ Int32.toInt xG <= 0) -> (aAP = 0 \/ aAP = 1 \/ aAP = 2) -> (0 <= Int32.toInt zS /\ Int32.toInt zS <= 80) -> (0 <= Int32.toInt aAz /\ Int32.toInt aAz <= 80) -> (0 <= Int32.toInt aAm /\ Int32.toInt aAm <= 80) -> (-1 <= Int32.toInt zH /\ Int32.toInt zH <= 80) -> (0 <= Int32.toInt aAM /\ Int32.toInt aAM <= 0) -> (0 <= Int32.toInt zP /\ Int32.toInt zP <= 15) -> (0 <= Int32.toInt yO /\ Int32.toInt yO <= 7) -> (0 <= Int32.toInt zZ /\ Int32.toInt zZ <= 1) -> (0 <= Int32.toInt zO /\ Int32.toInt zO <= 63) -> (0 <= Int32.toInt aAS /\ Int32.toInt aAS <= 65535) -> (0 <= Int32.toInt aB9 /\ Int32.toInt aB9 <= 1000000) -> (∀ k : Nat, 0 <= Int32.toInt (aA5 k) /\ Int32.toInt (aA5 k) <= 65535) -> (∀ k : Nat, 0 <= Int32.toInt (aCX k) /\ Int32.toInt (aCX k) <= 1000000) -> (∀ k : Nat, 0 <= Int32.toInt (aBR k) /\ Int32.toInt (aBR k) <= 99) -> post r xM xG aAP zS aAz aAm zH aAM zP yO zZ zO aAS aB9 aEo aEn aBX aA5 aCX aBR aGb) : ∀ (n : Nat) (x1 x2 x3 x4 x5 bL bY : Int32) (jD : Nat) (mLn oF rP dQ bZ aR aE bI aW dO bM bQ bO : Int32) (sW sH uE oJ vK : Nat -> Int32), (0 <= Int32.toInt x1 /\ Int32.toInt x1 <= 9999) -> (-1 <= Int32.toInt x2 /\ Int32.toInt x2 <= 255) -> (-1 <= Int32.toInt x3 /\ Int32.toInt x3 <= 2147483647) -> (-2147483648 <= Int32.toInt x4 /\ Int32.toInt x4 <= 9999) -> (0 <= Int32.toInt x5 /\ Int32.toInt x5 <= 256) -> (0 <= Int32.toInt bL /\ Int32.toInt bL <= 16) -> (0 <= Int32.toInt bY /\ Int32.toInt bY <= 0) -> (jD = 0 \/ jD = 1 \/ jD = 2) -> (0 <= Int32.toInt mLn /\ Int32.toInt mLn <= 80) -> (0 <= Int32.toInt oF /\ Int32.toInt oF <= 80) -> (0 <= Int32.toInt rP /\ Int32.toInt rP <= 80) -> (-1 <= Int32.toInt dQ /\ Int32.toInt dQ <= 80) -> (0 <= Int32.toInt bZ /\ Int32.toInt bZ <= 0) -> (0 <= Int32.toInt aR /\ Int32.toInt aR <= 15) -> (0 <= Int32.toInt aE /\ Int32.toInt aE <= 7) -> (0 <= Int32.toInt bI /\ Int32.toInt bI <= 1) -> (0 <= Int32.toInt aW /\ Int32.toInt aW <= 63) -> (0 <= Int32.toInt dO /\ Int32.toInt dO <= 65535) -> (0 <= Int32.toInt bM /\ Int32.toInt bM <= 1000000) -> (∀ k : Nat, 0 <= Int32.toInt (sH k) /\ Int32.toInt (sH k) <= 65535) -> (∀ k : Nat, 0 <= Int32.toInt (uE k) /\ Int32.toInt (uE k) <= 1000000) -> (∀ k : Nat, 0 <= Int32.toInt (oJ k) /\ Int32.toInt (oJ k) <= 99) -> (256 - Int32.toInt x5 < (n : Int)) -> wb_X10_sweep_40 post bT aG bW qG m_x gR pW qR nG oO pJ qO qQ n x1 x2 x3 x4 x5 bL bY jD mLn oF rP dQ bZ aR aE bI aW dO bM bQ bO sW sH uE oJ vK := by
  intro n
  induction n with
  | zero =>
    intro x1 x2 x3 x4 x5 bL bY jD mLn oF rP dQ bZ aR aE bI aW dO bM bQ bO sW sH uE oJ vK aBK aBN aCH aDO aF7 yJ yG yM zE aAR aA1 aAA zT yL xQ yY yK aAH aAv zY aAw zL hm
    exfalso; omega
  | succ n ih =>
    intro x1 x2 x3 x4 x5 bL bY jD mLn oF rP dQ bZ aR aE bI aW dO bM bQ bO sW sH uE oJ vK aBK aBN aCH aDO aF7 yJ yG yM zE aAR aA1 aAA zT yL xQ yY yK aAH aAv zY aAw zL hm
    exact ts_X10_sweep_40 bT aG bW qG m_x gR pW qR nG oO pJ qO qQ xJ vZ zQ xU xV aAW xK yR zM xT yF yD xZ zG zI hc0 hc1 hpost ih x1 x2 x3 x4 x5 bL bY jD mLn oF rP dQ bZ aR aE bI aW dO bM bQ bO sW sH uE oJ vK aBK aBN aCH aDO aF7 yJ yG yM zE aAR aA1 aAA zT yL xQ yY yK aAH aAv zY aAw zL (by omega)
set_option maxHeartbeats 8000000 in
set_option maxRecDepth 200000 in
theorem t_X10_sweep {post : Int32 -> Int32 -> Int32 -> Nat -> Int32 -> Int32 -> Int32 -> Int32 -> Int32 -> Int32 -> Int32 -> Int32 -> Int32 -> Int32 -> Int32 -> Int32 -> Int32 -> (Nat -> Int32) -> (Nat -> Int32) -> (Nat -> Int32) -> (Nat -> Int32) -> (Nat -> Int32) -> Prop} {SB : Int} {p0 bT aG bL bY : Int32} {jD : Nat} {mLn oF rP dQ bW bZ aR aE bI aW dO bM bQ bO : Int32} {qG m_x gR pW qR nG oO pJ qO sW qQ sH uE oJ vK : Nat -> Int32} (xJ : 0 <= Int32.toInt bT /\ Int32.toInt bT <= 16) (vZ : 0 <= Int32.toInt aG /\ Int32.toInt aG <= 8) (yJ : 0 <= Int32.toInt bL /\ Int32.toInt bL <= 16) (yG : 0 <= Int32.toInt bY /\ Int32.toInt bY <= 1) (yM : jD = 0 \/ jD = 1 \/ jD = 2) (zE : 0 <= Int32.toInt mLn /\ Int32.toInt mLn <= 80) (aAR : 0 <= Int32.toInt oF /\ Int32.toInt oF <= 80) (aA1 : 0 <= Int32.toInt rP /\ Int32.toInt rP <= 80) (aAA : -1 <= Int32.toInt dQ /\ Int32.toInt dQ <= 80) (zQ : 0 <= Int32.toInt bW /\ Int32.toInt bW <= 40) (zT : 0 <= Int32.toInt bZ /\ Int32.toInt bZ <= 0) (yL : 0 <= Int32.toInt aR /\ Int32.toInt aR <= 15) (xQ : 0 <= Int32.toInt aE /\ Int32.toInt aE <= 7) (yY : 0 <= Int32.toInt bI /\ Int32.toInt bI <= 1) (yK : 0 <= Int32.toInt aW /\ Int32.toInt aW <= 63) (aAH : 0 <= Int32.toInt dO /\ Int32.toInt dO <= 65535) (aAv : 0 <= Int32.toInt bM /\ Int32.toInt bM <= 1000000) (xU : ∀ k : Nat, k = 17 -> -1 <= Int32.toInt (qG k) /\ Int32.toInt (qG k) <= SB) (xV : ∀ k : Nat, k = 19 -> 0 <= Int32.toInt (qG k) /\ Int32.toInt (qG k) <= 9) (aAW : ∀ k : Nat, 0 <= Int32.toInt (m_x k) /\ Int32.toInt (m_x k) <= 99) (xK : ∀ k : Nat, 0 <= Int32.toInt (gR k) /\ Int32.toInt (gR k) <= 99) (yR : ∀ k : Nat, 0 <= Int32.toInt (pW k) /\ Int32.toInt (pW k) <= 9) (zM : ∀ k : Nat, 0 <= Int32.toInt (qR k) /\ Int32.toInt (qR k) <= 9) (xT : ∀ k : Nat, 0 <= Int32.toInt (nG k) /\ Int32.toInt (nG k) <= 99) (yF : ∀ k : Nat, 0 <= Int32.toInt (oO k) /\ Int32.toInt (oO k) <= 99) (yD : ∀ k : Nat, k = 4 -> 1 <= Int32.toInt (pJ k) /\ Int32.toInt (pJ k) <= 30) (xZ : ∀ k : Nat, k = 3 -> 0 <= Int32.toInt (pJ k) /\ Int32.toInt (pJ k) <= 9) (zG : ∀ k : Nat, -128 <= Int32.toInt (qO k) /\ Int32.toInt (qO k) <= 127) (zI : ∀ k : Nat, -128 <= Int32.toInt (qQ k) /\ Int32.toInt (qQ k) <= 127) (zY : ∀ k : Nat, 0 <= Int32.toInt (sH k) /\ Int32.toInt (sH k) <= 65535) (aAw : ∀ k : Nat, 0 <= Int32.toInt (uE k) /\ Int32.toInt (uE k) <= 1000000) (zL : ∀ k : Nat, 0 <= Int32.toInt (oJ k) /\ Int32.toInt (oJ k) <= 99) (hc0 : -1 <= SB /\ SB <= 7) (hc1 : (Int32.toInt aG <= 0 /\ SB = 0) \/ (1 <= Int32.toInt aG /\ SB = Int32.toInt aG - 1)) (hpost : ∀ (r : Int32) (xM : Int32) (xG : Int32) (aAP : Nat) (zS : Int32) (aAz : Int32) (aAm : Int32) (zH : Int32) (aAM : Int32) (zP : Int32) (yO : Int32) (zZ : Int32) (zO : Int32) (aAS : Int32) (aB9 : Int32) (aEo : Int32) (aEn : Int32) (aBX : Nat -> Int32) (aA5 : Nat -> Int32) (aCX : Nat -> Int32) (aBR : Nat -> Int32) (aGb : Nat -> Int32), (-1 <= Int32.toInt r /\ Int32.toInt r <= 2147483647) -> (0 <= Int32.toInt xM /\ Int32.toInt xM <= 16) -> (0 <= Int32.toInt xG /\ Int32.toInt xG <= 0) -> (aAP = 0 \/ aAP = 1 \/ aAP = 2) -> (0 <= Int32.toInt zS /\ Int32.toInt zS <= 80) -> (0 <= Int32.toInt aAz /\ Int32.toInt aAz <= 80) -> (0 <= Int32.toInt aAm /\ Int32.toInt aAm <= 80) -> (-1 <= Int32.toInt zH /\ Int32.toInt zH <= 80) -> (0 <= Int32.toInt aAM /\ Int32.toInt aAM <= 0) -> (0 <= Int32.toInt zP /\ Int32.toInt zP <= 15) -> (0 <= Int32.toInt yO /\ Int32.toInt yO <= 7) -> (0 <= Int32.toInt zZ /\ Int32.toInt zZ <= 1) -> (0 <= Int32.toInt zO /\ Int32.toInt zO <= 63) -> (0 <= Int32.toInt aAS /\ Int32.toInt aAS <= 65535) -> (0 <= Int32.toInt aB9 /\ Int32.toInt aB9 <= 1000000) -> (∀ k : Nat, 0 <= Int32.toInt (aA5 k) /\ Int32.toInt (aA5 k) <= 65535) -> (∀ k : Nat, 0 <= Int32.toInt (aCX k) /\ Int32.toInt (aCX k) <= 1000000) -> (∀ k : Nat, 0 <= Int32.toInt (aBR k) /\ Int32.toInt (aBR k) <= 99) -> post r xM xG aAP zS aAz aAm zH aAM zP yO zZ zO aAS aB9 aEo aEn aBX aA5 aCX aBR aGb) : wp_X10_sweep post p0 bT aG bL bY jD mLn oF rP dQ bW bZ aR aE bI aW dO bM bQ bO qG m_x gR pW qR nG oO pJ qO sW qQ sH uE oJ vK := by
  have l0 := aI2
  have l1 := aE0
  have l2 := li_18
  have l3 := li_9999
  have f54 := aAT p0
  refine And.intro (fun c53 => ?_) (fun c53 => ?_)
  · skip
    have c53 := (aAd _ _).mp c53
    refine And.intro (fun h9 => absurd h9 (by decide)) (fun _ => ?_)
    exact hpost _ _ _ _ _ _ _ _ _ _ _ _ _ _ _ _ _ _ _ _ _ _ (by omega) yJ (by omega) yM zE aAR aA1 aAA zT yL xQ yY yK aAH aAv zY aAw zL
  · skip
    have c53 := mt (aAd _ _).mpr c53
    refine And.intro (fun c55 => ?_) (fun c55 => ?_)
    · skip
      have c55 := (aAd _ _).mp c55
      refine And.intro (fun h9 => absurd h9 (by decide)) (fun _ => ?_)
      exact hpost _ _ _ _ _ _ _ _ _ _ _ _ _ _ _ _ _ _ _ _ _ _ (by omega) yJ (by omega) yM zE aAR aA1 aAA zT yL xQ yY yK aAH aAv zY aAw zL
    · skip
      have c55 := mt (aAd _ _).mpr c55
      refine And.intro (fun _ => ?_) (fun h9 => absurd h9 (by decide))
      intro v56 ev56
      have hv56 := congrArg Int32.toInt ev56
      refine aLb xJ vZ aAH xU xV aAW xK zM xT yF yD xZ zY (by omega) (by omega) (fun m_wanted_58 m_hand_59 h_m_wanted_58 h_m_hand_59 => ?_)
      refine t_X10_layMoves vZ xT yD xZ aAw (fun m_moves_60 h_m_moves_60 ox61 => ?_)
      refine t_X10_laySeconds xJ vZ yM zE aAR aA1 aAA zQ zT yL xQ yY yK aAW xK yR xT yF zG zI zL (fun m_read_62 m_length_63 m_top_64 m_at_65 m_wrong_66 m_isAsked_67 m_askedFruit_68 m_askedStanding_69 m_askedHook_70 m_askedApron_71 m_handSeconds_72 h_m_read_62 h_m_length_63 h_m_top_64 h_m_at_65 h_m_wrong_66 h_m_isAsked_67 h_m_askedFruit_68 h_m_askedStanding_69 h_m_askedHook_70 h_m_askedApron_71 h_m_handSeconds_72 => ?_)
      have f73 := aAT bQ
      have f74 := aAT bO
      exact ⟨258, tb_X10_sweep_40 bT aG bW qG m_x gR pW qR nG oO pJ qO qQ xJ vZ zQ xU xV aAW xK yR zM xT yF yD xZ zG zI hc0 hc1 hpost _ p0 (-1) (-1) 0 0 bL 0 m_read_62 m_length_63 m_top_64 m_at_65 m_wrong_66 m_isAsked_67 m_askedFruit_68 m_askedStanding_69 m_askedHook_70 m_askedApron_71 m_wanted_58 bM bQ bO sW m_hand_59 m_moves_60 m_handSeconds_72 vK (by omega) (by omega) (by omega) (by omega) (by omega) yJ (by omega) h_m_read_62 h_m_length_63 h_m_top_64 h_m_at_65 h_m_wrong_66 h_m_isAsked_67 h_m_askedFruit_68 h_m_askedStanding_69 h_m_askedHook_70 h_m_askedApron_71 h_m_wanted_58 aAv h_m_hand_59 h_m_moves_60 h_m_handSeconds_72 (by omega)⟩
set_option maxHeartbeats 8000000 in
set_option maxRecDepth 200000 in
theorem ts_X10_dusk_233 {post : Int32 -> Int32 -> Int32 -> Nat -> Int32 -> Int32 -> Int32 -> Int32 -> Int32 -> Int32 -> Int32 -> Int32 -> Int32 -> (Nat -> Int32) -> (Nat -> Int32) -> Prop} {SB : Int} {K96 : Int32 -> Int32 -> Int32 -> Int32 -> Int32 -> Int32 -> Int32 -> Int32 -> Nat -> Int32 -> Int32 -> Int32 -> Int32 -> Int32 -> Int32 -> Int32 -> Int32 -> Int32 -> (Nat -> Int32) -> (Nat -> Int32) -> Prop} {n96 : Int} (bT bW : Int32) (qG m_x gR pW qR nG oO pJ qO qQ : Nat -> Int32) (xJ : 0 <= Int32.toInt bT /\ Int32.toInt bT <= 16) (zQ : 0 <= Int32.toInt bW /\ Int32.toInt bW <= 40) (xU : ∀ k : Nat, k = 17 -> -1 <= Int32.toInt (qG k) /\ Int32.toInt (qG k) <= SB) (xV : ∀ k : Nat, k = 19 -> 0 <= Int32.toInt (qG k) /\ Int32.toInt (qG k) <= 9) (aAW : ∀ k : Nat, 0 <= Int32.toInt (m_x k) /\ Int32.toInt (m_x k) <= 99) (xK : ∀ k : Nat, 0 <= Int32.toInt (gR k) /\ Int32.toInt (gR k) <= 99) (yR : ∀ k : Nat, 0 <= Int32.toInt (pW k) /\ Int32.toInt (pW k) <= 9) (zM : ∀ k : Nat, 0 <= Int32.toInt (qR k) /\ Int32.toInt (qR k) <= 9) (xT : ∀ k : Nat, 0 <= Int32.toInt (nG k) /\ Int32.toInt (nG k) <= 99) (yF : ∀ k : Nat, 0 <= Int32.toInt (oO k) /\ Int32.toInt (oO k) <= 99) (yD : ∀ k : Nat, k = 4 -> 1 <= Int32.toInt (pJ k) /\ Int32.toInt (pJ k) <= 30) (xZ : ∀ k : Nat, k = 3 -> 0 <= Int32.toInt (pJ k) /\ Int32.toInt (pJ k) <= 9) (zG : ∀ k : Nat, -128 <= Int32.toInt (qO k) /\ Int32.toInt (qO k) <= 127) (zI : ∀ k : Nat, -128 <= Int32.toInt (qQ k) /\ Int32.toInt (qQ k) <= 127) (hc0 : -1 <= SB /\ SB <= 7) (hpost : ∀ (r : Int32) (xM : Int32) (xG : Int32) (aAP : Nat) (zS : Int32) (aAz : Int32) (aAm : Int32) (zH : Int32) (aAM : Int32) (zP : Int32) (yO : Int32) (zZ : Int32) (zO : Int32) (aBX : Nat -> Int32) (aBR : Nat -> Int32), (-2 <= Int32.toInt r /\ Int32.toInt r <= 2147483647) -> (0 <= Int32.toInt xM /\ Int32.toInt xM <= 16) -> (0 <= Int32.toInt xG /\ Int32.toInt xG <= 0) -> (aAP = 0 \/ aAP = 1 \/ aAP = 2) -> (0 <= Int32.toInt zS /\ Int32.toInt zS <= 80) -> (0 <= Int32.toInt aAz /\ Int32.toInt aAz <= 80) -> (0 <= Int32.toInt aAm /\ Int32.toInt aAm <= 80) -> (-1 <= Int32.toInt zH /\ Int32.toInt zH <= 80) -> (0 <= Int32.toInt aAM /\ Int32.toInt aAM <= 0) -> (0 <= Int32.toInt zP /\ Int32.toInt zP <= 15) -> (0 <= Int32.toInt yO /\ Int32.toInt yO <= 7) -> (0 <= Int32.toInt zZ /\ Int32.toInt zZ <= 1) -> (0 <= Int32.toInt zO /\ Int32.toInt zO <= 63) -> (∀ k : Nat, 0 <= Int32.toInt (aBR k) /\ Int32.toInt (aBR k) <= 99) -> post r xM xG aAP zS aAz aAm zH aAM zP yO zZ zO aBX aBR) (hK96 : ∀ (x1 : Int32) (x2 : Int32) (x3 : Int32) (x4 : Int32) (x5 : Int32) (x6 : Int32) (bL : Int32) (bY : Int32) (jD : Nat) (mLn : Int32) (oF : Int32) (rP : Int32) (dQ : Int32) (bZ : Int32) (aR : Int32) (aE : Int32) (bI : Int32) (aW : Int32) (sW : Nat -> Int32) (oJ : Nat -> Int32), (0 <= Int32.toInt x1 /\ Int32.toInt x1 <= 300) -> (0 <= Int32.toInt x2 /\ Int32.toInt x2 <= 65535) -> (0 <= Int32.toInt x3 /\ Int32.toInt x3 <= 65535) -> (0 <= Int32.toInt x4 /\ Int32.toInt x4 <= 2147483647) -> (0 <= Int32.toInt x5 /\ Int32.toInt x5 <= 300) -> (0 <= Int32.toInt x6 /\ Int32.toInt x6 <= 65535) -> (0 <= Int32.toInt bL /\ Int32.toInt bL <= 16) -> (0 <= Int32.toInt bY /\ Int32.toInt bY <= 0) -> (jD = 0 \/ jD = 1 \/ jD = 2) -> (0 <= Int32.toInt mLn /\ Int32.toInt mLn <= 80) -> (0 <= Int32.toInt oF /\ Int32.toInt oF <= 80) -> (0 <= Int32.toInt rP /\ Int32.toInt rP <= 80) -> (-1 <= Int32.toInt dQ /\ Int32.toInt dQ <= 80) -> (0 <= Int32.toInt bZ /\ Int32.toInt bZ <= 0) -> (0 <= Int32.toInt aR /\ Int32.toInt aR <= 15) -> (0 <= Int32.toInt aE /\ Int32.toInt aE <= 7) -> (0 <= Int32.toInt bI /\ Int32.toInt bI <= 1) -> (0 <= Int32.toInt aW /\ Int32.toInt aW <= 63) -> (∀ k : Nat, 0 <= Int32.toInt (oJ k) /\ Int32.toInt (oJ k) <= 99) -> (Int32.toInt x6 < n96) -> K96 x1 x2 x3 x4 x5 x6 bL bY jD mLn oF rP dQ bZ aR aE bI aW sW oJ) (x1 x2 x3 x4 x5 x6 bL bY : Int32) (jD : Nat) (mLn oF rP dQ bZ aR aE bI aW : Int32) (sW oJ : Nat -> Int32) (aBK : 0 <= Int32.toInt x1 /\ Int32.toInt x1 <= 300) (aBN : 0 <= Int32.toInt x2 /\ Int32.toInt x2 <= 65535) (aCH : 0 <= Int32.toInt x3 /\ Int32.toInt x3 <= 65535) (aDO : 0 <= Int32.toInt x4 /\ Int32.toInt x4 <= 2147483647) (aF7 : 0 <= Int32.toInt x5 /\ Int32.toInt x5 <= 300) (h_x6 : 1 <= Int32.toInt x6 /\ Int32.toInt x6 <= 65535) (yJ : 0 <= Int32.toInt bL /\ Int32.toInt bL <= 16) (yG : 0 <= Int32.toInt bY /\ Int32.toInt bY <= 0) (yM : jD = 0 \/ jD = 1 \/ jD = 2) (zE : 0 <= Int32.toInt mLn /\ Int32.toInt mLn <= 80) (aAR : 0 <= Int32.toInt oF /\ Int32.toInt oF <= 80) (aA1 : 0 <= Int32.toInt rP /\ Int32.toInt rP <= 80) (aAA : -1 <= Int32.toInt dQ /\ Int32.toInt dQ <= 80) (zT : 0 <= Int32.toInt bZ /\ Int32.toInt bZ <= 0) (yL : 0 <= Int32.toInt aR /\ Int32.toInt aR <= 15) (xQ : 0 <= Int32.toInt aE /\ Int32.toInt aE <= 7) (yY : 0 <= Int32.toInt bI /\ Int32.toInt bI <= 1) (yK : 0 <= Int32.toInt aW /\ Int32.toInt aW <= 63) (zL : ∀ k : Nat, 0 <= Int32.toInt (oJ k) /\ Int32.toInt (oJ k) <= 99) (hn96 : Int32.toInt x6 <= n96) : ws_X10_dusk_233 post K96 bT bW qG m_x gR pW qR nG oO pJ qO qQ x1 x2 x3 x4 x5 x6 bL bY jD mLn oF rP dQ bZ aR aE bI aW sW oJ := by
  have l0 := aEc
  intro v1 ev1
  have f2 : Int32.toInt (x6 - 1) = Int32.toInt x6 - Int32.toInt (1 : Int32) := aCA _ _ (by omega)
  rw [<- ev1] at f2
  intro v3 ev3
  have f4 := aAQ v1 x2 (by omega)
  have f5 := aBx v1 x2 (by omega)
  have hv3 := congrArg Int32.toInt ev3
  have f6 := aAT x4
  exact hK96 x1 x2 x3 x4 x5 v3 bL bY jD mLn oF rP dQ bZ aR aE bI aW sW oJ aBK aBN aCH aDO aF7 (by omega) yJ yG yM zE aAR aA1 aAA zT yL xQ yY yK zL (by omega)
set_option maxHeartbeats 8000000 in
set_option maxRecDepth 200000 in
theorem ts_X10_dusk_222 {post : Int32 -> Int32 -> Int32 -> Nat -> Int32 -> Int32 -> Int32 -> Int32 -> Int32 -> Int32 -> Int32 -> Int32 -> Int32 -> (Nat -> Int32) -> (Nat -> Int32) -> Prop} {SB : Int} {K96 : Int32 -> Int32 -> Int32 -> Int32 -> Int32 -> Int32 -> Int32 -> Int32 -> Nat -> Int32 -> Int32 -> Int32 -> Int32 -> Int32 -> Int32 -> Int32 -> Int32 -> Int32 -> (Nat -> Int32) -> (Nat -> Int32) -> Prop} {n96 : Int} (bT bW : Int32) (qG m_x gR pW qR nG oO pJ qO qQ : Nat -> Int32) (xJ : 0 <= Int32.toInt bT /\ Int32.toInt bT <= 16) (zQ : 0 <= Int32.toInt bW /\ Int32.toInt bW <= 40) (xU : ∀ k : Nat, k = 17 -> -1 <= Int32.toInt (qG k) /\ Int32.toInt (qG k) <= SB) (xV : ∀ k : Nat, k = 19 -> 0 <= Int32.toInt (qG k) /\ Int32.toInt (qG k) <= 9) (aAW : ∀ k : Nat, 0 <= Int32.toInt (m_x k) /\ Int32.toInt (m_x k) <= 99) (xK : ∀ k : Nat, 0 <= Int32.toInt (gR k) /\ Int32.toInt (gR k) <= 99) (yR : ∀ k : Nat, 0 <= Int32.toInt (pW k) /\ Int32.toInt (pW k) <= 9) (zM : ∀ k : Nat, 0 <= Int32.toInt (qR k) /\ Int32.toInt (qR k) <= 9) (xT : ∀ k : Nat, 0 <= Int32.toInt (nG k) /\ Int32.toInt (nG k) <= 99) (yF : ∀ k : Nat, 0 <= Int32.toInt (oO k) /\ Int32.toInt (oO k) <= 99) (yD : ∀ k : Nat, k = 4 -> 1 <= Int32.toInt (pJ k) /\ Int32.toInt (pJ k) <= 30) (xZ : ∀ k : Nat, k = 3 -> 0 <= Int32.toInt (pJ k) /\ Int32.toInt (pJ k) <= 9) (zG : ∀ k : Nat, -128 <= Int32.toInt (qO k) /\ Int32.toInt (qO k) <= 127) (zI : ∀ k : Nat, -128 <= Int32.toInt (qQ k) /\ Int32.toInt (qQ k) <= 127) (hc0 : -1 <= SB /\ SB <= 7) (hpost : ∀ (r : Int32) (xM : Int32) (xG : Int32) (aAP : Nat) (zS : Int32) (aAz : Int32) (aAm : Int32) (zH : Int32) (aAM : Int32) (zP : Int32) (yO : Int32) (zZ : Int32) (zO : Int32) (aBX : Nat -> Int32) (aBR : Nat -> Int32), (-2 <= Int32.toInt r /\ Int32.toInt r <= 2147483647) -> (0 <= Int32.toInt xM /\ Int32.toInt xM <= 16) -> (0 <= Int32.toInt xG /\ Int32.toInt xG <= 0) -> (aAP = 0 \/ aAP = 1 \/ aAP = 2) -> (0 <= Int32.toInt zS /\ Int32.toInt zS <= 80) -> (0 <= Int32.toInt aAz /\ Int32.toInt aAz <= 80) -> (0 <= Int32.toInt aAm /\ Int32.toInt aAm <= 80) -> (-1 <= Int32.toInt zH /\ Int32.toInt zH <= 80) -> (0 <= Int32.toInt aAM /\ Int32.toInt aAM <= 0) -> (0 <= Int32.toInt zP /\ Int32.toInt zP <= 15) -> (0 <= Int32.toInt yO /\ Int32.toInt yO <= 7) -> (0 <= Int32.toInt zZ /\ Int32.toInt zZ <= 1) -> (0 <= Int32.toInt zO /\ Int32.toInt zO <= 63) -> (∀ k : Nat, 0 <= Int32.toInt (aBR k) /\ Int32.toInt (aBR k) <= 99) -> post r xM xG aAP zS aAz aAm zH aAM zP yO zZ zO aBX aBR) (hK96 : ∀ (x1 : Int32) (x2 : Int32) (x3 : Int32) (x4 : Int32) (x5 : Int32) (x6 : Int32) (bL : Int32) (bY : Int32) (jD : Nat) (mLn : Int32) (oF : Int32) (rP : Int32) (dQ : Int32) (bZ : Int32) (aR : Int32) (aE : Int32) (bI : Int32) (aW : Int32) (sW : Nat -> Int32) (oJ : Nat -> Int32), (0 <= Int32.toInt x1 /\ Int32.toInt x1 <= 300) -> (0 <= Int32.toInt x2 /\ Int32.toInt x2 <= 65535) -> (0 <= Int32.toInt x3 /\ Int32.toInt x3 <= 65535) -> (0 <= Int32.toInt x4 /\ Int32.toInt x4 <= 2147483647) -> (0 <= Int32.toInt x5 /\ Int32.toInt x5 <= 300) -> (0 <= Int32.toInt x6 /\ Int32.toInt x6 <= 65535) -> (0 <= Int32.toInt bL /\ Int32.toInt bL <= 16) -> (0 <= Int32.toInt bY /\ Int32.toInt bY <= 0) -> (jD = 0 \/ jD = 1 \/ jD = 2) -> (0 <= Int32.toInt mLn /\ Int32.toInt mLn <= 80) -> (0 <= Int32.toInt oF /\ Int32.toInt oF <= 80) -> (0 <= Int32.toInt rP /\ Int32.toInt rP <= 80) -> (-1 <= Int32.toInt dQ /\ Int32.toInt dQ <= 80) -> (0 <= Int32.toInt bZ /\ Int32.toInt bZ <= 0) -> (0 <= Int32.toInt aR /\ Int32.toInt aR <= 15) -> (0 <= Int32.toInt aE /\ Int32.toInt aE <= 7) -> (0 <= Int32.toInt bI /\ Int32.toInt bI <= 1) -> (0 <= Int32.toInt aW /\ Int32.toInt aW <= 63) -> (∀ k : Nat, 0 <= Int32.toInt (oJ k) /\ Int32.toInt (oJ k) <= 99) -> (Int32.toInt x6 < n96) -> K96 x1 x2 x3 x4 x5 x6 bL bY jD mLn oF rP dQ bZ aR aE bI aW sW oJ) (x1 x2 x6 x7 x8 bL bY : Int32) (jD : Nat) (mLn oF rP dQ bZ aR aE bI aW : Int32) (sW oJ : Nat -> Int32) (aBK : 0 <= Int32.toInt x1 /\ Int32.toInt x1 <= 300) (aBN : 0 <= Int32.toInt x2 /\ Int32.toInt x2 <= 65535) (h_x6 : 1 <= Int32.toInt x6 /\ Int32.toInt x6 <= 65535) (h_x7 : 0 <= Int32.toInt x7 /\ Int32.toInt x7 <= 300) (h_x8 : 0 <= Int32.toInt x8 /\ Int32.toInt x8 <= 2147483647) (yJ : 0 <= Int32.toInt bL /\ Int32.toInt bL <= 16) (yG : 0 <= Int32.toInt bY /\ Int32.toInt bY <= 0) (yM : jD = 0 \/ jD = 1 \/ jD = 2) (zE : 0 <= Int32.toInt mLn /\ Int32.toInt mLn <= 80) (aAR : 0 <= Int32.toInt oF /\ Int32.toInt oF <= 80) (aA1 : 0 <= Int32.toInt rP /\ Int32.toInt rP <= 80) (aAA : -1 <= Int32.toInt dQ /\ Int32.toInt dQ <= 80) (zT : 0 <= Int32.toInt bZ /\ Int32.toInt bZ <= 0) (yL : 0 <= Int32.toInt aR /\ Int32.toInt aR <= 15) (xQ : 0 <= Int32.toInt aE /\ Int32.toInt aE <= 7) (yY : 0 <= Int32.toInt bI /\ Int32.toInt bI <= 1) (yK : 0 <= Int32.toInt aW /\ Int32.toInt aW <= 63) (zL : ∀ k : Nat, 0 <= Int32.toInt (oJ k) /\ Int32.toInt (oJ k) <= 99) (hn96 : Int32.toInt x6 <= n96) : ws_X10_dusk_222 post K96 bT bW qG m_x gR pW qR nG oO pJ qO qQ x1 x2 x6 x7 x8 bL bY jD mLn oF rP dQ bZ aR aE bI aW sW oJ := by
  have f7 := aAT x8
  exact ts_X10_dusk_233 bT bW qG m_x gR pW qR nG oO pJ qO qQ xJ zQ xU xV aAW xK yR zM xT yF yD xZ zG zI hc0 hpost hK96 x1 x2 x6 x8 x7 x6 bL bY jD mLn oF rP dQ bZ aR aE bI aW sW oJ aBK aBN (by omega) h_x8 h_x7 h_x6 yJ yG yM zE aAR aA1 aAA zT yL xQ yY yK zL hn96
set_option maxHeartbeats 8000000 in
set_option maxRecDepth 200000 in
theorem ts_X10_dusk_201 {post : Int32 -> Int32 -> Int32 -> Nat -> Int32 -> Int32 -> Int32 -> Int32 -> Int32 -> Int32 -> Int32 -> Int32 -> Int32 -> (Nat -> Int32) -> (Nat -> Int32) -> Prop} {SB : Int} {K96 : Int32 -> Int32 -> Int32 -> Int32 -> Int32 -> Int32 -> Int32 -> Int32 -> Nat -> Int32 -> Int32 -> Int32 -> Int32 -> Int32 -> Int32 -> Int32 -> Int32 -> Int32 -> (Nat -> Int32) -> (Nat -> Int32) -> Prop} {n96 : Int} (bT bW : Int32) (qG m_x gR pW qR nG oO pJ qO qQ : Nat -> Int32) (xJ : 0 <= Int32.toInt bT /\ Int32.toInt bT <= 16) (zQ : 0 <= Int32.toInt bW /\ Int32.toInt bW <= 40) (xU : ∀ k : Nat, k = 17 -> -1 <= Int32.toInt (qG k) /\ Int32.toInt (qG k) <= SB) (xV : ∀ k : Nat, k = 19 -> 0 <= Int32.toInt (qG k) /\ Int32.toInt (qG k) <= 9) (aAW : ∀ k : Nat, 0 <= Int32.toInt (m_x k) /\ Int32.toInt (m_x k) <= 99) (xK : ∀ k : Nat, 0 <= Int32.toInt (gR k) /\ Int32.toInt (gR k) <= 99) (yR : ∀ k : Nat, 0 <= Int32.toInt (pW k) /\ Int32.toInt (pW k) <= 9) (zM : ∀ k : Nat, 0 <= Int32.toInt (qR k) /\ Int32.toInt (qR k) <= 9) (xT : ∀ k : Nat, 0 <= Int32.toInt (nG k) /\ Int32.toInt (nG k) <= 99) (yF : ∀ k : Nat, 0 <= Int32.toInt (oO k) /\ Int32.toInt (oO k) <= 99) (yD : ∀ k : Nat, k = 4 -> 1 <= Int32.toInt (pJ k) /\ Int32.toInt (pJ k) <= 30) (xZ : ∀ k : Nat, k = 3 -> 0 <= Int32.toInt (pJ k) /\ Int32.toInt (pJ k) <= 9) (zG : ∀ k : Nat, -128 <= Int32.toInt (qO k) /\ Int32.toInt (qO k) <= 127) (zI : ∀ k : Nat, -128 <= Int32.toInt (qQ k) /\ Int32.toInt (qQ k) <= 127) (hc0 : -1 <= SB /\ SB <= 7) (hpost : ∀ (r : Int32) (xM : Int32) (xG : Int32) (aAP : Nat) (zS : Int32) (aAz : Int32) (aAm : Int32) (zH : Int32) (aAM : Int32) (zP : Int32) (yO : Int32) (zZ : Int32) (zO : Int32) (aBX : Nat -> Int32) (aBR : Nat -> Int32), (-2 <= Int32.toInt r /\ Int32.toInt r <= 2147483647) -> (0 <= Int32.toInt xM /\ Int32.toInt xM <= 16) -> (0 <= Int32.toInt xG /\ Int32.toInt xG <= 0) -> (aAP = 0 \/ aAP = 1 \/ aAP = 2) -> (0 <= Int32.toInt zS /\ Int32.toInt zS <= 80) -> (0 <= Int32.toInt aAz /\ Int32.toInt aAz <= 80) -> (0 <= Int32.toInt aAm /\ Int32.toInt aAm <= 80) -> (-1 <= Int32.toInt zH /\ Int32.toInt zH <= 80) -> (0 <= Int32.toInt aAM /\ Int32.toInt aAM <= 0) -> (0 <= Int32.toInt zP /\ Int32.toInt zP <= 15) -> (0 <= Int32.toInt yO /\ Int32.toInt yO <= 7) -> (0 <= Int32.toInt zZ /\ Int32.toInt zZ <= 1) -> (0 <= Int32.toInt zO /\ Int32.toInt zO <= 63) -> (∀ k : Nat, 0 <= Int32.toInt (aBR k) /\ Int32.toInt (aBR k) <= 99) -> post r xM xG aAP zS aAz aAm zH aAM zP yO zZ zO aBX aBR) (hK96 : ∀ (x1 : Int32) (x2 : Int32) (x3 : Int32) (x4 : Int32) (x5 : Int32) (x6 : Int32) (bL : Int32) (bY : Int32) (jD : Nat) (mLn : Int32) (oF : Int32) (rP : Int32) (dQ : Int32) (bZ : Int32) (aR : Int32) (aE : Int32) (bI : Int32) (aW : Int32) (sW : Nat -> Int32) (oJ : Nat -> Int32), (0 <= Int32.toInt x1 /\ Int32.toInt x1 <= 300) -> (0 <= Int32.toInt x2 /\ Int32.toInt x2 <= 65535) -> (0 <= Int32.toInt x3 /\ Int32.toInt x3 <= 65535) -> (0 <= Int32.toInt x4 /\ Int32.toInt x4 <= 2147483647) -> (0 <= Int32.toInt x5 /\ Int32.toInt x5 <= 300) -> (0 <= Int32.toInt x6 /\ Int32.toInt x6 <= 65535) -> (0 <= Int32.toInt bL /\ Int32.toInt bL <= 16) -> (0 <= Int32.toInt bY /\ Int32.toInt bY <= 0) -> (jD = 0 \/ jD = 1 \/ jD = 2) -> (0 <= Int32.toInt mLn /\ Int32.toInt mLn <= 80) -> (0 <= Int32.toInt oF /\ Int32.toInt oF <= 80) -> (0 <= Int32.toInt rP /\ Int32.toInt rP <= 80) -> (-1 <= Int32.toInt dQ /\ Int32.toInt dQ <= 80) -> (0 <= Int32.toInt bZ /\ Int32.toInt bZ <= 0) -> (0 <= Int32.toInt aR /\ Int32.toInt aR <= 15) -> (0 <= Int32.toInt aE /\ Int32.toInt aE <= 7) -> (0 <= Int32.toInt bI /\ Int32.toInt bI <= 1) -> (0 <= Int32.toInt aW /\ Int32.toInt aW <= 63) -> (∀ k : Nat, 0 <= Int32.toInt (oJ k) /\ Int32.toInt (oJ k) <= 99) -> (Int32.toInt x6 < n96) -> K96 x1 x2 x3 x4 x5 x6 bL bY jD mLn oF rP dQ bZ aR aE bI aW sW oJ) (x1 x2 x3 x4 x5 x6 x7 x8 bL bY : Int32) (jD : Nat) (mLn oF rP dQ bZ aR aE bI aW : Int32) (sW oJ : Nat -> Int32) (aBK : 0 <= Int32.toInt x1 /\ Int32.toInt x1 <= 300) (aBN : 0 <= Int32.toInt x2 /\ Int32.toInt x2 <= 65535) (aCH : 0 <= Int32.toInt x3 /\ Int32.toInt x3 <= 65535) (aDO : 0 <= Int32.toInt x4 /\ Int32.toInt x4 <= 2147483647) (aF7 : 0 <= Int32.toInt x5 /\ Int32.toInt x5 <= 300) (h_x6 : 1 <= Int32.toInt x6 /\ Int32.toInt x6 <= 65535) (h_x7 : 0 <= Int32.toInt x7 /\ Int32.toInt x7 <= 300) (h_x8 : 0 <= Int32.toInt x8 /\ Int32.toInt x8 <= 2147483647) (yJ : 0 <= Int32.toInt bL /\ Int32.toInt bL <= 16) (yG : 0 <= Int32.toInt bY /\ Int32.toInt bY <= 0) (yM : jD = 0 \/ jD = 1 \/ jD = 2) (zE : 0 <= Int32.toInt mLn /\ Int32.toInt mLn <= 80) (aAR : 0 <= Int32.toInt oF /\ Int32.toInt oF <= 80) (aA1 : 0 <= Int32.toInt rP /\ Int32.toInt rP <= 80) (aAA : -1 <= Int32.toInt dQ /\ Int32.toInt dQ <= 80) (zT : 0 <= Int32.toInt bZ /\ Int32.toInt bZ <= 0) (yL : 0 <= Int32.toInt aR /\ Int32.toInt aR <= 15) (xQ : 0 <= Int32.toInt aE /\ Int32.toInt aE <= 7) (yY : 0 <= Int32.toInt bI /\ Int32.toInt bI <= 1) (yK : 0 <= Int32.toInt aW /\ Int32.toInt aW <= 63) (zL : ∀ k : Nat, 0 <= Int32.toInt (oJ k) /\ Int32.toInt (oJ k) <= 99) (hn96 : Int32.toInt x6 <= n96) : ws_X10_dusk_201 post K96 bT bW qG m_x gR pW qR nG oO pJ qO qQ x1 x2 x3 x4 x5 x6 x7 x8 bL bY jD mLn oF rP dQ bZ aR aE bI aW sW oJ := by
  have l0 := aE0
  have f9 := aAT x8
  have f10 := aAT x4
  refine And.intro (fun c8 => ?_) (fun c8 => ?_)
  · skip
    have c8 := mt (zJ _ _).mpr c8
    exact ts_X10_dusk_222 bT bW qG m_x gR pW qR nG oO pJ qO qQ xJ zQ xU xV aAW xK yR zM xT yF yD xZ zG zI hc0 hpost hK96 x1 x2 x6 x7 x8 bL bY jD mLn oF rP dQ bZ aR aE bI aW sW oJ aBK aBN h_x6 h_x7 h_x8 yJ yG yM zE aAR aA1 aAA zT yL xQ yY yK zL hn96
  · skip
    have c8 := (zJ _ _).mp c8
    refine And.intro (fun c11 => ?_) (fun c11 => ?_)
    · skip
      have c11 := mt (zJ _ _).mpr c11
      exact ts_X10_dusk_222 bT bW qG m_x gR pW qR nG oO pJ qO qQ xJ zQ xU xV aAW xK yR zM xT yF yD xZ zG zI hc0 hpost hK96 x1 x2 x6 x7 x8 bL bY jD mLn oF rP dQ bZ aR aE bI aW sW oJ aBK aBN h_x6 h_x7 h_x8 yJ yG yM zE aAR aA1 aAA zT yL xQ yY yK zL hn96
    · skip
      have c11 := (zJ _ _).mp c11
      refine And.intro (fun c12 => ?_) (fun c12 => ?_)
      · skip
        have c12 := mt (zJ _ _).mpr c12
        exact ts_X10_dusk_222 bT bW qG m_x gR pW qR nG oO pJ qO qQ xJ zQ xU xV aAW xK yR zM xT yF yD xZ zG zI hc0 hpost hK96 x1 x2 x6 x7 x8 bL bY jD mLn oF rP dQ bZ aR aE bI aW sW oJ aBK aBN h_x6 h_x7 h_x8 yJ yG yM zE aAR aA1 aAA zT yL xQ yY yK zL hn96
      · skip
        have c12 := (zJ _ _).mp c12
        exact ts_X10_dusk_233 bT bW qG m_x gR pW qR nG oO pJ qO qQ xJ zQ xU xV aAW xK yR zM xT yF yD xZ zG zI hc0 hpost hK96 x1 x2 x3 x4 x5 x6 bL bY jD mLn oF rP dQ bZ aR aE bI aW sW oJ aBK aBN aCH aDO aF7 h_x6 yJ yG yM zE aAR aA1 aAA zT yL xQ yY yK zL hn96
set_option maxHeartbeats 8000000 in
set_option maxRecDepth 200000 in
theorem ts_X10_dusk_171 {post : Int32 -> Int32 -> Int32 -> Nat -> Int32 -> Int32 -> Int32 -> Int32 -> Int32 -> Int32 -> Int32 -> Int32 -> Int32 -> (Nat -> Int32) -> (Nat -> Int32) -> Prop} {SB : Int} {K96 : Int32 -> Int32 -> Int32 -> Int32 -> Int32 -> Int32 -> Int32 -> Int32 -> Nat -> Int32 -> Int32 -> Int32 -> Int32 -> Int32 -> Int32 -> Int32 -> Int32 -> Int32 -> (Nat -> Int32) -> (Nat -> Int32) -> Prop} {n96 : Int} (bT bW : Int32) (qG m_x gR pW qR nG oO pJ qO qQ : Nat -> Int32) (xJ : 0 <= Int32.toInt bT /\ Int32.toInt bT <= 16) (zQ : 0 <= Int32.toInt bW /\ Int32.toInt bW <= 40) (xU : ∀ k : Nat, k = 17 -> -1 <= Int32.toInt (qG k) /\ Int32.toInt (qG k) <= SB) (xV : ∀ k : Nat, k = 19 -> 0 <= Int32.toInt (qG k) /\ Int32.toInt (qG k) <= 9) (aAW : ∀ k : Nat, 0 <= Int32.toInt (m_x k) /\ Int32.toInt (m_x k) <= 99) (xK : ∀ k : Nat, 0 <= Int32.toInt (gR k) /\ Int32.toInt (gR k) <= 99) (yR : ∀ k : Nat, 0 <= Int32.toInt (pW k) /\ Int32.toInt (pW k) <= 9) (zM : ∀ k : Nat, 0 <= Int32.toInt (qR k) /\ Int32.toInt (qR k) <= 9) (xT : ∀ k : Nat, 0 <= Int32.toInt (nG k) /\ Int32.toInt (nG k) <= 99) (yF : ∀ k : Nat, 0 <= Int32.toInt (oO k) /\ Int32.toInt (oO k) <= 99) (yD : ∀ k : Nat, k = 4 -> 1 <= Int32.toInt (pJ k) /\ Int32.toInt (pJ k) <= 30) (xZ : ∀ k : Nat, k = 3 -> 0 <= Int32.toInt (pJ k) /\ Int32.toInt (pJ k) <= 9) (zG : ∀ k : Nat, -128 <= Int32.toInt (qO k) /\ Int32.toInt (qO k) <= 127) (zI : ∀ k : Nat, -128 <= Int32.toInt (qQ k) /\ Int32.toInt (qQ k) <= 127) (hc0 : -1 <= SB /\ SB <= 7) (hpost : ∀ (r : Int32) (xM : Int32) (xG : Int32) (aAP : Nat) (zS : Int32) (aAz : Int32) (aAm : Int32) (zH : Int32) (aAM : Int32) (zP : Int32) (yO : Int32) (zZ : Int32) (zO : Int32) (aBX : Nat -> Int32) (aBR : Nat -> Int32), (-2 <= Int32.toInt r /\ Int32.toInt r <= 2147483647) -> (0 <= Int32.toInt xM /\ Int32.toInt xM <= 16) -> (0 <= Int32.toInt xG /\ Int32.toInt xG <= 0) -> (aAP = 0 \/ aAP = 1 \/ aAP = 2) -> (0 <= Int32.toInt zS /\ Int32.toInt zS <= 80) -> (0 <= Int32.toInt aAz /\ Int32.toInt aAz <= 80) -> (0 <= Int32.toInt aAm /\ Int32.toInt aAm <= 80) -> (-1 <= Int32.toInt zH /\ Int32.toInt zH <= 80) -> (0 <= Int32.toInt aAM /\ Int32.toInt aAM <= 0) -> (0 <= Int32.toInt zP /\ Int32.toInt zP <= 15) -> (0 <= Int32.toInt yO /\ Int32.toInt yO <= 7) -> (0 <= Int32.toInt zZ /\ Int32.toInt zZ <= 1) -> (0 <= Int32.toInt zO /\ Int32.toInt zO <= 63) -> (∀ k : Nat, 0 <= Int32.toInt (aBR k) /\ Int32.toInt (aBR k) <= 99) -> post r xM xG aAP zS aAz aAm zH aAM zP yO zZ zO aBX aBR) (hK96 : ∀ (x1 : Int32) (x2 : Int32) (x3 : Int32) (x4 : Int32) (x5 : Int32) (x6 : Int32) (bL : Int32) (bY : Int32) (jD : Nat) (mLn : Int32) (oF : Int32) (rP : Int32) (dQ : Int32) (bZ : Int32) (aR : Int32) (aE : Int32) (bI : Int32) (aW : Int32) (sW : Nat -> Int32) (oJ : Nat -> Int32), (0 <= Int32.toInt x1 /\ Int32.toInt x1 <= 300) -> (0 <= Int32.toInt x2 /\ Int32.toInt x2 <= 65535) -> (0 <= Int32.toInt x3 /\ Int32.toInt x3 <= 65535) -> (0 <= Int32.toInt x4 /\ Int32.toInt x4 <= 2147483647) -> (0 <= Int32.toInt x5 /\ Int32.toInt x5 <= 300) -> (0 <= Int32.toInt x6 /\ Int32.toInt x6 <= 65535) -> (0 <= Int32.toInt bL /\ Int32.toInt bL <= 16) -> (0 <= Int32.toInt bY /\ Int32.toInt bY <= 0) -> (jD = 0 \/ jD = 1 \/ jD = 2) -> (0 <= Int32.toInt mLn /\ Int32.toInt mLn <= 80) -> (0 <= Int32.toInt oF /\ Int32.toInt oF <= 80) -> (0 <= Int32.toInt rP /\ Int32.toInt rP <= 80) -> (-1 <= Int32.toInt dQ /\ Int32.toInt dQ <= 80) -> (0 <= Int32.toInt bZ /\ Int32.toInt bZ <= 0) -> (0 <= Int32.toInt aR /\ Int32.toInt aR <= 15) -> (0 <= Int32.toInt aE /\ Int32.toInt aE <= 7) -> (0 <= Int32.toInt bI /\ Int32.toInt bI <= 1) -> (0 <= Int32.toInt aW /\ Int32.toInt aW <= 63) -> (∀ k : Nat, 0 <= Int32.toInt (oJ k) /\ Int32.toInt (oJ k) <= 99) -> (Int32.toInt x6 < n96) -> K96 x1 x2 x3 x4 x5 x6 bL bY jD mLn oF rP dQ bZ aR aE bI aW sW oJ) (x1 x2 x3 x4 x5 x6 x7 x8 bL bY : Int32) (jD : Nat) (mLn oF rP dQ bZ aR aE bI aW : Int32) (sW oJ : Nat -> Int32) (aBK : 0 <= Int32.toInt x1 /\ Int32.toInt x1 <= 300) (aBN : 0 <= Int32.toInt x2 /\ Int32.toInt x2 <= 65535) (aCH : 0 <= Int32.toInt x3 /\ Int32.toInt x3 <= 65535) (aDO : 0 <= Int32.toInt x4 /\ Int32.toInt x4 <= 2147483647) (aF7 : 0 <= Int32.toInt x5 /\ Int32.toInt x5 <= 300) (h_x6 : 1 <= Int32.toInt x6 /\ Int32.toInt x6 <= 65535) (h_x7 : 0 <= Int32.toInt x7 /\ Int32.toInt x7 <= 511) (yJ : 0 <= Int32.toInt bL /\ Int32.toInt bL <= 16) (yG : 0 <= Int32.toInt bY /\ Int32.toInt bY <= 0) (yM : jD = 0 \/ jD = 1 \/ jD = 2) (zE : 0 <= Int32.toInt mLn /\ Int32.toInt mLn <= 80) (aAR : 0 <= Int32.toInt oF /\ Int32.toInt oF <= 80) (aA1 : 0 <= Int32.toInt rP /\ Int32.toInt rP <= 80) (aAA : -1 <= Int32.toInt dQ /\ Int32.toInt dQ <= 80) (zT : 0 <= Int32.toInt bZ /\ Int32.toInt bZ <= 0) (yL : 0 <= Int32.toInt aR /\ Int32.toInt aR <= 15) (xQ : 0 <= Int32.toInt aE /\ Int32.toInt aE <= 7) (yY : 0 <= Int32.toInt bI /\ Int32.toInt bI <= 1) (yK : 0 <= Int32.toInt aW /\ Int32.toInt aW <= 63) (zL : ∀ k : Nat, 0 <= Int32.toInt (oJ k) /\ Int32.toInt (oJ k) <= 99) (hn96 : Int32.toInt x6 <= n96) : ws_X10_dusk_171 post K96 bT bW qG m_x gR pW qR nG oO pJ qO qQ x1 x2 x3 x4 x5 x6 x7 x8 bL bY jD mLn oF rP dQ bZ aR aE bI aW sW oJ := by
  refine And.intro (fun c13 => ?_) (fun c13 => ?_)
  · skip
    have c13 := (aAd _ _).mp c13
    have f14 := aAT x4
    exact ts_X10_dusk_233 bT bW qG m_x gR pW qR nG oO pJ qO qQ xJ zQ xU xV aAW xK yR zM xT yF yD xZ zG zI hc0 hpost hK96 x1 x2 x3 x4 x5 x6 bL bY jD mLn oF rP dQ bZ aR aE bI aW sW oJ aBK aBN aCH aDO aF7 h_x6 yJ yG yM zE aAR aA1 aAA zT yL xQ yY yK zL hn96
  · skip
    have c13 := mt (aAd _ _).mpr c13
    have f16 := aAT x8
    have f17 := aAT x4
    refine And.intro (fun c15 => ?_) (fun c15 => ?_)
    · skip
      have c15 := (aAd _ _).mp c15
      exact ts_X10_dusk_233 bT bW qG m_x gR pW qR nG oO pJ qO qQ xJ zQ xU xV aAW xK yR zM xT yF yD xZ zG zI hc0 hpost hK96 x1 x2 x3 x4 x5 x6 bL bY jD mLn oF rP dQ bZ aR aE bI aW sW oJ aBK aBN aCH aDO aF7 h_x6 yJ yG yM zE aAR aA1 aAA zT yL xQ yY yK zL hn96
    · skip
      have c15 := mt (aAd _ _).mpr c15
      refine And.intro (fun c18 => ?_) (fun c18 => ?_)
      · skip
        have c18 := mt (zJ _ _).mpr c18
        exact ts_X10_dusk_201 bT bW qG m_x gR pW qR nG oO pJ qO qQ xJ zQ xU xV aAW xK yR zM xT yF yD xZ zG zI hc0 hpost hK96 x1 x2 x3 x4 x5 x6 x7 x8 bL bY jD mLn oF rP dQ bZ aR aE bI aW sW oJ aBK aBN aCH aDO aF7 h_x6 (by omega) (by omega) yJ yG yM zE aAR aA1 aAA zT yL xQ yY yK zL hn96
      · skip
        have c18 := (zJ _ _).mp c18
        refine And.intro (fun c19 => ?_) (fun c19 => ?_)
        · skip
          have c19 := (aAO _ _).mp c19
          exact ts_X10_dusk_201 bT bW qG m_x gR pW qR nG oO pJ qO qQ xJ zQ xU xV aAW xK yR zM xT yF yD xZ zG zI hc0 hpost hK96 x1 x2 x3 x4 x5 x6 x7 x8 bL bY jD mLn oF rP dQ bZ aR aE bI aW sW oJ aBK aBN aCH aDO aF7 h_x6 (by omega) (by omega) yJ yG yM zE aAR aA1 aAA zT yL xQ yY yK zL hn96
        · skip
          have c19 := mt (aAO _ _).mpr c19
          exact ts_X10_dusk_233 bT bW qG m_x gR pW qR nG oO pJ qO qQ xJ zQ xU xV aAW xK yR zM xT yF yD xZ zG zI hc0 hpost hK96 x1 x2 x3 x4 x5 x6 bL bY jD mLn oF rP dQ bZ aR aE bI aW sW oJ aBK aBN aCH aDO aF7 h_x6 yJ yG yM zE aAR aA1 aAA zT yL xQ yY yK zL hn96
set_option maxHeartbeats 8000000 in
set_option maxRecDepth 200000 in
theorem ts_X10_dusk_111 {post : Int32 -> Int32 -> Int32 -> Nat -> Int32 -> Int32 -> Int32 -> Int32 -> Int32 -> Int32 -> Int32 -> Int32 -> Int32 -> (Nat -> Int32) -> (Nat -> Int32) -> Prop} {SB : Int} {K96 : Int32 -> Int32 -> Int32 -> Int32 -> Int32 -> Int32 -> Int32 -> Int32 -> Nat -> Int32 -> Int32 -> Int32 -> Int32 -> Int32 -> Int32 -> Int32 -> Int32 -> Int32 -> (Nat -> Int32) -> (Nat -> Int32) -> Prop} {next : Int32 -> Int32 -> Int32 -> Int32 -> Int32 -> Int32 -> Int32 -> Int32 -> Int32 -> Int32 -> Int32 -> Nat -> Int32 -> Int32 -> Int32 -> Int32 -> Int32 -> Int32 -> Int32 -> Int32 -> Int32 -> (Nat -> Int32) -> (Nat -> Int32) -> Prop} {n111 n96 : Int} (bT bW : Int32) (qG m_x gR pW qR nG oO pJ qO qQ : Nat -> Int32) (xJ : 0 <= Int32.toInt bT /\ Int32.toInt bT <= 16) (zQ : 0 <= Int32.toInt bW /\ Int32.toInt bW <= 40) (xU : ∀ k : Nat, k = 17 -> -1 <= Int32.toInt (qG k) /\ Int32.toInt (qG k) <= SB) (xV : ∀ k : Nat, k = 19 -> 0 <= Int32.toInt (qG k) /\ Int32.toInt (qG k) <= 9) (aAW : ∀ k : Nat, 0 <= Int32.toInt (m_x k) /\ Int32.toInt (m_x k) <= 99) (xK : ∀ k : Nat, 0 <= Int32.toInt (gR k) /\ Int32.toInt (gR k) <= 99) (yR : ∀ k : Nat, 0 <= Int32.toInt (pW k) /\ Int32.toInt (pW k) <= 9) (zM : ∀ k : Nat, 0 <= Int32.toInt (qR k) /\ Int32.toInt (qR k) <= 9) (xT : ∀ k : Nat, 0 <= Int32.toInt (nG k) /\ Int32.toInt (nG k) <= 99) (yF : ∀ k : Nat, 0 <= Int32.toInt (oO k) /\ Int32.toInt (oO k) <= 99) (yD : ∀ k : Nat, k = 4 -> 1 <= Int32.toInt (pJ k) /\ Int32.toInt (pJ k) <= 30) (xZ : ∀ k : Nat, k = 3 -> 0 <= Int32.toInt (pJ k) /\ Int32.toInt (pJ k) <= 9) (zG : ∀ k : Nat, -128 <= Int32.toInt (qO k) /\ Int32.toInt (qO k) <= 127) (zI : ∀ k : Nat, -128 <= Int32.toInt (qQ k) /\ Int32.toInt (qQ k) <= 127) (hc0 : -1 <= SB /\ SB <= 7) (hpost : ∀ (r : Int32) (xM : Int32) (xG : Int32) (aAP : Nat) (zS : Int32) (aAz : Int32) (aAm : Int32) (zH : Int32) (aAM : Int32) (zP : Int32) (yO : Int32) (zZ : Int32) (zO : Int32) (aBX : Nat -> Int32) (aBR : Nat -> Int32), (-2 <= Int32.toInt r /\ Int32.toInt r <= 2147483647) -> (0 <= Int32.toInt xM /\ Int32.toInt xM <= 16) -> (0 <= Int32.toInt xG /\ Int32.toInt xG <= 0) -> (aAP = 0 \/ aAP = 1 \/ aAP = 2) -> (0 <= Int32.toInt zS /\ Int32.toInt zS <= 80) -> (0 <= Int32.toInt aAz /\ Int32.toInt aAz <= 80) -> (0 <= Int32.toInt aAm /\ Int32.toInt aAm <= 80) -> (-1 <= Int32.toInt zH /\ Int32.toInt zH <= 80) -> (0 <= Int32.toInt aAM /\ Int32.toInt aAM <= 0) -> (0 <= Int32.toInt zP /\ Int32.toInt zP <= 15) -> (0 <= Int32.toInt yO /\ Int32.toInt yO <= 7) -> (0 <= Int32.toInt zZ /\ Int32.toInt zZ <= 1) -> (0 <= Int32.toInt zO /\ Int32.toInt zO <= 63) -> (∀ k : Nat, 0 <= Int32.toInt (aBR k) /\ Int32.toInt (aBR k) <= 99) -> post r xM xG aAP zS aAz aAm zH aAM zP yO zZ zO aBX aBR) (hK96 : ∀ (x1 : Int32) (x2 : Int32) (x3 : Int32) (x4 : Int32) (x5 : Int32) (x6 : Int32) (bL : Int32) (bY : Int32) (jD : Nat) (mLn : Int32) (oF : Int32) (rP : Int32) (dQ : Int32) (bZ : Int32) (aR : Int32) (aE : Int32) (bI : Int32) (aW : Int32) (sW : Nat -> Int32) (oJ : Nat -> Int32), (0 <= Int32.toInt x1 /\ Int32.toInt x1 <= 300) -> (0 <= Int32.toInt x2 /\ Int32.toInt x2 <= 65535) -> (0 <= Int32.toInt x3 /\ Int32.toInt x3 <= 65535) -> (0 <= Int32.toInt x4 /\ Int32.toInt x4 <= 2147483647) -> (0 <= Int32.toInt x5 /\ Int32.toInt x5 <= 300) -> (0 <= Int32.toInt x6 /\ Int32.toInt x6 <= 65535) -> (0 <= Int32.toInt bL /\ Int32.toInt bL <= 16) -> (0 <= Int32.toInt bY /\ Int32.toInt bY <= 0) -> (jD = 0 \/ jD = 1 \/ jD = 2) -> (0 <= Int32.toInt mLn /\ Int32.toInt mLn <= 80) -> (0 <= Int32.toInt oF /\ Int32.toInt oF <= 80) -> (0 <= Int32.toInt rP /\ Int32.toInt rP <= 80) -> (-1 <= Int32.toInt dQ /\ Int32.toInt dQ <= 80) -> (0 <= Int32.toInt bZ /\ Int32.toInt bZ <= 0) -> (0 <= Int32.toInt aR /\ Int32.toInt aR <= 15) -> (0 <= Int32.toInt aE /\ Int32.toInt aE <= 7) -> (0 <= Int32.toInt bI /\ Int32.toInt bI <= 1) -> (0 <= Int32.toInt aW /\ Int32.toInt aW <= 63) -> (∀ k : Nat, 0 <= Int32.toInt (oJ k) /\ Int32.toInt (oJ k) <= 99) -> (Int32.toInt x6 < n96) -> K96 x1 x2 x3 x4 x5 x6 bL bY jD mLn oF rP dQ bZ aR aE bI aW sW oJ) (hKn : ∀ (x1 : Int32) (x2 : Int32) (x3 : Int32) (x4 : Int32) (x5 : Int32) (x6 : Int32) (x7 : Int32) (x8 : Int32) (x9 : Int32) (bL : Int32) (bY : Int32) (jD : Nat) (mLn : Int32) (oF : Int32) (rP : Int32) (dQ : Int32) (bZ : Int32) (aR : Int32) (aE : Int32) (bI : Int32) (aW : Int32) (sW : Nat -> Int32) (oJ : Nat -> Int32), (0 <= Int32.toInt x1 /\ Int32.toInt x1 <= 300) -> (0 <= Int32.toInt x2 /\ Int32.toInt x2 <= 65535) -> (0 <= Int32.toInt x3 /\ Int32.toInt x3 <= 65535) -> (0 <= Int32.toInt x4 /\ Int32.toInt x4 <= 2147483647) -> (0 <= Int32.toInt x5 /\ Int32.toInt x5 <= 300) -> (1 <= Int32.toInt x6 /\ Int32.toInt x6 <= 65535) -> (0 <= Int32.toInt x7 /\ Int32.toInt x7 <= 511) -> (0 <= Int32.toInt x9 /\ Int32.toInt x9 <= 65535) -> (0 <= Int32.toInt bL /\ Int32.toInt bL <= 16) -> (0 <= Int32.toInt bY /\ Int32.toInt bY <= 0) -> (jD = 0 \/ jD = 1 \/ jD = 2) -> (0 <= Int32.toInt mLn /\ Int32.toInt mLn <= 80) -> (0 <= Int32.toInt oF /\ Int32.toInt oF <= 80) -> (0 <= Int32.toInt rP /\ Int32.toInt rP <= 80) -> (-1 <= Int32.toInt dQ /\ Int32.toInt dQ <= 80) -> (0 <= Int32.toInt bZ /\ Int32.toInt bZ <= 0) -> (0 <= Int32.toInt aR /\ Int32.toInt aR <= 15) -> (0 <= Int32.toInt aE /\ Int32.toInt aE <= 7) -> (0 <= Int32.toInt bI /\ Int32.toInt bI <= 1) -> (0 <= Int32.toInt aW /\ Int32.toInt aW <= 63) -> (∀ k : Nat, 0 <= Int32.toInt (oJ k) /\ Int32.toInt (oJ k) <= 99) -> (Int32.toInt x6 <= n96) -> (Int32.toInt x9 < n111) -> next x1 x2 x3 x4 x5 x6 x7 x8 x9 bL bY jD mLn oF rP dQ bZ aR aE bI aW sW oJ) (x1 x2 x3 x4 x5 x6 x7 x8 x9 bL bY : Int32) (jD : Nat) (mLn oF rP dQ bZ aR aE bI aW : Int32) (sW oJ : Nat -> Int32) (aBK : 0 <= Int32.toInt x1 /\ Int32.toInt x1 <= 300) (aBN : 0 <= Int32.toInt x2 /\ Int32.toInt x2 <= 65535) (aCH : 0 <= Int32.toInt x3 /\ Int32.toInt x3 <= 65535) (aDO : 0 <= Int32.toInt x4 /\ Int32.toInt x4 <= 2147483647) (aF7 : 0 <= Int32.toInt x5 /\ Int32.toInt x5 <= 300) (h_x6 : 1 <= Int32.toInt x6 /\ Int32.toInt x6 <= 65535) (h_x7 : 0 <= Int32.toInt x7 /\ Int32.toInt x7 <= 511) (h_x9 : 0 <= Int32.toInt x9 /\ Int32.toInt x9 <= 65535) (yJ : 0 <= Int32.toInt bL /\ Int32.toInt bL <= 16) (yG : 0 <= Int32.toInt bY /\ Int32.toInt bY <= 0) (yM : jD = 0 \/ jD = 1 \/ jD = 2) (zE : 0 <= Int32.toInt mLn /\ Int32.toInt mLn <= 80) (aAR : 0 <= Int32.toInt oF /\ Int32.toInt oF <= 80) (aA1 : 0 <= Int32.toInt rP /\ Int32.toInt rP <= 80) (aAA : -1 <= Int32.toInt dQ /\ Int32.toInt dQ <= 80) (zT : 0 <= Int32.toInt bZ /\ Int32.toInt bZ <= 0) (yL : 0 <= Int32.toInt aR /\ Int32.toInt aR <= 15) (xQ : 0 <= Int32.toInt aE /\ Int32.toInt aE <= 7) (yY : 0 <= Int32.toInt bI /\ Int32.toInt bI <= 1) (yK : 0 <= Int32.toInt aW /\ Int32.toInt aW <= 63) (zL : ∀ k : Nat, 0 <= Int32.toInt (oJ k) /\ Int32.toInt (oJ k) <= 99) (hn96 : Int32.toInt x6 <= n96) (hn111 : Int32.toInt x9 <= n111) : ws_X10_dusk_111 post K96 next bT bW qG m_x gR pW qR nG oO pJ qO qQ x1 x2 x3 x4 x5 x6 x7 x8 x9 bL bY jD mLn oF rP dQ bZ aR aE bI aW sW oJ := by
  have l0 := aE0
  have l1 := aEc
  have l2 := li_16
  have l3 := li_2
  refine And.intro (fun c20 => ?_) (fun c20 => ?_)
  · skip
    have c20 := (zJ _ _).mp c20
    have f21 := aAT x4
    have f22 := aAT x8
    exact ts_X10_dusk_171 bT bW qG m_x gR pW qR nG oO pJ qO qQ xJ zQ xU xV aAW xK yR zM xT yF yD xZ zG zI hc0 hpost hK96 x1 x2 x3 x4 x5 x6 x7 x8 bL bY jD mLn oF rP dQ bZ aR aE bI aW sW oJ aBK aBN aCH aDO aF7 h_x6 h_x7 yJ yG yM zE aAR aA1 aAA zT yL xQ yY yK zL hn96
  · skip
    have c20 := mt (zJ _ _).mpr c20
    refine And.intro (fun c23 => ?_) (fun c23 => ?_)
    · skip
      have c23 := (aAd _ _).mp c23
      have f24 := aAT x4
      have f25 := aAT x8
      exact ts_X10_dusk_171 bT bW qG m_x gR pW qR nG oO pJ qO qQ xJ zQ xU xV aAW xK yR zM xT yF yD xZ zG zI hc0 hpost hK96 x1 x2 x3 x4 x5 x6 x7 x8 bL bY jD mLn oF rP dQ bZ aR aE bI aW sW oJ aBK aBN aCH aDO aF7 h_x6 h_x7 yJ yG yM zE aAR aA1 aAA zT yL xQ yY yK zL hn96
    · skip
      have c23 := mt (aAd _ _).mpr c23
      refine t_J6_numberOfTrailingZeros_0f7a4  (fun r26 ox27 => ?_)
      refine And.intro (aBZ (by omega)) ?_
      intro v28 ev28
      have f30 := zL r26.toNatClampNeg
      have f29 : Int32.toInt (x7 + (oJ r26.toNatClampNeg)) = Int32.toInt x7 + Int32.toInt (oJ r26.toNatClampNeg) := aAD _ _ (by omega)
      rw [<- ev28] at f29
      intro v31 ev31
      have hv31 := congrArg Int32.toInt ev31
      intro v33 ev33
      intro v34 ev34
      have f35 := aAQ v33 1 (by omega)
      have hv34 := congrArg Int32.toInt ev34
      refine And.intro (fun c36 => ?_) (fun c36 => ?_)
      · skip
        have c36 := mt (zJ _ _).mpr c36
        refine And.intro (fun _ => ?_) (fun h9 => absurd h9 (by decide))
        refine And.intro (aBZ (by omega)) ?_
        intro v37 ev37
        have hv37 := congrArg Int32.toInt ev37
        intro v39 ev39
        have f41 : Int32.toInt (x9 - 1) = Int32.toInt x9 - Int32.toInt (1 : Int32) := aCA _ _ (by omega)
        have f40 := aAQ x9 (x9 - 1) (by omega)
        have f42 := aBx x9 (x9 - 1) (by omega)
        have hv39 := congrArg Int32.toInt ev39
        have f43 := aAT x4
        have f44 := aAT v37
        exact hKn x1 x2 x3 x4 x5 x6 v28 v37 v39 bL bY jD mLn oF rP dQ bZ aR aE bI aW sW oJ aBK aBN aCH aDO aF7 h_x6 (by omega) (by omega) yJ yG yM zE aAR aA1 aAA zT yL xQ yY yK zL hn96 (by omega)
      · skip
        have c36 := (zJ _ _).mp c36
        refine And.intro (fun h9 => absurd h9 (by decide)) (fun _ => ?_)
        refine And.intro (aBZ (by omega)) ?_
        intro v45 ev45
        have f46 := yR r26.toNatClampNeg
        have hv45 := congrArg Int32.toInt ev45
        intro v47 ev47
        have f48 : Int32.toInt (v45 / 2) = Int32.toInt v45 / 2 := ti_div _ _ (by decide) (by omega) (by decide)
        rw [<- ev47] at f48
        intro v49 ev49
        have hv49 := congrArg Int32.toInt ev49
        intro v51 ev51
        have f53 : Int32.toInt (x9 - 1) = Int32.toInt x9 - Int32.toInt (1 : Int32) := aCA _ _ (by omega)
        have f52 := aAQ x9 (x9 - 1) (by omega)
        have f54 := aBx x9 (x9 - 1) (by omega)
        have hv51 := congrArg Int32.toInt ev51
        have f55 := aAT x4
        have f56 := aAT v49
        exact hKn x1 x2 x3 x4 x5 x6 v28 v49 v51 bL bY jD mLn oF rP dQ bZ aR aE bI aW sW oJ aBK aBN aCH aDO aF7 h_x6 (by omega) (by omega) yJ yG yM zE aAR aA1 aAA zT yL xQ yY yK zL hn96 (by omega)
set_option maxHeartbeats 8000000 in
set_option maxRecDepth 200000 in
theorem tb_X10_dusk_111 {post : Int32 -> Int32 -> Int32 -> Nat -> Int32 -> Int32 -> Int32 -> Int32 -> Int32 -> Int32 -> Int32 -> Int32 -> Int32 -> (Nat -> Int32) -> (Nat -> Int32) -> Prop} {SB : Int} {K96 : Int32 -> Int32 -> Int32 -> Int32 -> Int32 -> Int32 -> Int32 -> Int32 -> Nat -> Int32 -> Int32 -> Int32 -> Int32 -> Int32 -> Int32 -> Int32 -> Int32 -> Int32 -> (Nat -> Int32) -> (Nat -> Int32) -> Prop} {n96 : Int} (bT bW : Int32) (qG m_x gR pW qR nG oO pJ qO qQ : Nat -> Int32) (xJ : 0 <= Int32.toInt bT /\ Int32.toInt bT <= 16) (zQ : 0 <= Int32.toInt bW /\ Int32.toInt bW <= 40) (xU : ∀ k : Nat, k = 17 -> -1 <= Int32.toInt (qG k) /\ Int32.toInt (qG k) <= SB) (xV : ∀ k : Nat, k = 19 -> 0 <= Int32.toInt (qG k) /\ Int32.toInt (qG k) <= 9) (aAW : ∀ k : Nat, 0 <= Int32.toInt (m_x k) /\ Int32.toInt (m_x k) <= 99) (xK : ∀ k : Nat, 0 <= Int32.toInt (gR k) /\ Int32.toInt (gR k) <= 99) (yR : ∀ k : Nat, 0 <= Int32.toInt (pW k) /\ Int32.toInt (pW k) <= 9) (zM : ∀ k : Nat, 0 <= Int32.toInt (qR k) /\ Int32.toInt (qR k) <= 9) (xT : ∀ k : Nat, 0 <= Int32.toInt (nG k) /\ Int32.toInt (nG k) <= 99) (yF : ∀ k : Nat, 0 <= Int32.toInt (oO k) /\ Int32.toInt (oO k) <= 99) (yD : ∀ k : Nat, k = 4 -> 1 <= Int32.toInt (pJ k) /\ Int32.toInt (pJ k) <= 30) (xZ : ∀ k : Nat, k = 3 -> 0 <= Int32.toInt (pJ k) /\ Int32.toInt (pJ k) <= 9) (zG : ∀ k : Nat, -128 <= Int32.toInt (qO k) /\ Int32.toInt (qO k) <= 127) (zI : ∀ k : Nat, -128 <= Int32.toInt (qQ k) /\ Int32.toInt (qQ k) <= 127) (hc0 : -1 <= SB /\ SB <= 7) (hpost : ∀ (r : Int32) (xM : Int32) (xG : Int32) (aAP : Nat) (zS : Int32) (aAz : Int32) (aAm : Int32) (zH : Int32) (aAM : Int32) (zP : Int32) (yO : Int32) (zZ : Int32) (zO : Int32) (aBX : Nat -> Int32) (aBR : Nat -> Int32), (-2 <= Int32.toInt r /\ Int32.toInt r <= 2147483647) -> (0 <= Int32.toInt xM /\ Int32.toInt xM <= 16) -> (0 <= Int32.toInt xG /\ Int32.toInt xG <= 0) -> (aAP = 0 \/ aAP = 1 \/ aAP = 2) -> (0 <= Int32.toInt zS /\ Int32.toInt zS <= 80) -> (0 <= Int32.toInt aAz /\ Int32.toInt aAz <= 80) -> (0 <= Int32.toInt aAm /\ Int32.toInt aAm <= 80) -> (-1 <= Int32.toInt zH /\ Int32.toInt zH <= 80) -> (0 <= Int32.toInt aAM /\ Int32.toInt aAM <= 0) -> (0 <= Int32.toInt zP /\ Int32.toInt zP <= 15) -> (0 <= Int32.toInt yO /\ Int32.toInt yO <= 7) -> (0 <= Int32.toInt zZ /\ Int32.toInt zZ <= 1) -> (0 <= Int32.toInt zO /\ Int32.toInt zO <= 63) -> (∀ k : Nat, 0 <= Int32.toInt (aBR k) /\ Int32.toInt (aBR k) <= 99) -> post r xM xG aAP zS aAz aAm zH aAM zP yO zZ zO aBX aBR) (hK96 : ∀ (x1 : Int32) (x2 : Int32) (x3 : Int32) (x4 : Int32) (x5 : Int32) (x6 : Int32) (bL : Int32) (bY : Int32) (jD : Nat) (mLn : Int32) (oF : Int32) (rP : Int32) (dQ : Int32) (bZ : Int32) (aR : Int32) (aE : Int32) (bI : Int32) (aW : Int32) (sW : Nat -> Int32) (oJ : Nat -> Int32), (0 <= Int32.toInt x1 /\ Int32.toInt x1 <= 300) -> (0 <= Int32.toInt x2 /\ Int32.toInt x2 <= 65535) -> (0 <= Int32.toInt x3 /\ Int32.toInt x3 <= 65535) -> (0 <= Int32.toInt x4 /\ Int32.toInt x4 <= 2147483647) -> (0 <= Int32.toInt x5 /\ Int32.toInt x5 <= 300) -> (0 <= Int32.toInt x6 /\ Int32.toInt x6 <= 65535) -> (0 <= Int32.toInt bL /\ Int32.toInt bL <= 16) -> (0 <= Int32.toInt bY /\ Int32.toInt bY <= 0) -> (jD = 0 \/ jD = 1 \/ jD = 2) -> (0 <= Int32.toInt mLn /\ Int32.toInt mLn <= 80) -> (0 <= Int32.toInt oF /\ Int32.toInt oF <= 80) -> (0 <= Int32.toInt rP /\ Int32.toInt rP <= 80) -> (-1 <= Int32.toInt dQ /\ Int32.toInt dQ <= 80) -> (0 <= Int32.toInt bZ /\ Int32.toInt bZ <= 0) -> (0 <= Int32.toInt aR /\ Int32.toInt aR <= 15) -> (0 <= Int32.toInt aE /\ Int32.toInt aE <= 7) -> (0 <= Int32.toInt bI /\ Int32.toInt bI <= 1) -> (0 <= Int32.toInt aW /\ Int32.toInt aW <= 63) -> (∀ k : Nat, 0 <= Int32.toInt (oJ k) /\ Int32.toInt (oJ k) <= 99) -> (Int32.toInt x6 < n96) -> K96 x1 x2 x3 x4 x5 x6 bL bY jD mLn oF rP dQ bZ aR aE bI aW sW oJ) : ∀ (n : Nat) (x1 x2 x3 x4 x5 x6 x7 x8 x9 bL bY : Int32) (jD : Nat) (mLn oF rP dQ bZ aR aE bI aW : Int32) (sW oJ : Nat -> Int32), (0 <= Int32.toInt x1 /\ Int32.toInt x1 <= 300) -> (0 <= Int32.toInt x2 /\ Int32.toInt x2 <= 65535) -> (0 <= Int32.toInt x3 /\ Int32.toInt x3 <= 65535) -> (0 <= Int32.toInt x4 /\ Int32.toInt x4 <= 2147483647) -> (0 <= Int32.toInt x5 /\ Int32.toInt x5 <= 300) -> (1 <= Int32.toInt x6 /\ Int32.toInt x6 <= 65535) -> (0 <= Int32.toInt x7 /\ Int32.toInt x7 <= 511) -> (0 <= Int32.toInt x9 /\ Int32.toInt x9 <= 65535) -> (0 <= Int32.toInt bL /\ Int32.toInt bL <= 16) -> (0 <= Int32.toInt bY /\ Int32.toInt bY <= 0) -> (jD = 0 \/ jD = 1 \/ jD = 2) -> (0 <= Int32.toInt mLn /\ Int32.toInt mLn <= 80) -> (0 <= Int32.toInt oF /\ Int32.toInt oF <= 80) -> (0 <= Int32.toInt rP /\ Int32.toInt rP <= 80) -> (-1 <= Int32.toInt dQ /\ Int32.toInt dQ <= 80) -> (0 <= Int32.toInt bZ /\ Int32.toInt bZ <= 0) -> (0 <= Int32.toInt aR /\ Int32.toInt aR <= 15) -> (0 <= Int32.toInt aE /\ Int32.toInt aE <= 7) -> (0 <= Int32.toInt bI /\ Int32.toInt bI <= 1) -> (0 <= Int32.toInt aW /\ Int32.toInt aW <= 63) -> (∀ k : Nat, 0 <= Int32.toInt (oJ k) /\ Int32.toInt (oJ k) <= 99) -> (Int32.toInt x6 <= n96) -> (Int32.toInt x9 < (n : Int)) -> wb_X10_dusk_111 post K96 bT bW qG m_x gR pW qR nG oO pJ qO qQ n x1 x2 x3 x4 x5 x6 x7 x8 x9 bL bY jD mLn oF rP dQ bZ aR aE bI aW sW oJ := by
  intro n
  induction n with
  | zero =>
    intro x1 x2 x3 x4 x5 x6 x7 x8 x9 bL bY jD mLn oF rP dQ bZ aR aE bI aW sW oJ aBK aBN aCH aDO aF7 h_x6 h_x7 h_x9 yJ yG yM zE aAR aA1 aAA zT yL xQ yY yK zL hn96 hm
    exfalso; omega
  | succ n ih =>
    intro x1 x2 x3 x4 x5 x6 x7 x8 x9 bL bY jD mLn oF rP dQ bZ aR aE bI aW sW oJ aBK aBN aCH aDO aF7 h_x6 h_x7 h_x9 yJ yG yM zE aAR aA1 aAA zT yL xQ yY yK zL hn96 hm
    exact ts_X10_dusk_111 bT bW qG m_x gR pW qR nG oO pJ qO qQ xJ zQ xU xV aAW xK yR zM xT yF yD xZ zG zI hc0 hpost hK96 ih x1 x2 x3 x4 x5 x6 x7 x8 x9 bL bY jD mLn oF rP dQ bZ aR aE bI aW sW oJ aBK aBN aCH aDO aF7 h_x6 h_x7 h_x9 yJ yG yM zE aAR aA1 aAA zT yL xQ yY yK zL hn96 (by omega)
set_option maxHeartbeats 8000000 in
set_option maxRecDepth 200000 in
theorem ts_X10_dusk_96 {post : Int32 -> Int32 -> Int32 -> Nat -> Int32 -> Int32 -> Int32 -> Int32 -> Int32 -> Int32 -> Int32 -> Int32 -> Int32 -> (Nat -> Int32) -> (Nat -> Int32) -> Prop} {SB : Int} {next : Int32 -> Int32 -> Int32 -> Int32 -> Int32 -> Int32 -> Int32 -> Int32 -> Nat -> Int32 -> Int32 -> Int32 -> Int32 -> Int32 -> Int32 -> Int32 -> Int32 -> Int32 -> (Nat -> Int32) -> (Nat -> Int32) -> Prop} {n96 : Int} (bT bW : Int32) (qG m_x gR pW qR nG oO pJ qO qQ : Nat -> Int32) (xJ : 0 <= Int32.toInt bT /\ Int32.toInt bT <= 16) (zQ : 0 <= Int32.toInt bW /\ Int32.toInt bW <= 40) (xU : ∀ k : Nat, k = 17 -> -1 <= Int32.toInt (qG k) /\ Int32.toInt (qG k) <= SB) (xV : ∀ k : Nat, k = 19 -> 0 <= Int32.toInt (qG k) /\ Int32.toInt (qG k) <= 9) (aAW : ∀ k : Nat, 0 <= Int32.toInt (m_x k) /\ Int32.toInt (m_x k) <= 99) (xK : ∀ k : Nat, 0 <= Int32.toInt (gR k) /\ Int32.toInt (gR k) <= 99) (yR : ∀ k : Nat, 0 <= Int32.toInt (pW k) /\ Int32.toInt (pW k) <= 9) (zM : ∀ k : Nat, 0 <= Int32.toInt (qR k) /\ Int32.toInt (qR k) <= 9) (xT : ∀ k : Nat, 0 <= Int32.toInt (nG k) /\ Int32.toInt (nG k) <= 99) (yF : ∀ k : Nat, 0 <= Int32.toInt (oO k) /\ Int32.toInt (oO k) <= 99) (yD : ∀ k : Nat, k = 4 -> 1 <= Int32.toInt (pJ k) /\ Int32.toInt (pJ k) <= 30) (xZ : ∀ k : Nat, k = 3 -> 0 <= Int32.toInt (pJ k) /\ Int32.toInt (pJ k) <= 9) (zG : ∀ k : Nat, -128 <= Int32.toInt (qO k) /\ Int32.toInt (qO k) <= 127) (zI : ∀ k : Nat, -128 <= Int32.toInt (qQ k) /\ Int32.toInt (qQ k) <= 127) (hc0 : -1 <= SB /\ SB <= 7) (hpost : ∀ (r : Int32) (xM : Int32) (xG : Int32) (aAP : Nat) (zS : Int32) (aAz : Int32) (aAm : Int32) (zH : Int32) (aAM : Int32) (zP : Int32) (yO : Int32) (zZ : Int32) (zO : Int32) (aBX : Nat -> Int32) (aBR : Nat -> Int32), (-2 <= Int32.toInt r /\ Int32.toInt r <= 2147483647) -> (0 <= Int32.toInt xM /\ Int32.toInt xM <= 16) -> (0 <= Int32.toInt xG /\ Int32.toInt xG <= 0) -> (aAP = 0 \/ aAP = 1 \/ aAP = 2) -> (0 <= Int32.toInt zS /\ Int32.toInt zS <= 80) -> (0 <= Int32.toInt aAz /\ Int32.toInt aAz <= 80) -> (0 <= Int32.toInt aAm /\ Int32.toInt aAm <= 80) -> (-1 <= Int32.toInt zH /\ Int32.toInt zH <= 80) -> (0 <= Int32.toInt aAM /\ Int32.toInt aAM <= 0) -> (0 <= Int32.toInt zP /\ Int32.toInt zP <= 15) -> (0 <= Int32.toInt yO /\ Int32.toInt yO <= 7) -> (0 <= Int32.toInt zZ /\ Int32.toInt zZ <= 1) -> (0 <= Int32.toInt zO /\ Int32.toInt zO <= 63) -> (∀ k : Nat, 0 <= Int32.toInt (aBR k) /\ Int32.toInt (aBR k) <= 99) -> post r xM xG aAP zS aAz aAm zH aAM zP yO zZ zO aBX aBR) (hKn : ∀ (x1 : Int32) (x2 : Int32) (x3 : Int32) (x4 : Int32) (x5 : Int32) (x6 : Int32) (bL : Int32) (bY : Int32) (jD : Nat) (mLn : Int32) (oF : Int32) (rP : Int32) (dQ : Int32) (bZ : Int32) (aR : Int32) (aE : Int32) (bI : Int32) (aW : Int32) (sW : Nat -> Int32) (oJ : Nat -> Int32), (0 <= Int32.toInt x1 /\ Int32.toInt x1 <= 300) -> (0 <= Int32.toInt x2 /\ Int32.toInt x2 <= 65535) -> (0 <= Int32.toInt x3 /\ Int32.toInt x3 <= 65535) -> (0 <= Int32.toInt x4 /\ Int32.toInt x4 <= 2147483647) -> (0 <= Int32.toInt x5 /\ Int32.toInt x5 <= 300) -> (0 <= Int32.toInt x6 /\ Int32.toInt x6 <= 65535) -> (0 <= Int32.toInt bL /\ Int32.toInt bL <= 16) -> (0 <= Int32.toInt bY /\ Int32.toInt bY <= 0) -> (jD = 0 \/ jD = 1 \/ jD = 2) -> (0 <= Int32.toInt mLn /\ Int32.toInt mLn <= 80) -> (0 <= Int32.toInt oF /\ Int32.toInt oF <= 80) -> (0 <= Int32.toInt rP /\ Int32.toInt rP <= 80) -> (-1 <= Int32.toInt dQ /\ Int32.toInt dQ <= 80) -> (0 <= Int32.toInt bZ /\ Int32.toInt bZ <= 0) -> (0 <= Int32.toInt aR /\ Int32.toInt aR <= 15) -> (0 <= Int32.toInt aE /\ Int32.toInt aE <= 7) -> (0 <= Int32.toInt bI /\ Int32.toInt bI <= 1) -> (0 <= Int32.toInt aW /\ Int32.toInt aW <= 63) -> (∀ k : Nat, 0 <= Int32.toInt (oJ k) /\ Int32.toInt (oJ k) <= 99) -> (Int32.toInt x6 < n96) -> next x1 x2 x3 x4 x5 x6 bL bY jD mLn oF rP dQ bZ aR aE bI aW sW oJ) (x1 x2 x3 x4 x5 x6 bL bY : Int32) (jD : Nat) (mLn oF rP dQ bZ aR aE bI aW : Int32) (sW oJ : Nat -> Int32) (aBK : 0 <= Int32.toInt x1 /\ Int32.toInt x1 <= 300) (aBN : 0 <= Int32.toInt x2 /\ Int32.toInt x2 <= 65535) (aCH : 0 <= Int32.toInt x3 /\ Int32.toInt x3 <= 65535) (aDO : 0 <= Int32.toInt x4 /\ Int32.toInt x4 <= 2147483647) (aF7 : 0 <= Int32.toInt x5 /\ Int32.toInt x5 <= 300) (h_x6 : 0 <= Int32.toInt x6 /\ Int32.toInt x6 <= 65535) (yJ : 0 <= Int32.toInt bL /\ Int32.toInt bL <= 16) (yG : 0 <= Int32.toInt bY /\ Int32.toInt bY <= 0) (yM : jD = 0 \/ jD = 1 \/ jD = 2) (zE : 0 <= Int32.toInt mLn /\ Int32.toInt mLn <= 80) (aAR : 0 <= Int32.toInt oF /\ Int32.toInt oF <= 80) (aA1 : 0 <= Int32.toInt rP /\ Int32.toInt rP <= 80) (aAA : -1 <= Int32.toInt dQ /\ Int32.toInt dQ <= 80) (zT : 0 <= Int32.toInt bZ /\ Int32.toInt bZ <= 0) (yL : 0 <= Int32.toInt aR /\ Int32.toInt aR <= 15) (xQ : 0 <= Int32.toInt aE /\ Int32.toInt aE <= 7) (yY : 0 <= Int32.toInt bI /\ Int32.toInt bI <= 1) (yK : 0 <= Int32.toInt aW /\ Int32.toInt aW <= 63) (zL : ∀ k : Nat, 0 <= Int32.toInt (oJ k) /\ Int32.toInt (oJ k) <= 99) (hn96 : Int32.toInt x6 <= n96) : ws_X10_dusk_96 post next bT bW qG m_x gR pW qR nG oO pJ qO qQ x1 x2 x3 x4 x5 x6 bL bY jD mLn oF rP dQ bZ aR aE bI aW sW oJ := by
  have l0 := aE0
  have l1 := aEc
  refine And.intro (fun c57 => ?_) (fun c57 => ?_)
  · skip
    have c57 := (aAO _ _).mp c57
    refine And.intro (aBZ (by omega)) ?_
    intro v58 ev58
    have f59 : Int32.toInt (0 + 1) = Int32.toInt (0 : Int32) + Int32.toInt (1 : Int32) := aAD _ _ (by omega)
    rw [<- ev58] at f59
    refine And.intro (aBZ (by omega)) ?_
    intro v60 ev60
    have f61 : Int32.toInt (v58 + 1) = Int32.toInt v58 + Int32.toInt (1 : Int32) := aAD _ _ (by omega)
    rw [<- ev60] at f61
    have f62 := aAT x4
    exact hpost _ _ _ _ _ _ _ _ _ _ _ _ _ _ _ (by omega) (by omega) yG yM zE aAR aA1 aAA zT yL xQ yY yK zL
  · skip
    have c57 := mt (aAO _ _).mpr c57
    have f63 := aAT x4
    exact ⟨65537, tb_X10_dusk_111 bT bW qG m_x gR pW qR nG oO pJ qO qQ xJ zQ xU xV aAW xK yR zM xT yF yD xZ zG zI hc0 hpost hKn _ x1 x2 x3 x4 x5 x6 0 0 x6 bL bY jD mLn oF rP dQ bZ aR aE bI aW sW oJ aBK aBN aCH aDO aF7 (by omega) (by omega) h_x6 yJ yG yM zE aAR aA1 aAA zT yL xQ yY yK zL hn96 (by omega)⟩
set_option maxHeartbeats 8000000 in
set_option maxRecDepth 200000 in
theorem tb_X10_dusk_96 {post : Int32 -> Int32 -> Int32 -> Nat -> Int32 -> Int32 -> Int32 -> Int32 -> Int32 -> Int32 -> Int32 -> Int32 -> Int32 -> (Nat -> Int32) -> (Nat -> Int32) -> Prop} {SB : Int} (bT bW : Int32) (qG m_x gR pW qR nG oO pJ qO qQ : Nat -> Int32) (xJ : 0 <= Int32.toInt bT /\ Int32.toInt bT <= 16) (zQ : 0 <= Int32.toInt bW /\ Int32.toInt bW <= 40) (xU : ∀ k : Nat, k = 17 -> -1 <= Int32.toInt (qG k) /\ Int32.toInt (qG k) <= SB) (xV : ∀ k : Nat, k = 19 -> 0 <= Int32.toInt (qG k) /\ Int32.toInt (qG k) <= 9) (aAW : ∀ k : Nat, 0 <= Int32.toInt (m_x k) /\ Int32.toInt (m_x k) <= 99) (xK : ∀ k : Nat, 0 <= Int32.toInt (gR k) /\ Int32.toInt (gR k) <= 99) (yR : ∀ k : Nat, 0 <= Int32.toInt (pW k) /\ Int32.toInt (pW k) <= 9) (zM : ∀ k : Nat, 0 <= Int32.toInt (qR k) /\ Int32.toInt (qR k) <= 9) (xT : ∀ k : Nat, 0 <= Int32.toInt (nG k) /\ Int32.toInt (nG k) <= 99) (yF : ∀ k : Nat, 0 <= Int32.toInt (oO k) /\ Int32.toInt (oO k) <= 99) (yD : ∀ k : Nat, k = 4 -> 1 <= Int32.toInt (pJ k) /\ Int32.toInt (pJ k) <= 30) (xZ : ∀ k : Nat, k = 3 -> 0 <= Int32.toInt (pJ k) /\ Int32.toInt (pJ k) <= 9) (zG : ∀ k : Nat, -128 <= Int32.toInt (qO k) /\ Int32.toInt (qO k) <= 127) (zI : ∀ k : Nat, -128 <= Int32.toInt (qQ k) /\ Int32.toInt (qQ k) <= 127) (hc0 : -1 <= SB /\ SB <= 7) (hpost : ∀ (r : Int32) (xM : Int32) (xG : Int32) (aAP : Nat) (zS : Int32) (aAz : Int32) (aAm : Int32) (zH : Int32) (aAM : Int32) (zP : Int32) (yO : Int32) (zZ : Int32) (zO : Int32) (aBX : Nat -> Int32) (aBR : Nat -> Int32), (-2 <= Int32.toInt r /\ Int32.toInt r <= 2147483647) -> (0 <= Int32.toInt xM /\ Int32.toInt xM <= 16) -> (0 <= Int32.toInt xG /\ Int32.toInt xG <= 0) -> (aAP = 0 \/ aAP = 1 \/ aAP = 2) -> (0 <= Int32.toInt zS /\ Int32.toInt zS <= 80) -> (0 <= Int32.toInt aAz /\ Int32.toInt aAz <= 80) -> (0 <= Int32.toInt aAm /\ Int32.toInt aAm <= 80) -> (-1 <= Int32.toInt zH /\ Int32.toInt zH <= 80) -> (0 <= Int32.toInt aAM /\ Int32.toInt aAM <= 0) -> (0 <= Int32.toInt zP /\ Int32.toInt zP <= 15) -> (0 <= Int32.toInt yO /\ Int32.toInt yO <= 7) -> (0 <= Int32.toInt zZ /\ Int32.toInt zZ <= 1) -> (0 <= Int32.toInt zO /\ Int32.toInt zO <= 63) -> (∀ k : Nat, 0 <= Int32.toInt (aBR k) /\ Int32.toInt (aBR k) <= 99) -> post r xM xG aAP zS aAz aAm zH aAM zP yO zZ zO aBX aBR) : ∀ (n : Nat) (x1 x2 x3 x4 x5 x6 bL bY : Int32) (jD : Nat) (mLn oF rP dQ bZ aR aE bI aW : Int32) (sW oJ : Nat -> Int32), (0 <= Int32.toInt x1 /\ Int32.toInt x1 <= 300) -> (0 <= Int32.toInt x2 /\ Int32.toInt x2 <= 65535) -> (0 <= Int32.toInt x3 /\ Int32.toInt x3 <= 65535) -> (0 <= Int32.toInt x4 /\ Int32.toInt x4 <= 2147483647) -> (0 <= Int32.toInt x5 /\ Int32.toInt x5 <= 300) -> (0 <= Int32.toInt x6 /\ Int32.toInt x6 <= 65535) -> (0 <= Int32.toInt bL /\ Int32.toInt bL <= 16) -> (0 <= Int32.toInt bY /\ Int32.toInt bY <= 0) -> (jD = 0 \/ jD = 1 \/ jD = 2) -> (0 <= Int32.toInt mLn /\ Int32.toInt mLn <= 80) -> (0 <= Int32.toInt oF /\ Int32.toInt oF <= 80) -> (0 <= Int32.toInt rP /\ Int32.toInt rP <= 80) -> (-1 <= Int32.toInt dQ /\ Int32.toInt dQ <= 80) -> (0 <= Int32.toInt bZ /\ Int32.toInt bZ <= 0) -> (0 <= Int32.toInt aR /\ Int32.toInt aR <= 15) -> (0 <= Int32.toInt aE /\ Int32.toInt aE <= 7) -> (0 <= Int32.toInt bI /\ Int32.toInt bI <= 1) -> (0 <= Int32.toInt aW /\ Int32.toInt aW <= 63) -> (∀ k : Nat, 0 <= Int32.toInt (oJ k) /\ Int32.toInt (oJ k) <= 99) -> (Int32.toInt x6 < (n : Int)) -> wb_X10_dusk_96 post bT bW qG m_x gR pW qR nG oO pJ qO qQ n x1 x2 x3 x4 x5 x6 bL bY jD mLn oF rP dQ bZ aR aE bI aW sW oJ := by
  intro n
  induction n with
  | zero =>
    intro x1 x2 x3 x4 x5 x6 bL bY jD mLn oF rP dQ bZ aR aE bI aW sW oJ aBK aBN aCH aDO aF7 h_x6 yJ yG yM zE aAR aA1 aAA zT yL xQ yY yK zL hm
    exfalso; omega
  | succ n ih =>
    intro x1 x2 x3 x4 x5 x6 bL bY jD mLn oF rP dQ bZ aR aE bI aW sW oJ aBK aBN aCH aDO aF7 h_x6 yJ yG yM zE aAR aA1 aAA zT yL xQ yY yK zL hm
    exact ts_X10_dusk_96 bT bW qG m_x gR pW qR nG oO pJ qO qQ xJ zQ xU xV aAW xK yR zM xT yF yD xZ zG zI hc0 hpost ih x1 x2 x3 x4 x5 x6 bL bY jD mLn oF rP dQ bZ aR aE bI aW sW oJ aBK aBN aCH aDO aF7 h_x6 yJ yG yM zE aAR aA1 aAA zT yL xQ yY yK zL (by omega)
set_option maxHeartbeats 8000000 in
set_option maxRecDepth 200000 in
theorem ts_X10_dusk_78 {post : Int32 -> Int32 -> Int32 -> Nat -> Int32 -> Int32 -> Int32 -> Int32 -> Int32 -> Int32 -> Int32 -> Int32 -> Int32 -> (Nat -> Int32) -> (Nat -> Int32) -> Prop} {SB : Int} {K39 : Int32 -> Int32 -> Int32 -> Int32 -> Int32 -> Nat -> Int32 -> Int32 -> Int32 -> Int32 -> Int32 -> Int32 -> Int32 -> Int32 -> Int32 -> (Nat -> Int32) -> (Nat -> Int32) -> Prop} {n39 : Int} (bT bW : Int32) (qG m_x gR pW qR nG oO pJ qO qQ : Nat -> Int32) (xJ : 0 <= Int32.toInt bT /\ Int32.toInt bT <= 16) (zQ : 0 <= Int32.toInt bW /\ Int32.toInt bW <= 40) (xU : ∀ k : Nat, k = 17 -> -1 <= Int32.toInt (qG k) /\ Int32.toInt (qG k) <= SB) (xV : ∀ k : Nat, k = 19 -> 0 <= Int32.toInt (qG k) /\ Int32.toInt (qG k) <= 9) (aAW : ∀ k : Nat, 0 <= Int32.toInt (m_x k) /\ Int32.toInt (m_x k) <= 99) (xK : ∀ k : Nat, 0 <= Int32.toInt (gR k) /\ Int32.toInt (gR k) <= 99) (yR : ∀ k : Nat, 0 <= Int32.toInt (pW k) /\ Int32.toInt (pW k) <= 9) (zM : ∀ k : Nat, 0 <= Int32.toInt (qR k) /\ Int32.toInt (qR k) <= 9) (xT : ∀ k : Nat, 0 <= Int32.toInt (nG k) /\ Int32.toInt (nG k) <= 99) (yF : ∀ k : Nat, 0 <= Int32.toInt (oO k) /\ Int32.toInt (oO k) <= 99) (yD : ∀ k : Nat, k = 4 -> 1 <= Int32.toInt (pJ k) /\ Int32.toInt (pJ k) <= 30) (xZ : ∀ k : Nat, k = 3 -> 0 <= Int32.toInt (pJ k) /\ Int32.toInt (pJ k) <= 9) (zG : ∀ k : Nat, -128 <= Int32.toInt (qO k) /\ Int32.toInt (qO k) <= 127) (zI : ∀ k : Nat, -128 <= Int32.toInt (qQ k) /\ Int32.toInt (qQ k) <= 127) (hc0 : -1 <= SB /\ SB <= 7) (hpost : ∀ (r : Int32) (xM : Int32) (xG : Int32) (aAP : Nat) (zS : Int32) (aAz : Int32) (aAm : Int32) (zH : Int32) (aAM : Int32) (zP : Int32) (yO : Int32) (zZ : Int32) (zO : Int32) (aBX : Nat -> Int32) (aBR : Nat -> Int32), (-2 <= Int32.toInt r /\ Int32.toInt r <= 2147483647) -> (0 <= Int32.toInt xM /\ Int32.toInt xM <= 16) -> (0 <= Int32.toInt xG /\ Int32.toInt xG <= 0) -> (aAP = 0 \/ aAP = 1 \/ aAP = 2) -> (0 <= Int32.toInt zS /\ Int32.toInt zS <= 80) -> (0 <= Int32.toInt aAz /\ Int32.toInt aAz <= 80) -> (0 <= Int32.toInt aAm /\ Int32.toInt aAm <= 80) -> (-1 <= Int32.toInt zH /\ Int32.toInt zH <= 80) -> (0 <= Int32.toInt aAM /\ Int32.toInt aAM <= 0) -> (0 <= Int32.toInt zP /\ Int32.toInt zP <= 15) -> (0 <= Int32.toInt yO /\ Int32.toInt yO <= 7) -> (0 <= Int32.toInt zZ /\ Int32.toInt zZ <= 1) -> (0 <= Int32.toInt zO /\ Int32.toInt zO <= 63) -> (∀ k : Nat, 0 <= Int32.toInt (aBR k) /\ Int32.toInt (aBR k) <= 99) -> post r xM xG aAP zS aAz aAm zH aAM zP yO zZ zO aBX aBR) (hK39 : ∀ (x1 : Int32) (x2 : Int32) (x3 : Int32) (bL : Int32) (bY : Int32) (jD : Nat) (mLn : Int32) (oF : Int32) (rP : Int32) (dQ : Int32) (bZ : Int32) (aR : Int32) (aE : Int32) (bI : Int32) (aW : Int32) (sW : Nat -> Int32) (oJ : Nat -> Int32), (0 <= Int32.toInt x1 /\ Int32.toInt x1 <= 300) -> (0 <= Int32.toInt x2 /\ Int32.toInt x2 <= 65535) -> (0 <= Int32.toInt x3 /\ Int32.toInt x3 <= 16) -> (0 <= Int32.toInt bL /\ Int32.toInt bL <= 16) -> (0 <= Int32.toInt bY /\ Int32.toInt bY <= 0) -> (jD = 0 \/ jD = 1 \/ jD = 2) -> (0 <= Int32.toInt mLn /\ Int32.toInt mLn <= 80) -> (0 <= Int32.toInt oF /\ Int32.toInt oF <= 80) -> (0 <= Int32.toInt rP /\ Int32.toInt rP <= 80) -> (-1 <= Int32.toInt dQ /\ Int32.toInt dQ <= 80) -> (0 <= Int32.toInt bZ /\ Int32.toInt bZ <= 0) -> (0 <= Int32.toInt aR /\ Int32.toInt aR <= 15) -> (0 <= Int32.toInt aE /\ Int32.toInt aE <= 7) -> (0 <= Int32.toInt bI /\ Int32.toInt bI <= 1) -> (0 <= Int32.toInt aW /\ Int32.toInt aW <= 63) -> (∀ k : Nat, 0 <= Int32.toInt (oJ k) /\ Int32.toInt (oJ k) <= 99) -> (0 <= Int32.toInt (qG (17 : Int32).toNatClampNeg)) -> (16 - Int32.toInt x3 < n39) -> K39 x1 x2 x3 bL bY jD mLn oF rP dQ bZ aR aE bI aW sW oJ) (x1 x2 x3 k1 k2 bL bY : Int32) (jD : Nat) (mLn oF rP dQ bZ aR aE bI aW : Int32) (sW oJ : Nat -> Int32) (aBK : 0 <= Int32.toInt x1 /\ Int32.toInt x1 <= 300) (aBN : 0 <= Int32.toInt x2 /\ Int32.toInt x2 <= 65535) (aCH : 0 <= Int32.toInt x3 /\ Int32.toInt x3 <= 15) (h_k1 : 0 <= Int32.toInt k1 /\ Int32.toInt k1 <= 15) (h_k2 : 0 <= Int32.toInt k2 /\ Int32.toInt k2 <= 99) (yJ : 0 <= Int32.toInt bL /\ Int32.toInt bL <= 16) (yG : 0 <= Int32.toInt bY /\ Int32.toInt bY <= 0) (yM : jD = 0 \/ jD = 1 \/ jD = 2) (zE : 0 <= Int32.toInt mLn /\ Int32.toInt mLn <= 80) (aAR : 0 <= Int32.toInt oF /\ Int32.toInt oF <= 80) (aA1 : 0 <= Int32.toInt rP /\ Int32.toInt rP <= 80) (aAA : -1 <= Int32.toInt dQ /\ Int32.toInt dQ <= 80) (zT : 0 <= Int32.toInt bZ /\ Int32.toInt bZ <= 0) (yL : 0 <= Int32.toInt aR /\ Int32.toInt aR <= 15) (xQ : 0 <= Int32.toInt aE /\ Int32.toInt aE <= 7) (yY : 0 <= Int32.toInt bI /\ Int32.toInt bI <= 1) (yK : 0 <= Int32.toInt aW /\ Int32.toInt aW <= 63) (zL : ∀ k : Nat, 0 <= Int32.toInt (oJ k) /\ Int32.toInt (oJ k) <= 99) (hx0 : 0 <= Int32.toInt (qG (17 : Int32).toNatClampNeg)) (hn39 : 16 - Int32.toInt x3 <= n39) : ws_X10_dusk_78 post K39 bT bW qG m_x gR pW qR nG oO pJ qO qQ x1 x2 x3 k1 k2 bL bY jD mLn oF rP dQ bZ aR aE bI aW sW oJ := by
  have l0 := aEc
  refine And.intro (aBZ (by omega)) ?_
  have a64 : ∀ k : Nat, 0 <= Int32.toInt ((upd oJ k1.toNatClampNeg k2) k) /\ Int32.toInt ((upd oJ k1.toNatClampNeg k2) k) <= 99 := t_upd (fun k => by have q9 := zL k; omega) (by omega)
  intro v65 ev65
  have f66 : Int32.toInt (x3 + 1) = Int32.toInt x3 + Int32.toInt (1 : Int32) := aAD _ _ (by omega)
  rw [<- ev65] at f66
  exact hK39 x1 x2 v65 bL bY jD mLn oF rP dQ bZ aR aE bI aW sW (upd oJ k1.toNatClampNeg k2) aBK aBN (by omega) yJ yG yM zE aAR aA1 aAA zT yL xQ yY yK (fun k => by have q9 := a64 k; omega) hx0 (by omega)
set_option maxHeartbeats 8000000 in
set_option maxRecDepth 200000 in
theorem ts_X10_dusk_39 {post : Int32 -> Int32 -> Int32 -> Nat -> Int32 -> Int32 -> Int32 -> Int32 -> Int32 -> Int32 -> Int32 -> Int32 -> Int32 -> (Nat -> Int32) -> (Nat -> Int32) -> Prop} {SB : Int} {next : Int32 -> Int32 -> Int32 -> Int32 -> Int32 -> Nat -> Int32 -> Int32 -> Int32 -> Int32 -> Int32 -> Int32 -> Int32 -> Int32 -> Int32 -> (Nat -> Int32) -> (Nat -> Int32) -> Prop} {n39 : Int} (bT bW : Int32) (qG m_x gR pW qR nG oO pJ qO qQ : Nat -> Int32) (xJ : 0 <= Int32.toInt bT /\ Int32.toInt bT <= 16) (zQ : 0 <= Int32.toInt bW /\ Int32.toInt bW <= 40) (xU : ∀ k : Nat, k = 17 -> -1 <= Int32.toInt (qG k) /\ Int32.toInt (qG k) <= SB) (xV : ∀ k : Nat, k = 19 -> 0 <= Int32.toInt (qG k) /\ Int32.toInt (qG k) <= 9) (aAW : ∀ k : Nat, 0 <= Int32.toInt (m_x k) /\ Int32.toInt (m_x k) <= 99) (xK : ∀ k : Nat, 0 <= Int32.toInt (gR k) /\ Int32.toInt (gR k) <= 99) (yR : ∀ k : Nat, 0 <= Int32.toInt (pW k) /\ Int32.toInt (pW k) <= 9) (zM : ∀ k : Nat, 0 <= Int32.toInt (qR k) /\ Int32.toInt (qR k) <= 9) (xT : ∀ k : Nat, 0 <= Int32.toInt (nG k) /\ Int32.toInt (nG k) <= 99) (yF : ∀ k : Nat, 0 <= Int32.toInt (oO k) /\ Int32.toInt (oO k) <= 99) (yD : ∀ k : Nat, k = 4 -> 1 <= Int32.toInt (pJ k) /\ Int32.toInt (pJ k) <= 30) (xZ : ∀ k : Nat, k = 3 -> 0 <= Int32.toInt (pJ k) /\ Int32.toInt (pJ k) <= 9) (zG : ∀ k : Nat, -128 <= Int32.toInt (qO k) /\ Int32.toInt (qO k) <= 127) (zI : ∀ k : Nat, -128 <= Int32.toInt (qQ k) /\ Int32.toInt (qQ k) <= 127) (hc0 : -1 <= SB /\ SB <= 7) (hpost : ∀ (r : Int32) (xM : Int32) (xG : Int32) (aAP : Nat) (zS : Int32) (aAz : Int32) (aAm : Int32) (zH : Int32) (aAM : Int32) (zP : Int32) (yO : Int32) (zZ : Int32) (zO : Int32) (aBX : Nat -> Int32) (aBR : Nat -> Int32), (-2 <= Int32.toInt r /\ Int32.toInt r <= 2147483647) -> (0 <= Int32.toInt xM /\ Int32.toInt xM <= 16) -> (0 <= Int32.toInt xG /\ Int32.toInt xG <= 0) -> (aAP = 0 \/ aAP = 1 \/ aAP = 2) -> (0 <= Int32.toInt zS /\ Int32.toInt zS <= 80) -> (0 <= Int32.toInt aAz /\ Int32.toInt aAz <= 80) -> (0 <= Int32.toInt aAm /\ Int32.toInt aAm <= 80) -> (-1 <= Int32.toInt zH /\ Int32.toInt zH <= 80) -> (0 <= Int32.toInt aAM /\ Int32.toInt aAM <= 0) -> (0 <= Int32.toInt zP /\ Int32.toInt zP <= 15) -> (0 <= Int32.toInt yO /\ Int32.toInt yO <= 7) -> (0 <= Int32.toInt zZ /\ Int32.toInt zZ <= 1) -> (0 <= Int32.toInt zO /\ Int32.toInt zO <= 63) -> (∀ k : Nat, 0 <= Int32.toInt (aBR k) /\ Int32.toInt (aBR k) <= 99) -> post r xM xG aAP zS aAz aAm zH aAM zP yO zZ zO aBX aBR) (hKn : ∀ (x1 : Int32) (x2 : Int32) (x3 : Int32) (bL : Int32) (bY : Int32) (jD : Nat) (mLn : Int32) (oF : Int32) (rP : Int32) (dQ : Int32) (bZ : Int32) (aR : Int32) (aE : Int32) (bI : Int32) (aW : Int32) (sW : Nat -> Int32) (oJ : Nat -> Int32), (0 <= Int32.toInt x1 /\ Int32.toInt x1 <= 300) -> (0 <= Int32.toInt x2 /\ Int32.toInt x2 <= 65535) -> (0 <= Int32.toInt x3 /\ Int32.toInt x3 <= 16) -> (0 <= Int32.toInt bL /\ Int32.toInt bL <= 16) -> (0 <= Int32.toInt bY /\ Int32.toInt bY <= 0) -> (jD = 0 \/ jD = 1 \/ jD = 2) -> (0 <= Int32.toInt mLn /\ Int32.toInt mLn <= 80) -> (0 <= Int32.toInt oF /\ Int32.toInt oF <= 80) -> (0 <= Int32.toInt rP /\ Int32.toInt rP <= 80) -> (-1 <= Int32.toInt dQ /\ Int32.toInt dQ <= 80) -> (0 <= Int32.toInt bZ /\ Int32.toInt bZ <= 0) -> (0 <= Int32.toInt aR /\ Int32.toInt aR <= 15) -> (0 <= Int32.toInt aE /\ Int32.toInt aE <= 7) -> (0 <= Int32.toInt bI /\ Int32.toInt bI <= 1) -> (0 <= Int32.toInt aW /\ Int32.toInt aW <= 63) -> (∀ k : Nat, 0 <= Int32.toInt (oJ k) /\ Int32.toInt (oJ k) <= 99) -> (0 <= Int32.toInt (qG (17 : Int32).toNatClampNeg)) -> (16 - Int32.toInt x3 < n39) -> next x1 x2 x3 bL bY jD mLn oF rP dQ bZ aR aE bI aW sW oJ) (x1 x2 x3 bL bY : Int32) (jD : Nat) (mLn oF rP dQ bZ aR aE bI aW : Int32) (sW oJ : Nat -> Int32) (aBK : 0 <= Int32.toInt x1 /\ Int32.toInt x1 <= 300) (aBN : 0 <= Int32.toInt x2 /\ Int32.toInt x2 <= 65535) (aCH : 0 <= Int32.toInt x3 /\ Int32.toInt x3 <= 16) (yJ : 0 <= Int32.toInt bL /\ Int32.toInt bL <= 16) (yG : 0 <= Int32.toInt bY /\ Int32.toInt bY <= 0) (yM : jD = 0 \/ jD = 1 \/ jD = 2) (zE : 0 <= Int32.toInt mLn /\ Int32.toInt mLn <= 80) (aAR : 0 <= Int32.toInt oF /\ Int32.toInt oF <= 80) (aA1 : 0 <= Int32.toInt rP /\ Int32.toInt rP <= 80) (aAA : -1 <= Int32.toInt dQ /\ Int32.toInt dQ <= 80) (zT : 0 <= Int32.toInt bZ /\ Int32.toInt bZ <= 0) (yL : 0 <= Int32.toInt aR /\ Int32.toInt aR <= 15) (xQ : 0 <= Int32.toInt aE /\ Int32.toInt aE <= 7) (yY : 0 <= Int32.toInt bI /\ Int32.toInt bI <= 1) (yK : 0 <= Int32.toInt aW /\ Int32.toInt aW <= 63) (zL : ∀ k : Nat, 0 <= Int32.toInt (oJ k) /\ Int32.toInt (oJ k) <= 99) (hx0 : 0 <= Int32.toInt (qG (17 : Int32).toNatClampNeg)) (hn39 : 16 - Int32.toInt x3 <= n39) : ws_X10_dusk_39 post next bT bW qG m_x gR pW qR nG oO pJ qO qQ x1 x2 x3 bL bY jD mLn oF rP dQ bZ aR aE bI aW sW oJ := by
  have l0 := aE0
  have l1 := aEc
  have l2 := li_17
  refine And.intro (fun c67 => ?_) (fun c67 => ?_)
  · skip
    have c67 := (aAO _ _).mp c67
    exact ⟨65537, tb_X10_dusk_96 bT bW qG m_x gR pW qR nG oO pJ qO qQ xJ zQ xU xV aAW xK yR zM xT yF yD xZ zG zI hc0 hpost _ x1 x2 0 0 0 x2 bL bY jD mLn oF rP dQ bZ aR aE bI aW sW oJ aBK aBN (by omega) (by omega) (by omega) aBN yJ yG yM zE aAR aA1 aAA zT yL xQ yY yK zL (by omega)⟩
  · skip
    have c67 := mt (aAO _ _).mpr c67
    intro v68 ev68
    have f69 := aRJ x2 x3 (by omega)
    have hv68 := congrArg Int32.toInt ev68
    intro v70 ev70
    have f71 := aAQ v68 1 (by omega)
    have f72 := aBx v68 1 (by omega)
    have hv70 := congrArg Int32.toInt ev70
    refine And.intro (fun c73 => ?_) (fun c73 => ?_)
    · skip
      have c73 := mt (zJ _ _).mpr c73
      refine And.intro (fun _ => ?_) (fun h9 => absurd h9 (by decide))
      exact ts_X10_dusk_78 bT bW qG m_x gR pW qR nG oO pJ qO qQ xJ zQ xU xV aAW xK yR zM xT yF yD xZ zG zI hc0 hpost hKn x1 x2 x3 x3 0 bL bY jD mLn oF rP dQ bZ aR aE bI aW sW oJ aBK aBN (by omega) (by omega) (by omega) yJ yG yM zE aAR aA1 aAA zT yL xQ yY yK zL hx0 hn39
    · skip
      have c73 := (zJ _ _).mp c73
      refine And.intro (fun h9 => absurd h9 (by decide)) (fun _ => ?_)
      have q74 := xU (17 : Int32).toNatClampNeg (by have e9 : (17 : Int32).toNatClampNeg = (Int32.toInt (17 : Int32)).toNat := rfl; omega)
      intro v75 ev75
      have hv75 := congrArg Int32.toInt ev75
      refine t_X10_secondsOf (by omega) (by omega) (by omega) (by omega) yM zE aAR aA1 aAA zQ zT yL xQ yY yK aAW xK yR xT yF zG zI (fun r87 m_read_77 m_length_78 m_top_79 m_at_80 m_wrong_81 m_isAsked_82 m_askedFruit_83 m_askedStanding_84 m_askedHook_85 m_askedApron_86 h_r87 h_m_read_77 h_m_length_78 h_m_top_79 h_m_at_80 h_m_wrong_81 h_m_isAsked_82 h_m_askedFruit_83 h_m_askedStanding_84 h_m_askedHook_85 h_m_askedApron_86 => ?_)
      exact ts_X10_dusk_78 bT bW qG m_x gR pW qR nG oO pJ qO qQ xJ zQ xU xV aAW xK yR zM xT yF yD xZ zG zI hc0 hpost hKn x1 x2 x3 x3 r87 bL bY m_read_77 m_length_78 m_top_79 m_at_80 m_wrong_81 m_isAsked_82 m_askedFruit_83 m_askedStanding_84 m_askedHook_85 m_askedApron_86 sW oJ aBK aBN (by omega) (by omega) (by omega) yJ yG h_m_read_77 h_m_length_78 h_m_top_79 h_m_at_80 h_m_wrong_81 h_m_isAsked_82 h_m_askedFruit_83 h_m_askedStanding_84 h_m_askedHook_85 h_m_askedApron_86 zL hx0 hn39
set_option maxHeartbeats 8000000 in
set_option maxRecDepth 200000 in
theorem tb_X10_dusk_39 {post : Int32 -> Int32 -> Int32 -> Nat -> Int32 -> Int32 -> Int32 -> Int32 -> Int32 -> Int32 -> Int32 -> Int32 -> Int32 -> (Nat -> Int32) -> (Nat -> Int32) -> Prop} {SB : Int} (bT bW : Int32) (qG m_x gR pW qR nG oO pJ qO qQ : Nat -> Int32) (xJ : 0 <= Int32.toInt bT /\ Int32.toInt bT <= 16) (zQ : 0 <= Int32.toInt bW /\ Int32.toInt bW <= 40) (xU : ∀ k : Nat, k = 17 -> -1 <= Int32.toInt (qG k) /\ Int32.toInt (qG k) <= SB) (xV : ∀ k : Nat, k = 19 -> 0 <= Int32.toInt (qG k) /\ Int32.toInt (qG k) <= 9) (aAW : ∀ k : Nat, 0 <= Int32.toInt (m_x k) /\ Int32.toInt (m_x k) <= 99) (xK : ∀ k : Nat, 0 <= Int32.toInt (gR k) /\ Int32.toInt (gR k) <= 99) (yR : ∀ k : Nat, 0 <= Int32.toInt (pW k) /\ Int32.toInt (pW k) <= 9) (zM : ∀ k : Nat, 0 <= Int32.toInt (qR k) /\ Int32.toInt (qR k) <= 9) (xT : ∀ k : Nat, 0 <= Int32.toInt (nG k) /\ Int32.toInt (nG k) <= 99) (yF : ∀ k : Nat, 0 <= Int32.toInt (oO k) /\ Int32.toInt (oO k) <= 99) (yD : ∀ k : Nat, k = 4 -> 1 <= Int32.toInt (pJ k) /\ Int32.toInt (pJ k) <= 30) (xZ : ∀ k : Nat, k = 3 -> 0 <= Int32.toInt (pJ k) /\ Int32.toInt (pJ k) <= 9) (zG : ∀ k : Nat, -128 <= Int32.toInt (qO k) /\ Int32.toInt (qO k) <= 127) (zI : ∀ k : Nat, -128 <= Int32.toInt (qQ k) /\ Int32.toInt (qQ k) <= 127) (hc0 : -1 <= SB /\ SB <= 7) (hpost : ∀ (r : Int32) (xM : Int32) (xG : Int32) (aAP : Nat) (zS : Int32) (aAz : Int32) (aAm : Int32) (zH : Int32) (aAM : Int32) (zP : Int32) (yO : Int32) (zZ : Int32) (zO : Int32) (aBX : Nat -> Int32) (aBR : Nat -> Int32), (-2 <= Int32.toInt r /\ Int32.toInt r <= 2147483647) -> (0 <= Int32.toInt xM /\ Int32.toInt xM <= 16) -> (0 <= Int32.toInt xG /\ Int32.toInt xG <= 0) -> (aAP = 0 \/ aAP = 1 \/ aAP = 2) -> (0 <= Int32.toInt zS /\ Int32.toInt zS <= 80) -> (0 <= Int32.toInt aAz /\ Int32.toInt aAz <= 80) -> (0 <= Int32.toInt aAm /\ Int32.toInt aAm <= 80) -> (-1 <= Int32.toInt zH /\ Int32.toInt zH <= 80) -> (0 <= Int32.toInt aAM /\ Int32.toInt aAM <= 0) -> (0 <= Int32.toInt zP /\ Int32.toInt zP <= 15) -> (0 <= Int32.toInt yO /\ Int32.toInt yO <= 7) -> (0 <= Int32.toInt zZ /\ Int32.toInt zZ <= 1) -> (0 <= Int32.toInt zO /\ Int32.toInt zO <= 63) -> (∀ k : Nat, 0 <= Int32.toInt (aBR k) /\ Int32.toInt (aBR k) <= 99) -> post r xM xG aAP zS aAz aAm zH aAM zP yO zZ zO aBX aBR) : ∀ (n : Nat) (x1 x2 x3 bL bY : Int32) (jD : Nat) (mLn oF rP dQ bZ aR aE bI aW : Int32) (sW oJ : Nat -> Int32), (0 <= Int32.toInt x1 /\ Int32.toInt x1 <= 300) -> (0 <= Int32.toInt x2 /\ Int32.toInt x2 <= 65535) -> (0 <= Int32.toInt x3 /\ Int32.toInt x3 <= 16) -> (0 <= Int32.toInt bL /\ Int32.toInt bL <= 16) -> (0 <= Int32.toInt bY /\ Int32.toInt bY <= 0) -> (jD = 0 \/ jD = 1 \/ jD = 2) -> (0 <= Int32.toInt mLn /\ Int32.toInt mLn <= 80) -> (0 <= Int32.toInt oF /\ Int32.toInt oF <= 80) -> (0 <= Int32.toInt rP /\ Int32.toInt rP <= 80) -> (-1 <= Int32.toInt dQ /\ Int32.toInt dQ <= 80) -> (0 <= Int32.toInt bZ /\ Int32.toInt bZ <= 0) -> (0 <= Int32.toInt aR /\ Int32.toInt aR <= 15) -> (0 <= Int32.toInt aE /\ Int32.toInt aE <= 7) -> (0 <= Int32.toInt bI /\ Int32.toInt bI <= 1) -> (0 <= Int32.toInt aW /\ Int32.toInt aW <= 63) -> (∀ k : Nat, 0 <= Int32.toInt (oJ k) /\ Int32.toInt (oJ k) <= 99) -> (0 <= Int32.toInt (qG (17 : Int32).toNatClampNeg)) -> (16 - Int32.toInt x3 < (n : Int)) -> wb_X10_dusk_39 post bT bW qG m_x gR pW qR nG oO pJ qO qQ n x1 x2 x3 bL bY jD mLn oF rP dQ bZ aR aE bI aW sW oJ := by
  intro n
  induction n with
  | zero =>
    intro x1 x2 x3 bL bY jD mLn oF rP dQ bZ aR aE bI aW sW oJ aBK aBN aCH yJ yG yM zE aAR aA1 aAA zT yL xQ yY yK zL hx0 hm
    exfalso; omega
  | succ n ih =>
    intro x1 x2 x3 bL bY jD mLn oF rP dQ bZ aR aE bI aW sW oJ aBK aBN aCH yJ yG yM zE aAR aA1 aAA zT yL xQ yY yK zL hx0 hm
    exact ts_X10_dusk_39 bT bW qG m_x gR pW qR nG oO pJ qO qQ xJ zQ xU xV aAW xK yR zM xT yF yD xZ zG zI hc0 hpost ih x1 x2 x3 bL bY jD mLn oF rP dQ bZ aR aE bI aW sW oJ aBK aBN aCH yJ yG yM zE aAR aA1 aAA zT yL xQ yY yK zL hx0 (by omega)
set_option maxHeartbeats 8000000 in
set_option maxRecDepth 200000 in
theorem t_X10_dusk {post : Int32 -> Int32 -> Int32 -> Nat -> Int32 -> Int32 -> Int32 -> Int32 -> Int32 -> Int32 -> Int32 -> Int32 -> Int32 -> (Nat -> Int32) -> (Nat -> Int32) -> Prop} {SB : Int} {p0 bT bL bY : Int32} {jD : Nat} {mLn oF rP dQ bW bZ aR aE bI aW : Int32} {qG m_x gR pW qR nG oO pJ qO sW qQ oJ : Nat -> Int32} (xJ : 0 <= Int32.toInt bT /\ Int32.toInt bT <= 16) (yJ : 0 <= Int32.toInt bL /\ Int32.toInt bL <= 16) (yG : 0 <= Int32.toInt bY /\ Int32.toInt bY <= 1) (yM : jD = 0 \/ jD = 1 \/ jD = 2) (zE : 0 <= Int32.toInt mLn /\ Int32.toInt mLn <= 80) (aAR : 0 <= Int32.toInt oF /\ Int32.toInt oF <= 80) (aA1 : 0 <= Int32.toInt rP /\ Int32.toInt rP <= 80) (aAA : -1 <= Int32.toInt dQ /\ Int32.toInt dQ <= 80) (zQ : 0 <= Int32.toInt bW /\ Int32.toInt bW <= 40) (zT : 0 <= Int32.toInt bZ /\ Int32.toInt bZ <= 0) (yL : 0 <= Int32.toInt aR /\ Int32.toInt aR <= 15) (xQ : 0 <= Int32.toInt aE /\ Int32.toInt aE <= 7) (yY : 0 <= Int32.toInt bI /\ Int32.toInt bI <= 1) (yK : 0 <= Int32.toInt aW /\ Int32.toInt aW <= 63) (xU : ∀ k : Nat, k = 17 -> -1 <= Int32.toInt (qG k) /\ Int32.toInt (qG k) <= SB) (xV : ∀ k : Nat, k = 19 -> 0 <= Int32.toInt (qG k) /\ Int32.toInt (qG k) <= 9) (aAW : ∀ k : Nat, 0 <= Int32.toInt (m_x k) /\ Int32.toInt (m_x k) <= 99) (xK : ∀ k : Nat, 0 <= Int32.toInt (gR k) /\ Int32.toInt (gR k) <= 99) (yR : ∀ k : Nat, 0 <= Int32.toInt (pW k) /\ Int32.toInt (pW k) <= 9) (zM : ∀ k : Nat, 0 <= Int32.toInt (qR k) /\ Int32.toInt (qR k) <= 9) (xT : ∀ k : Nat, 0 <= Int32.toInt (nG k) /\ Int32.toInt (nG k) <= 99) (yF : ∀ k : Nat, 0 <= Int32.toInt (oO k) /\ Int32.toInt (oO k) <= 99) (yD : ∀ k : Nat, k = 4 -> 1 <= Int32.toInt (pJ k) /\ Int32.toInt (pJ k) <= 30) (xZ : ∀ k : Nat, k = 3 -> 0 <= Int32.toInt (pJ k) /\ Int32.toInt (pJ k) <= 9) (zG : ∀ k : Nat, -128 <= Int32.toInt (qO k) /\ Int32.toInt (qO k) <= 127) (zI : ∀ k : Nat, -128 <= Int32.toInt (qQ k) /\ Int32.toInt (qQ k) <= 127) (zL : ∀ k : Nat, 0 <= Int32.toInt (oJ k) /\ Int32.toInt (oJ k) <= 99) (hc0 : -1 <= SB /\ SB <= 7) (hpost : ∀ (r : Int32) (xM : Int32) (xG : Int32) (aAP : Nat) (zS : Int32) (aAz : Int32) (aAm : Int32) (zH : Int32) (aAM : Int32) (zP : Int32) (yO : Int32) (zZ : Int32) (zO : Int32) (aBX : Nat -> Int32) (aBR : Nat -> Int32), (-2 <= Int32.toInt r /\ Int32.toInt r <= 2147483647) -> (0 <= Int32.toInt xM /\ Int32.toInt xM <= 16) -> (0 <= Int32.toInt xG /\ Int32.toInt xG <= 0) -> (aAP = 0 \/ aAP = 1 \/ aAP = 2) -> (0 <= Int32.toInt zS /\ Int32.toInt zS <= 80) -> (0 <= Int32.toInt aAz /\ Int32.toInt aAz <= 80) -> (0 <= Int32.toInt aAm /\ Int32.toInt aAm <= 80) -> (-1 <= Int32.toInt zH /\ Int32.toInt zH <= 80) -> (0 <= Int32.toInt aAM /\ Int32.toInt aAM <= 0) -> (0 <= Int32.toInt zP /\ Int32.toInt zP <= 15) -> (0 <= Int32.toInt yO /\ Int32.toInt yO <= 7) -> (0 <= Int32.toInt zZ /\ Int32.toInt zZ <= 1) -> (0 <= Int32.toInt zO /\ Int32.toInt zO <= 63) -> (∀ k : Nat, 0 <= Int32.toInt (aBR k) /\ Int32.toInt (aBR k) <= 99) -> post r xM xG aAP zS aAz aAm zH aAM zP yO zZ zO aBX aBR) : wp_X10_dusk post p0 bT bL bY jD mLn oF rP dQ bW bZ aR aE bI aW qG m_x gR pW qR nG oO pJ qO sW qQ oJ := by
  have l0 := aI2
  have l1 := li_m2
  have l2 := aE0
  have l3 := li_17
  have l4 := li_18
  have l5 := li_19
  have l6 := li_300
  have f89 := aAT p0
  refine And.intro (fun c88 => ?_) (fun c88 => ?_)
  · skip
    have c88 := (aAd _ _).mp c88
    refine And.intro (fun h9 => absurd h9 (by decide)) (fun _ => ?_)
    exact hpost _ _ _ _ _ _ _ _ _ _ _ _ _ _ _ (by omega) yJ (by omega) yM zE aAR aA1 aAA zT yL xQ yY yK zL
  · skip
    have c88 := mt (aAd _ _).mpr c88
    refine And.intro (fun c90 => ?_) (fun c90 => ?_)
    · skip
      have c90 := (aAd _ _).mp c90
      refine And.intro (fun h9 => absurd h9 (by decide)) (fun _ => ?_)
      exact hpost _ _ _ _ _ _ _ _ _ _ _ _ _ _ _ (by omega) yJ (by omega) yM zE aAR aA1 aAA zT yL xQ yY yK zL
    · skip
      have c90 := mt (aAd _ _).mpr c90
      refine And.intro (fun _ => ?_) (fun h9 => absurd h9 (by decide))
      have q91 := xU (17 : Int32).toNatClampNeg (by have e9 : (17 : Int32).toNatClampNeg = (Int32.toInt (17 : Int32)).toNat := rfl; omega)
      intro v92 ev92
      have hv92 := congrArg Int32.toInt ev92
      refine And.intro (fun c94 => ?_) (fun c94 => ?_)
      · skip
        have c94 := mt (zJ _ _).mpr c94
        refine aKO (by omega) xJ xU xV (by omega) (fun r95 h_r95 ox96 => ?_)
        have q97 := xV (19 : Int32).toNatClampNeg (by have e9 : (19 : Int32).toNatClampNeg = (Int32.toInt (19 : Int32)).toNat := rfl; omega)
        intro v98 ev98
        have hv98 := congrArg Int32.toInt ev98
        refine aXh (by omega) xJ zM (fun r100 h_r100 ox101 => ?_)
        intro v102 ev102
        have f103 := aAQ r95 r100 (by omega)
        have f104 := aBx r95 r100 (by omega)
        have hv102 := congrArg Int32.toInt ev102
        have q105 := xU (17 : Int32).toNatClampNeg (by have e9 : (17 : Int32).toNatClampNeg = (Int32.toInt (17 : Int32)).toNat := rfl; omega)
        intro v106 ev106
        have hv106 := congrArg Int32.toInt ev106
        intro v107 ev107
        have hv107 := congrArg Int32.toInt ev107
        refine aX7 (by omega) (by omega) xJ aAW xK xT yF yD xZ (fun r109 h_r109 => ?_)
        have f110 := aAQ v102 r109 (by omega)
        have f111 := aBx v102 r109 (by omega)
        exact ⟨18, tb_X10_dusk_39 bT bW qG m_x gR pW qR nG oO pJ qO qQ xJ zQ xU xV aAW xK yR zM xT yF yD xZ zG zI hc0 hpost _ p0 (v102 &&& r109) 0 bL 0 jD mLn oF rP dQ bZ aR aE bI aW sW oJ (by omega) (by omega) (by omega) yJ (by omega) yM zE aAR aA1 aAA zT yL xQ yY yK zL (by omega) (by omega)⟩
      · skip
        have c94 := (zJ _ _).mp c94
        exact hpost _ _ _ _ _ _ _ _ _ _ _ _ _ _ _ (by omega) yJ (by omega) yM zE aAR aA1 aAA zT yL xQ yY yK zL
