set_option maxHeartbeats 8000000 in
set_option maxRecDepth 200000 in
theorem ts_X10_layMoves_113 {post : (Nat → Int32) → Prop} {K2 : Int32 → (Nat → Int32) → Prop} {K12 : Int32 → Int32 → (Nat → Int32) → Prop} {K58 : Int32 → Int32 → Int32 → Int32 → (Nat → Int32) → Prop} {n2 n12 n58 : Int} (aG : Int32) (nG pJ : Nat → Int32) (vZ : 0 ≤ Int32.toInt aG ∧ Int32.toInt aG ≤ 8) (xT : ∀ k : Nat, 0 ≤ Int32.toInt (nG k) ∧ Int32.toInt (nG k) ≤ 99) (yD : ∀ k : Nat, k = 4 → 1 ≤ Int32.toInt (pJ k) ∧ Int32.toInt (pJ k) ≤ 30) (xZ : ∀ k : Nat, k = 3 → 0 ≤ Int32.toInt (pJ k) ∧ Int32.toInt (pJ k) ≤ 9) (hpost : ∀ (aCX : Nat → Int32), (∀ k : Nat, 0 ≤ Int32.toInt (aCX k) ∧ Int32.toInt (aCX k) ≤ 1000000) → (MVT aCX nG pJ aG) → post aCX) (hK2 : ∀ (x1 : Int32) (uE : Nat → Int32), (0 ≤ Int32.toInt x1 ∧ Int32.toInt x1 ≤ 256) → (∀ k : Nat, 0 ≤ Int32.toInt (uE k) ∧ Int32.toInt (uE k) ≤ 1000000) → (MVa uE nG pJ aG x1) → (256 - Int32.toInt x1 < n2) → K2 x1 uE) (hK12 : ∀ (x1 : Int32) (x2 : Int32) (uE : Nat → Int32), (0 ≤ Int32.toInt x1 ∧ Int32.toInt x1 ≤ 255) → (0 ≤ Int32.toInt x2 ∧ Int32.toInt x2 ≤ 9) → (∀ k : Nat, 0 ≤ Int32.toInt (uE k) ∧ Int32.toInt (uE k) ≤ 1000000) → (MVb uE nG pJ aG x1 x2) → (LB x1 aG) → (256 - Int32.toInt x1 ≤ n2) → (9 - Int32.toInt x2 < n12) → K12 x1 x2 uE) (hK58 : ∀ (x1 : Int32) (x2 : Int32) (x3 : Int32) (x4 : Int32) (uE : Nat → Int32), (0 ≤ Int32.toInt x1 ∧ Int32.toInt x1 ≤ 255) → (0 ≤ Int32.toInt x2 ∧ Int32.toInt x2 ≤ 8) → (0 ≤ Int32.toInt x3 ∧ Int32.toInt x3 ≤ 1000000) → (0 ≤ Int32.toInt x4 ∧ Int32.toInt x4 ≤ 8) → (∀ k : Nat, 0 ≤ Int32.toInt (uE k) ∧ Int32.toInt (uE k) ≤ 1000000) → (MVb uE nG pJ aG x1 x2) → (LB x1 aG) → (VAL aG x2 x1) → (PB uE nG pJ x1 x2 x4 x3) → (Int32.toInt x4 ≤ Int32.toInt aG) → (256 - Int32.toInt x1 ≤ n2) → (9 - Int32.toInt x2 ≤ n12) → (8 - Int32.toInt x4 < n58) → K58 x1 x2 x3 x4 uE) (x1 x2 x3 x4 : Int32) (uE : Nat → Int32) (aBK : 0 ≤ Int32.toInt x1 ∧ Int32.toInt x1 ≤ 255) (aBN : 0 ≤ Int32.toInt x2 ∧ Int32.toInt x2 ≤ 8) (aCH : 0 ≤ Int32.toInt x3 ∧ Int32.toInt x3 ≤ 1000000) (aDO : 0 ≤ Int32.toInt x4 ∧ Int32.toInt x4 ≤ 7) (aAw : ∀ k : Nat, 0 ≤ Int32.toInt (uE k) ∧ Int32.toInt (uE k) ≤ 1000000) (hx0 : MVb uE nG pJ aG x1 x2) (hx1 : LB x1 aG) (hx2 : VAL aG x2 x1) (hx3 : PB1 uE nG pJ x1 x2 x4 x3) (hx4 : Int32.toInt x4 < Int32.toInt aG) (hn2 : 256 - Int32.toInt x1 ≤ n2) (hn12 : 9 - Int32.toInt x2 ≤ n12) (hn58 : 8 - Int32.toInt x4 ≤ n58) : ws_X10_layMoves_113 post K2 K12 K58 aG nG pJ x1 x2 x3 x4 uE := by
  have l0 := aEc
  intro v1 ev1
  have f2 : Int32.toInt (x4 + 1) = Int32.toInt x4 + Int32.toInt (1 : Int32) := aAD _ _ (by omega)
  rw [← ev1] at f2
  exact hK58 x1 x2 x3 v1 uE aBK aBN aCH (by omega) aAw (by first | assumption | exact MVb_0 (by assumption) | exact MVb_s (by assumption) (by omega)) (by first | assumption | exact LB_of (by assumption) (by omega) (by omega) (by omega)) (by first | assumption | exact VAL_8 (by omega) | exact VAL_b (by omega) (by omega) (by assumption) (by assumption) (by assumption)) (by first | assumption | exact PB_init (by omega) | exact PB_s (by assumption) (by omega)) (by omega) hn2 hn12 (by omega)
set_option maxHeartbeats 8000000 in
set_option maxRecDepth 200000 in
theorem ts_X10_layMoves_89 {post : (Nat → Int32) → Prop} {K2 : Int32 → (Nat → Int32) → Prop} {K12 : Int32 → Int32 → (Nat → Int32) → Prop} {K58 : Int32 → Int32 → Int32 → Int32 → (Nat → Int32) → Prop} {n2 n12 n58 : Int} (aG : Int32) (nG pJ : Nat → Int32) (vZ : 0 ≤ Int32.toInt aG ∧ Int32.toInt aG ≤ 8) (xT : ∀ k : Nat, 0 ≤ Int32.toInt (nG k) ∧ Int32.toInt (nG k) ≤ 99) (yD : ∀ k : Nat, k = 4 → 1 ≤ Int32.toInt (pJ k) ∧ Int32.toInt (pJ k) ≤ 30) (xZ : ∀ k : Nat, k = 3 → 0 ≤ Int32.toInt (pJ k) ∧ Int32.toInt (pJ k) ≤ 9) (hpost : ∀ (aCX : Nat → Int32), (∀ k : Nat, 0 ≤ Int32.toInt (aCX k) ∧ Int32.toInt (aCX k) ≤ 1000000) → (MVT aCX nG pJ aG) → post aCX) (hK2 : ∀ (x1 : Int32) (uE : Nat → Int32), (0 ≤ Int32.toInt x1 ∧ Int32.toInt x1 ≤ 256) → (∀ k : Nat, 0 ≤ Int32.toInt (uE k) ∧ Int32.toInt (uE k) ≤ 1000000) → (MVa uE nG pJ aG x1) → (256 - Int32.toInt x1 < n2) → K2 x1 uE) (hK12 : ∀ (x1 : Int32) (x2 : Int32) (uE : Nat → Int32), (0 ≤ Int32.toInt x1 ∧ Int32.toInt x1 ≤ 255) → (0 ≤ Int32.toInt x2 ∧ Int32.toInt x2 ≤ 9) → (∀ k : Nat, 0 ≤ Int32.toInt (uE k) ∧ Int32.toInt (uE k) ≤ 1000000) → (MVb uE nG pJ aG x1 x2) → (LB x1 aG) → (256 - Int32.toInt x1 ≤ n2) → (9 - Int32.toInt x2 < n12) → K12 x1 x2 uE) (hK58 : ∀ (x1 : Int32) (x2 : Int32) (x3 : Int32) (x4 : Int32) (uE : Nat → Int32), (0 ≤ Int32.toInt x1 ∧ Int32.toInt x1 ≤ 255) → (0 ≤ Int32.toInt x2 ∧ Int32.toInt x2 ≤ 8) → (0 ≤ Int32.toInt x3 ∧ Int32.toInt x3 ≤ 1000000) → (0 ≤ Int32.toInt x4 ∧ Int32.toInt x4 ≤ 8) → (∀ k : Nat, 0 ≤ Int32.toInt (uE k) ∧ Int32.toInt (uE k) ≤ 1000000) → (MVb uE nG pJ aG x1 x2) → (LB x1 aG) → (VAL aG x2 x1) → (PB uE nG pJ x1 x2 x4 x3) → (Int32.toInt x4 ≤ Int32.toInt aG) → (256 - Int32.toInt x1 ≤ n2) → (9 - Int32.toInt x2 ≤ n12) → (8 - Int32.toInt x4 < n58) → K58 x1 x2 x3 x4 uE) (x1 x2 x4 k0 k2 : Int32) (uE : Nat → Int32) (aBK : 0 ≤ Int32.toInt x1 ∧ Int32.toInt x1 ≤ 255) (aBN : 0 ≤ Int32.toInt x2 ∧ Int32.toInt x2 ≤ 8) (aDO : 0 ≤ Int32.toInt x4 ∧ Int32.toInt x4 ≤ 7) (h_k0 : 0 ≤ Int32.toInt k0 ∧ Int32.toInt k0 ≤ 1000000) (h_k2 : -1 ≤ Int32.toInt k2 ∧ Int32.toInt k2 ≤ 7) (aAw : ∀ k : Nat, 0 ≤ Int32.toInt (uE k) ∧ Int32.toInt (uE k) ≤ 1000000) (hx0 : MVb uE nG pJ aG x1 x2) (hx1 : LB x1 aG) (hx2 : VAL aG x2 x1) (hx3 : PB uE nG pJ x1 x2 x4 k0) (hx4 : bt x1 (Int32.toInt x4).toNat = true) (hx5 : (Int32.toInt x2 = 8 ∧ Int32.toInt k2 = -1) ∨ (Int32.toInt x2 ≠ 8 ∧ Int32.toInt k2 = Int32.toInt x2)) (hx6 : Int32.toInt x4 < Int32.toInt aG) (hn2 : 256 - Int32.toInt x1 ≤ n2) (hn12 : 9 - Int32.toInt x2 ≤ n12) (hn58 : 8 - Int32.toInt x4 ≤ n58) : ws_X10_layMoves_89 post K2 K12 K58 aG nG pJ x1 x2 x4 k0 k2 uE := by
  refine t_X10_moveOf h_k2 aDO xT yD xZ (by omega) (by omega) (fun r3 h_r3 ox4 => ?_)
  intro v5 ev5
  have f6 := aDv 7 128 x4 (by decide) (by omega)
  have hv5 := congrArg Int32.toInt ev5
  intro v7 ev7
  have f9 := aBx x1 (v5 ^^^ (-1)) (by omega)
  have hv7 := congrArg Int32.toInt ev7
  intro v10 ev10
  have f11 := ti_shl8 x4 (by omega)
  have hv10 := congrArg Int32.toInt ev10
  intro v12 ev12
  have f13 : Int32.toInt (v10 + v7) = Int32.toInt v10 + Int32.toInt v7 := aAD _ _ (by omega)
  rw [← ev12] at f13
  refine And.intro (aBZ (by omega)) ?_
  intro v14 ev14
  have f16 := aAw v12.toNatClampNeg
  have f15 : Int32.toInt (r3 + (uE v12.toNatClampNeg)) = Int32.toInt r3 + Int32.toInt (uE v12.toNatClampNeg) := aAD _ _ (by omega)
  rw [← ev14] at f15
  intro v17 ev17
  have f18 := ti_min k0 v14
  have hv17 := congrArg Int32.toInt ev17
  exact ts_X10_layMoves_113 aG nG pJ vZ xT yD xZ hpost hK2 hK12 hK58 x1 x2 v17 x4 uE aBK aBN (by omega) aDO aAw (by first | assumption | exact MVb_0 (by assumption) | exact MVb_s (by assumption) (by omega)) (by first | assumption | exact LB_of (by assumption) (by omega) (by omega) (by omega)) (by first | assumption | exact VAL_8 (by omega) | exact VAL_b (by omega) (by omega) (by assumption) (by assumption) (by assumption)) (by first | assumption | exact PB_skip (by assumption) (by omega) (by assumption) (by assumption) (by assumption) | exact PB_add (by assumption) (by assumption) (by assumption) (by assumption) (by omega) (by assumption) (by assumption) (by assumption) (by omega) (by assumption) (by omega) (by omega) (by omega) xT xZ) hx6 hn2 hn12 hn58
set_option maxHeartbeats 8000000 in
set_option maxRecDepth 200000 in
theorem ts_X10_layMoves_131 {post : (Nat → Int32) → Prop} {K2 : Int32 → (Nat → Int32) → Prop} {K12 : Int32 → Int32 → (Nat → Int32) → Prop} {n2 n12 : Int} (aG : Int32) (nG pJ : Nat → Int32) (vZ : 0 ≤ Int32.toInt aG ∧ Int32.toInt aG ≤ 8) (xT : ∀ k : Nat, 0 ≤ Int32.toInt (nG k) ∧ Int32.toInt (nG k) ≤ 99) (yD : ∀ k : Nat, k = 4 → 1 ≤ Int32.toInt (pJ k) ∧ Int32.toInt (pJ k) ≤ 30) (xZ : ∀ k : Nat, k = 3 → 0 ≤ Int32.toInt (pJ k) ∧ Int32.toInt (pJ k) ≤ 9) (hpost : ∀ (aCX : Nat → Int32), (∀ k : Nat, 0 ≤ Int32.toInt (aCX k) ∧ Int32.toInt (aCX k) ≤ 1000000) → (MVT aCX nG pJ aG) → post aCX) (hK2 : ∀ (x1 : Int32) (uE : Nat → Int32), (0 ≤ Int32.toInt x1 ∧ Int32.toInt x1 ≤ 256) → (∀ k : Nat, 0 ≤ Int32.toInt (uE k) ∧ Int32.toInt (uE k) ≤ 1000000) → (MVa uE nG pJ aG x1) → (256 - Int32.toInt x1 < n2) → K2 x1 uE) (hK12 : ∀ (x1 : Int32) (x2 : Int32) (uE : Nat → Int32), (0 ≤ Int32.toInt x1 ∧ Int32.toInt x1 ≤ 255) → (0 ≤ Int32.toInt x2 ∧ Int32.toInt x2 ≤ 9) → (∀ k : Nat, 0 ≤ Int32.toInt (uE k) ∧ Int32.toInt (uE k) ≤ 1000000) → (MVb uE nG pJ aG x1 x2) → (LB x1 aG) → (256 - Int32.toInt x1 ≤ n2) → (9 - Int32.toInt x2 < n12) → K12 x1 x2 uE) (x1 x2 : Int32) (uE : Nat → Int32) (aBK : 0 ≤ Int32.toInt x1 ∧ Int32.toInt x1 ≤ 255) (aBN : 0 ≤ Int32.toInt x2 ∧ Int32.toInt x2 ≤ 8) (aAw : ∀ k : Nat, 0 ≤ Int32.toInt (uE k) ∧ Int32.toInt (uE k) ≤ 1000000) (hx0 : MVb1 uE nG pJ aG x1 x2) (hx1 : LB x1 aG) (hn2 : 256 - Int32.toInt x1 ≤ n2) (hn12 : 9 - Int32.toInt x2 ≤ n12) : ws_X10_layMoves_131 post K2 K12 aG nG pJ x1 x2 uE := by
  have l0 := aEc
  intro v19 ev19
  have f20 : Int32.toInt (x2 + 1) = Int32.toInt x2 + Int32.toInt (1 : Int32) := aAD _ _ (by omega)
  rw [← ev19] at f20
  exact hK12 x1 v19 uE aBK (by omega) aAw (by first | assumption | exact MVb_0 (by assumption) | exact MVb_s (by assumption) (by omega)) (by first | assumption | exact LB_of (by assumption) (by omega) (by omega) (by omega)) hn2 (by omega)
set_option maxHeartbeats 8000000 in
set_option maxRecDepth 200000 in
theorem ts_X10_layMoves_58 {post : (Nat → Int32) → Prop} {K2 : Int32 → (Nat → Int32) → Prop} {K12 : Int32 → Int32 → (Nat → Int32) → Prop} {next : Int32 → Int32 → Int32 → Int32 → (Nat → Int32) → Prop} {n58 n2 n12 : Int} (aG : Int32) (nG pJ : Nat → Int32) (vZ : 0 ≤ Int32.toInt aG ∧ Int32.toInt aG ≤ 8) (xT : ∀ k : Nat, 0 ≤ Int32.toInt (nG k) ∧ Int32.toInt (nG k) ≤ 99) (yD : ∀ k : Nat, k = 4 → 1 ≤ Int32.toInt (pJ k) ∧ Int32.toInt (pJ k) ≤ 30) (xZ : ∀ k : Nat, k = 3 → 0 ≤ Int32.toInt (pJ k) ∧ Int32.toInt (pJ k) ≤ 9) (hpost : ∀ (aCX : Nat → Int32), (∀ k : Nat, 0 ≤ Int32.toInt (aCX k) ∧ Int32.toInt (aCX k) ≤ 1000000) → (MVT aCX nG pJ aG) → post aCX) (hK2 : ∀ (x1 : Int32) (uE : Nat → Int32), (0 ≤ Int32.toInt x1 ∧ Int32.toInt x1 ≤ 256) → (∀ k : Nat, 0 ≤ Int32.toInt (uE k) ∧ Int32.toInt (uE k) ≤ 1000000) → (MVa uE nG pJ aG x1) → (256 - Int32.toInt x1 < n2) → K2 x1 uE) (hK12 : ∀ (x1 : Int32) (x2 : Int32) (uE : Nat → Int32), (0 ≤ Int32.toInt x1 ∧ Int32.toInt x1 ≤ 255) → (0 ≤ Int32.toInt x2 ∧ Int32.toInt x2 ≤ 9) → (∀ k : Nat, 0 ≤ Int32.toInt (uE k) ∧ Int32.toInt (uE k) ≤ 1000000) → (MVb uE nG pJ aG x1 x2) → (LB x1 aG) → (256 - Int32.toInt x1 ≤ n2) → (9 - Int32.toInt x2 < n12) → K12 x1 x2 uE) (hKn : ∀ (x1 : Int32) (x2 : Int32) (x3 : Int32) (x4 : Int32) (uE : Nat → Int32), (0 ≤ Int32.toInt x1 ∧ Int32.toInt x1 ≤ 255) → (0 ≤ Int32.toInt x2 ∧ Int32.toInt x2 ≤ 8) → (0 ≤ Int32.toInt x3 ∧ Int32.toInt x3 ≤ 1000000) → (0 ≤ Int32.toInt x4 ∧ Int32.toInt x4 ≤ 8) → (∀ k : Nat, 0 ≤ Int32.toInt (uE k) ∧ Int32.toInt (uE k) ≤ 1000000) → (MVb uE nG pJ aG x1 x2) → (LB x1 aG) → (VAL aG x2 x1) → (PB uE nG pJ x1 x2 x4 x3) → (Int32.toInt x4 ≤ Int32.toInt aG) → (256 - Int32.toInt x1 ≤ n2) → (9 - Int32.toInt x2 ≤ n12) → (8 - Int32.toInt x4 < n58) → next x1 x2 x3 x4 uE) (x1 x2 x3 x4 : Int32) (uE : Nat → Int32) (aBK : 0 ≤ Int32.toInt x1 ∧ Int32.toInt x1 ≤ 255) (aBN : 0 ≤ Int32.toInt x2 ∧ Int32.toInt x2 ≤ 8) (aCH : 0 ≤ Int32.toInt x3 ∧ Int32.toInt x3 ≤ 1000000) (aDO : 0 ≤ Int32.toInt x4 ∧ Int32.toInt x4 ≤ 8) (aAw : ∀ k : Nat, 0 ≤ Int32.toInt (uE k) ∧ Int32.toInt (uE k) ≤ 1000000) (hx0 : MVb uE nG pJ aG x1 x2) (hx1 : LB x1 aG) (hx2 : VAL aG x2 x1) (hx3 : PB uE nG pJ x1 x2 x4 x3) (hx4 : Int32.toInt x4 ≤ Int32.toInt aG) (hn2 : 256 - Int32.toInt x1 ≤ n2) (hn12 : 9 - Int32.toInt x2 ≤ n12) (hn58 : 8 - Int32.toInt x4 ≤ n58) : ws_X10_layMoves_58 post K2 K12 next aG nG pJ x1 x2 x3 x4 uE := by
  have l0 := aI2
  have l1 := aEc
  have l2 := li_8
  refine And.intro (fun c21 => ?_) (fun c21 => ?_)
  · skip
    have c21 := (aAO _ _).mp c21
    intro v22 ev22
    have f23 := ti_shl8 x2 (by omega)
    have hv22 := congrArg Int32.toInt ev22
    intro v24 ev24
    have f25 : Int32.toInt (v22 + x1) = Int32.toInt v22 + Int32.toInt x1 := aAD _ _ (by omega)
    rw [← ev24] at f25
    refine And.intro (aBZ (by omega)) ?_
    have a26 : ∀ k : Nat, 0 ≤ Int32.toInt ((upd uE v24.toNatClampNeg x3) k) ∧ Int32.toInt ((upd uE v24.toNatClampNeg x3) k) ≤ 1000000 := t_upd (fun k => by have q9 := aAw k; omega) (by omega)
    exact ts_X10_layMoves_131 aG nG pJ vZ xT yD xZ hpost hK2 hK12 x1 x2 (upd uE v24.toNatClampNeg x3) aBK aBN (fun k => by have q9 := a26 k; omega) (by first | assumption | exact MVb1_sk1 (by assumption) (by omega) (by omega) | exact MVb1_sk2 (by assumption) (by omega) (by assumption) (by assumption) (by assumption) | exact MVb1_up (by assumption) (by assumption) (by assumption) (by assumption) (by omega) (by omega) (by omega) (by omega) (by omega) (by omega) xT xZ) (by first | assumption | exact LB_of (by assumption) (by omega) (by omega) (by omega)) hn2 hn12
  · skip
    have c21 := mt (aAO _ _).mpr c21
    intro v27 ev27
    have f28 := aRJ x1 x4 (by omega)
    have hv27 := congrArg Int32.toInt ev27
    intro v29 ev29
    have f30 := aAQ v27 1 (by omega)
    have f31 := aBx v27 1 (by omega)
    have hv29 := congrArg Int32.toInt ev29
    refine And.intro (fun c32 => ?_) (fun c32 => ?_)
    · skip
      have c32 := mt (zJ _ _).mpr c32
      refine And.intro (fun _ => ?_) (fun h9 => absurd h9 (by decide))
      exact ts_X10_layMoves_113 aG nG pJ vZ xT yD xZ hpost hK2 hK12 hKn x1 x2 x3 x4 uE aBK aBN aCH (by omega) aAw (by first | assumption | exact MVb_0 (by assumption) | exact MVb_s (by assumption) (by omega)) (by first | assumption | exact LB_of (by assumption) (by omega) (by omega) (by omega)) (by first | assumption | exact VAL_8 (by omega) | exact VAL_b (by omega) (by omega) (by assumption) (by assumption) (by assumption)) (by first | assumption | exact PB_skip (by assumption) (by omega) (by assumption) (by assumption) (by assumption) | exact PB_add (by assumption) (by assumption) (by assumption) (by assumption) (by omega) (by assumption) (by assumption) (by assumption) (by omega) (by assumption) (by omega) (by omega) (by omega) xT xZ) (by omega) hn2 hn12 hn58
    · skip
      have c32 := (zJ _ _).mp c32
      refine And.intro (fun h9 => absurd h9 (by decide)) (fun _ => ?_)
      refine And.intro (fun c33 => ?_) (fun c33 => ?_)
      · skip
        have c33 := mt (zJ _ _).mpr c33
        exact ts_X10_layMoves_89 aG nG pJ vZ xT yD xZ hpost hK2 hK12 hKn x1 x2 x4 x3 x2 uE aBK aBN (by omega) aCH (by omega) aAw (by first | assumption | exact MVb_0 (by assumption) | exact MVb_s (by assumption) (by omega)) (by first | assumption | exact LB_of (by assumption) (by omega) (by omega) (by omega)) (by first | assumption | exact VAL_8 (by omega) | exact VAL_b (by omega) (by omega) (by assumption) (by assumption) (by assumption)) (by first | assumption ) (has_1 (by assumption) (by assumption) (by assumption) (by omega)) (by omega) (by omega) hn2 hn12 hn58
      · skip
        have c33 := (zJ _ _).mp c33
        exact ts_X10_layMoves_89 aG nG pJ vZ xT yD xZ hpost hK2 hK12 hKn x1 x2 x4 x3 (-1) uE aBK aBN (by omega) aCH (by omega) aAw (by first | assumption | exact MVb_0 (by assumption) | exact MVb_s (by assumption) (by omega)) (by first | assumption | exact LB_of (by assumption) (by omega) (by omega) (by omega)) (by first | assumption | exact VAL_8 (by omega) | exact VAL_b (by omega) (by omega) (by assumption) (by assumption) (by assumption)) (by first | assumption ) (has_1 (by assumption) (by assumption) (by assumption) (by omega)) (by omega) (by omega) hn2 hn12 hn58
set_option maxHeartbeats 8000000 in
set_option maxRecDepth 200000 in
theorem tb_X10_layMoves_58 {post : (Nat → Int32) → Prop} {K2 : Int32 → (Nat → Int32) → Prop} {K12 : Int32 → Int32 → (Nat → Int32) → Prop} {n2 n12 : Int} (aG : Int32) (nG pJ : Nat → Int32) (vZ : 0 ≤ Int32.toInt aG ∧ Int32.toInt aG ≤ 8) (xT : ∀ k : Nat, 0 ≤ Int32.toInt (nG k) ∧ Int32.toInt (nG k) ≤ 99) (yD : ∀ k : Nat, k = 4 → 1 ≤ Int32.toInt (pJ k) ∧ Int32.toInt (pJ k) ≤ 30) (xZ : ∀ k : Nat, k = 3 → 0 ≤ Int32.toInt (pJ k) ∧ Int32.toInt (pJ k) ≤ 9) (hpost : ∀ (aCX : Nat → Int32), (∀ k : Nat, 0 ≤ Int32.toInt (aCX k) ∧ Int32.toInt (aCX k) ≤ 1000000) → (MVT aCX nG pJ aG) → post aCX) (hK2 : ∀ (x1 : Int32) (uE : Nat → Int32), (0 ≤ Int32.toInt x1 ∧ Int32.toInt x1 ≤ 256) → (∀ k : Nat, 0 ≤ Int32.toInt (uE k) ∧ Int32.toInt (uE k) ≤ 1000000) → (MVa uE nG pJ aG x1) → (256 - Int32.toInt x1 < n2) → K2 x1 uE) (hK12 : ∀ (x1 : Int32) (x2 : Int32) (uE : Nat → Int32), (0 ≤ Int32.toInt x1 ∧ Int32.toInt x1 ≤ 255) → (0 ≤ Int32.toInt x2 ∧ Int32.toInt x2 ≤ 9) → (∀ k : Nat, 0 ≤ Int32.toInt (uE k) ∧ Int32.toInt (uE k) ≤ 1000000) → (MVb uE nG pJ aG x1 x2) → (LB x1 aG) → (256 - Int32.toInt x1 ≤ n2) → (9 - Int32.toInt x2 < n12) → K12 x1 x2 uE) : ∀ (n : Nat) (x1 x2 x3 x4 : Int32) (uE : Nat → Int32), (0 ≤ Int32.toInt x1 ∧ Int32.toInt x1 ≤ 255) → (0 ≤ Int32.toInt x2 ∧ Int32.toInt x2 ≤ 8) → (0 ≤ Int32.toInt x3 ∧ Int32.toInt x3 ≤ 1000000) → (0 ≤ Int32.toInt x4 ∧ Int32.toInt x4 ≤ 8) → (∀ k : Nat, 0 ≤ Int32.toInt (uE k) ∧ Int32.toInt (uE k) ≤ 1000000) → (MVb uE nG pJ aG x1 x2) → (LB x1 aG) → (VAL aG x2 x1) → (PB uE nG pJ x1 x2 x4 x3) → (Int32.toInt x4 ≤ Int32.toInt aG) → (256 - Int32.toInt x1 ≤ n2) → (9 - Int32.toInt x2 ≤ n12) → (8 - Int32.toInt x4 < (n : Int)) → wb_X10_layMoves_58 post K2 K12 aG nG pJ n x1 x2 x3 x4 uE := by
  intro n
  induction n with
  | zero =>
    intro x1 x2 x3 x4 uE aBK aBN aCH aDO aAw hx0 hx1 hx2 hx3 hx4 hn2 hn12 hm
    exfalso; omega
  | succ n ih =>
    intro x1 x2 x3 x4 uE aBK aBN aCH aDO aAw hx0 hx1 hx2 hx3 hx4 hn2 hn12 hm
    exact ts_X10_layMoves_58 aG nG pJ vZ xT yD xZ hpost hK2 hK12 ih x1 x2 x3 x4 uE aBK aBN aCH aDO aAw hx0 hx1 hx2 hx3 hx4 hn2 hn12 (by omega)
set_option maxHeartbeats 8000000 in
set_option maxRecDepth 200000 in
theorem ts_X10_layMoves_54 {post : (Nat → Int32) → Prop} {K2 : Int32 → (Nat → Int32) → Prop} {K12 : Int32 → Int32 → (Nat → Int32) → Prop} {n2 n12 : Int} (aG : Int32) (nG pJ : Nat → Int32) (vZ : 0 ≤ Int32.toInt aG ∧ Int32.toInt aG ≤ 8) (xT : ∀ k : Nat, 0 ≤ Int32.toInt (nG k) ∧ Int32.toInt (nG k) ≤ 99) (yD : ∀ k : Nat, k = 4 → 1 ≤ Int32.toInt (pJ k) ∧ Int32.toInt (pJ k) ≤ 30) (xZ : ∀ k : Nat, k = 3 → 0 ≤ Int32.toInt (pJ k) ∧ Int32.toInt (pJ k) ≤ 9) (hpost : ∀ (aCX : Nat → Int32), (∀ k : Nat, 0 ≤ Int32.toInt (aCX k) ∧ Int32.toInt (aCX k) ≤ 1000000) → (MVT aCX nG pJ aG) → post aCX) (hK2 : ∀ (x1 : Int32) (uE : Nat → Int32), (0 ≤ Int32.toInt x1 ∧ Int32.toInt x1 ≤ 256) → (∀ k : Nat, 0 ≤ Int32.toInt (uE k) ∧ Int32.toInt (uE k) ≤ 1000000) → (MVa uE nG pJ aG x1) → (256 - Int32.toInt x1 < n2) → K2 x1 uE) (hK12 : ∀ (x1 : Int32) (x2 : Int32) (uE : Nat → Int32), (0 ≤ Int32.toInt x1 ∧ Int32.toInt x1 ≤ 255) → (0 ≤ Int32.toInt x2 ∧ Int32.toInt x2 ≤ 9) → (∀ k : Nat, 0 ≤ Int32.toInt (uE k) ∧ Int32.toInt (uE k) ≤ 1000000) → (MVb uE nG pJ aG x1 x2) → (LB x1 aG) → (256 - Int32.toInt x1 ≤ n2) → (9 - Int32.toInt x2 < n12) → K12 x1 x2 uE) (x1 x2 k0 : Int32) (uE : Nat → Int32) (aBK : 0 ≤ Int32.toInt x1 ∧ Int32.toInt x1 ≤ 255) (aBN : 0 ≤ Int32.toInt x2 ∧ Int32.toInt x2 ≤ 8) (h_k0 : 0 ≤ Int32.toInt k0 ∧ Int32.toInt k0 ≤ 1000000) (aAw : ∀ k : Nat, 0 ≤ Int32.toInt (uE k) ∧ Int32.toInt (uE k) ≤ 1000000) (hx0 : MVb uE nG pJ aG x1 x2) (hx1 : LB x1 aG) (hx2 : VAL aG x2 x1) (hx3 : (Int32.toInt x1 = 0 ∧ Int32.toInt k0 = 0) ∨ (Int32.toInt x1 ≠ 0 ∧ Int32.toInt k0 = 1000000)) (hn2 : 256 - Int32.toInt x1 ≤ n2) (hn12 : 9 - Int32.toInt x2 ≤ n12) : ws_X10_layMoves_54 post K2 K12 aG nG pJ x1 x2 k0 uE := by
  have l0 := aE0
  exact ⟨10, tb_X10_layMoves_58 aG nG pJ vZ xT yD xZ hpost hK2 hK12 _ x1 x2 k0 0 uE aBK aBN h_k0 (by omega) aAw (by first | assumption | exact MVb_0 (by assumption) | exact MVb_s (by assumption) (by omega)) (by first | assumption | exact LB_of (by assumption) (by omega) (by omega) (by omega)) (by first | assumption | exact VAL_8 (by omega) | exact VAL_b (by omega) (by omega) (by assumption) (by assumption) (by assumption)) (by first | assumption | exact PB_init (by omega) | exact PB_s (by assumption) (by omega)) (by omega) hn2 hn12 (by omega)⟩
set_option maxHeartbeats 8000000 in
set_option maxRecDepth 200000 in
theorem ts_X10_layMoves_43 {post : (Nat → Int32) → Prop} {K2 : Int32 → (Nat → Int32) → Prop} {K12 : Int32 → Int32 → (Nat → Int32) → Prop} {n2 n12 : Int} (aG : Int32) (nG pJ : Nat → Int32) (vZ : 0 ≤ Int32.toInt aG ∧ Int32.toInt aG ≤ 8) (xT : ∀ k : Nat, 0 ≤ Int32.toInt (nG k) ∧ Int32.toInt (nG k) ≤ 99) (yD : ∀ k : Nat, k = 4 → 1 ≤ Int32.toInt (pJ k) ∧ Int32.toInt (pJ k) ≤ 30) (xZ : ∀ k : Nat, k = 3 → 0 ≤ Int32.toInt (pJ k) ∧ Int32.toInt (pJ k) ≤ 9) (hpost : ∀ (aCX : Nat → Int32), (∀ k : Nat, 0 ≤ Int32.toInt (aCX k) ∧ Int32.toInt (aCX k) ≤ 1000000) → (MVT aCX nG pJ aG) → post aCX) (hK2 : ∀ (x1 : Int32) (uE : Nat → Int32), (0 ≤ Int32.toInt x1 ∧ Int32.toInt x1 ≤ 256) → (∀ k : Nat, 0 ≤ Int32.toInt (uE k) ∧ Int32.toInt (uE k) ≤ 1000000) → (MVa uE nG pJ aG x1) → (256 - Int32.toInt x1 < n2) → K2 x1 uE) (hK12 : ∀ (x1 : Int32) (x2 : Int32) (uE : Nat → Int32), (0 ≤ Int32.toInt x1 ∧ Int32.toInt x1 ≤ 255) → (0 ≤ Int32.toInt x2 ∧ Int32.toInt x2 ≤ 9) → (∀ k : Nat, 0 ≤ Int32.toInt (uE k) ∧ Int32.toInt (uE k) ≤ 1000000) → (MVb uE nG pJ aG x1 x2) → (LB x1 aG) → (256 - Int32.toInt x1 ≤ n2) → (9 - Int32.toInt x2 < n12) → K12 x1 x2 uE) (x1 x2 : Int32) (uE : Nat → Int32) (aBK : 0 ≤ Int32.toInt x1 ∧ Int32.toInt x1 ≤ 255) (aBN : 0 ≤ Int32.toInt x2 ∧ Int32.toInt x2 ≤ 8) (aAw : ∀ k : Nat, 0 ≤ Int32.toInt (uE k) ∧ Int32.toInt (uE k) ≤ 1000000) (hx0 : MVb uE nG pJ aG x1 x2) (hx1 : LB x1 aG) (hx2 : VAL aG x2 x1) (hn2 : 256 - Int32.toInt x1 ≤ n2) (hn12 : 9 - Int32.toInt x2 ≤ n12) : ws_X10_layMoves_43 post K2 K12 aG nG pJ x1 x2 uE := by
  have l0 := aE0
  have l1 := li_1000000
  refine And.intro (fun c34 => ?_) (fun c34 => ?_)
  · skip
    have c34 := mt (zJ _ _).mpr c34
    exact ts_X10_layMoves_54 aG nG pJ vZ xT yD xZ hpost hK2 hK12 x1 x2 1000000 uE aBK aBN (by omega) aAw (by first | assumption | exact MVb_0 (by assumption) | exact MVb_s (by assumption) (by omega)) (by first | assumption | exact LB_of (by assumption) (by omega) (by omega) (by omega)) (by first | assumption | exact VAL_8 (by omega) | exact VAL_b (by omega) (by omega) (by assumption) (by assumption) (by assumption)) (by omega) hn2 hn12
  · skip
    have c34 := (zJ _ _).mp c34
    exact ts_X10_layMoves_54 aG nG pJ vZ xT yD xZ hpost hK2 hK12 x1 x2 0 uE aBK aBN (by omega) aAw (by first | assumption | exact MVb_0 (by assumption) | exact MVb_s (by assumption) (by omega)) (by first | assumption | exact LB_of (by assumption) (by omega) (by omega) (by omega)) (by first | assumption | exact VAL_8 (by omega) | exact VAL_b (by omega) (by omega) (by assumption) (by assumption) (by assumption)) (by omega) hn2 hn12
set_option maxHeartbeats 8000000 in
set_option maxRecDepth 200000 in
theorem ts_X10_layMoves_12 {post : (Nat → Int32) → Prop} {K2 : Int32 → (Nat → Int32) → Prop} {next : Int32 → Int32 → (Nat → Int32) → Prop} {n12 n2 : Int} (aG : Int32) (nG pJ : Nat → Int32) (vZ : 0 ≤ Int32.toInt aG ∧ Int32.toInt aG ≤ 8) (xT : ∀ k : Nat, 0 ≤ Int32.toInt (nG k) ∧ Int32.toInt (nG k) ≤ 99) (yD : ∀ k : Nat, k = 4 → 1 ≤ Int32.toInt (pJ k) ∧ Int32.toInt (pJ k) ≤ 30) (xZ : ∀ k : Nat, k = 3 → 0 ≤ Int32.toInt (pJ k) ∧ Int32.toInt (pJ k) ≤ 9) (hpost : ∀ (aCX : Nat → Int32), (∀ k : Nat, 0 ≤ Int32.toInt (aCX k) ∧ Int32.toInt (aCX k) ≤ 1000000) → (MVT aCX nG pJ aG) → post aCX) (hK2 : ∀ (x1 : Int32) (uE : Nat → Int32), (0 ≤ Int32.toInt x1 ∧ Int32.toInt x1 ≤ 256) → (∀ k : Nat, 0 ≤ Int32.toInt (uE k) ∧ Int32.toInt (uE k) ≤ 1000000) → (MVa uE nG pJ aG x1) → (256 - Int32.toInt x1 < n2) → K2 x1 uE) (hKn : ∀ (x1 : Int32) (x2 : Int32) (uE : Nat → Int32), (0 ≤ Int32.toInt x1 ∧ Int32.toInt x1 ≤ 255) → (0 ≤ Int32.toInt x2 ∧ Int32.toInt x2 ≤ 9) → (∀ k : Nat, 0 ≤ Int32.toInt (uE k) ∧ Int32.toInt (uE k) ≤ 1000000) → (MVb uE nG pJ aG x1 x2) → (LB x1 aG) → (256 - Int32.toInt x1 ≤ n2) → (9 - Int32.toInt x2 < n12) → next x1 x2 uE) (x1 x2 : Int32) (uE : Nat → Int32) (aBK : 0 ≤ Int32.toInt x1 ∧ Int32.toInt x1 ≤ 255) (aBN : 0 ≤ Int32.toInt x2 ∧ Int32.toInt x2 ≤ 9) (aAw : ∀ k : Nat, 0 ≤ Int32.toInt (uE k) ∧ Int32.toInt (uE k) ≤ 1000000) (hx0 : MVb uE nG pJ aG x1 x2) (hx1 : LB x1 aG) (hn2 : 256 - Int32.toInt x1 ≤ n2) (hn12 : 9 - Int32.toInt x2 ≤ n12) : ws_X10_layMoves_12 post K2 next aG nG pJ x1 x2 uE := by
  have l0 := aEc
  have l1 := li_8
  refine And.intro (fun c35 => ?_) (fun c35 => ?_)
  · skip
    have c35 := (aAd _ _).mp c35
    intro v36 ev36
    have f37 : Int32.toInt (x1 + 1) = Int32.toInt x1 + Int32.toInt (1 : Int32) := aAD _ _ (by omega)
    rw [← ev36] at f37
    exact hK2 v36 uE (by omega) aAw (by first | assumption | exact MVa_0 (by omega) | exact MVa_s (by assumption) (by omega) (by omega) (by omega)) (by omega)
  · skip
    have c35 := mt (aAd _ _).mpr c35
    refine And.intro (fun c38 => ?_) (fun c38 => ?_)
    · skip
      have c38 := (aAO _ _).mp c38
      exact ts_X10_layMoves_43 aG nG pJ vZ xT yD xZ hpost hK2 hKn x1 x2 uE aBK (by omega) aAw (by first | assumption | exact MVb_0 (by assumption) | exact MVb_s (by assumption) (by omega)) (by first | assumption | exact LB_of (by assumption) (by omega) (by omega) (by omega)) (by first | assumption | exact VAL_8 (by omega) | exact VAL_b (by omega) (by omega) (by assumption) (by assumption) (by assumption)) hn2 hn12
    · skip
      have c38 := mt (aAO _ _).mpr c38
      refine And.intro (fun c39 => ?_) (fun c39 => ?_)
      · skip
        have c39 := (aAO _ _).mp c39
        exact ts_X10_layMoves_131 aG nG pJ vZ xT yD xZ hpost hK2 hKn x1 x2 uE aBK (by omega) aAw (by first | assumption | exact MVb1_sk1 (by assumption) (by omega) (by omega) | exact MVb1_sk2 (by assumption) (by omega) (by assumption) (by assumption) (by assumption) | exact MVb1_up (by assumption) (by assumption) (by assumption) (by assumption) (by omega) (by omega) (by omega) (by omega) (by omega) (by omega) xT xZ) (by first | assumption | exact LB_of (by assumption) (by omega) (by omega) (by omega)) hn2 hn12
      · skip
        have c39 := mt (aAO _ _).mpr c39
        intro v40 ev40
        have f41 := aRJ x1 x2 (by omega)
        have hv40 := congrArg Int32.toInt ev40
        intro v42 ev42
        have f43 := aAQ v40 1 (by omega)
        have f44 := aBx v40 1 (by omega)
        have hv42 := congrArg Int32.toInt ev42
        refine And.intro (fun c45 => ?_) (fun c45 => ?_)
        · skip
          have c45 := mt (zJ _ _).mpr c45
          refine And.intro (fun _ => ?_) (fun h9 => absurd h9 (by decide))
          exact ts_X10_layMoves_43 aG nG pJ vZ xT yD xZ hpost hK2 hKn x1 x2 uE aBK (by omega) aAw (by first | assumption | exact MVb_0 (by assumption) | exact MVb_s (by assumption) (by omega)) (by first | assumption | exact LB_of (by assumption) (by omega) (by omega) (by omega)) (by first | assumption | exact VAL_8 (by omega) | exact VAL_b (by omega) (by omega) (by assumption) (by assumption) (by assumption)) hn2 hn12
        · skip
          have c45 := (zJ _ _).mp c45
          refine And.intro (fun h9 => absurd h9 (by decide)) (fun _ => ?_)
          exact ts_X10_layMoves_131 aG nG pJ vZ xT yD xZ hpost hK2 hKn x1 x2 uE aBK (by omega) aAw (by first | assumption | exact MVb1_sk1 (by assumption) (by omega) (by omega) | exact MVb1_sk2 (by assumption) (by omega) (by assumption) (by assumption) (by assumption) | exact MVb1_up (by assumption) (by assumption) (by assumption) (by assumption) (by omega) (by omega) (by omega) (by omega) (by omega) (by omega) xT xZ) (by first | assumption | exact LB_of (by assumption) (by omega) (by omega) (by omega)) hn2 hn12
set_option maxHeartbeats 8000000 in
set_option maxRecDepth 200000 in
theorem tb_X10_layMoves_12 {post : (Nat → Int32) → Prop} {K2 : Int32 → (Nat → Int32) → Prop} {n2 : Int} (aG : Int32) (nG pJ : Nat → Int32) (vZ : 0 ≤ Int32.toInt aG ∧ Int32.toInt aG ≤ 8) (xT : ∀ k : Nat, 0 ≤ Int32.toInt (nG k) ∧ Int32.toInt (nG k) ≤ 99) (yD : ∀ k : Nat, k = 4 → 1 ≤ Int32.toInt (pJ k) ∧ Int32.toInt (pJ k) ≤ 30) (xZ : ∀ k : Nat, k = 3 → 0 ≤ Int32.toInt (pJ k) ∧ Int32.toInt (pJ k) ≤ 9) (hpost : ∀ (aCX : Nat → Int32), (∀ k : Nat, 0 ≤ Int32.toInt (aCX k) ∧ Int32.toInt (aCX k) ≤ 1000000) → (MVT aCX nG pJ aG) → post aCX) (hK2 : ∀ (x1 : Int32) (uE : Nat → Int32), (0 ≤ Int32.toInt x1 ∧ Int32.toInt x1 ≤ 256) → (∀ k : Nat, 0 ≤ Int32.toInt (uE k) ∧ Int32.toInt (uE k) ≤ 1000000) → (MVa uE nG pJ aG x1) → (256 - Int32.toInt x1 < n2) → K2 x1 uE) : ∀ (n : Nat) (x1 x2 : Int32) (uE : Nat → Int32), (0 ≤ Int32.toInt x1 ∧ Int32.toInt x1 ≤ 255) → (0 ≤ Int32.toInt x2 ∧ Int32.toInt x2 ≤ 9) → (∀ k : Nat, 0 ≤ Int32.toInt (uE k) ∧ Int32.toInt (uE k) ≤ 1000000) → (MVb uE nG pJ aG x1 x2) → (LB x1 aG) → (256 - Int32.toInt x1 ≤ n2) → (9 - Int32.toInt x2 < (n : Int)) → wb_X10_layMoves_12 post K2 aG nG pJ n x1 x2 uE := by
  intro n
  induction n with
  | zero =>
    intro x1 x2 uE aBK aBN aAw hx0 hx1 hn2 hm
    exfalso; omega
  | succ n ih =>
    intro x1 x2 uE aBK aBN aAw hx0 hx1 hn2 hm
    exact ts_X10_layMoves_12 aG nG pJ vZ xT yD xZ hpost hK2 ih x1 x2 uE aBK aBN aAw hx0 hx1 hn2 (by omega)
set_option maxHeartbeats 8000000 in
set_option maxRecDepth 200000 in
theorem ts_X10_layMoves_2 {post : (Nat → Int32) → Prop} {next : Int32 → (Nat → Int32) → Prop} {n2 : Int} (aG : Int32) (nG pJ : Nat → Int32) (vZ : 0 ≤ Int32.toInt aG ∧ Int32.toInt aG ≤ 8) (xT : ∀ k : Nat, 0 ≤ Int32.toInt (nG k) ∧ Int32.toInt (nG k) ≤ 99) (yD : ∀ k : Nat, k = 4 → 1 ≤ Int32.toInt (pJ k) ∧ Int32.toInt (pJ k) ≤ 30) (xZ : ∀ k : Nat, k = 3 → 0 ≤ Int32.toInt (pJ k) ∧ Int32.toInt (pJ k) ≤ 9) (hpost : ∀ (aCX : Nat → Int32), (∀ k : Nat, 0 ≤ Int32.toInt (aCX k) ∧ Int32.toInt (aCX k) ≤ 1000000) → (MVT aCX nG pJ aG) → post aCX) (hKn : ∀ (x1 : Int32) (uE : Nat → Int32), (0 ≤ Int32.toInt x1 ∧ Int32.toInt x1 ≤ 256) → (∀ k : Nat, 0 ≤ Int32.toInt (uE k) ∧ Int32.toInt (uE k) ≤ 1000000) → (MVa uE nG pJ aG x1) → (256 - Int32.toInt x1 < n2) → next x1 uE) (x1 : Int32) (uE : Nat → Int32) (aBK : 0 ≤ Int32.toInt x1 ∧ Int32.toInt x1 ≤ 256) (aAw : ∀ k : Nat, 0 ≤ Int32.toInt (uE k) ∧ Int32.toInt (uE k) ≤ 1000000) (hx0 : MVa uE nG pJ aG x1) (hn2 : 256 - Int32.toInt x1 ≤ n2) : ws_X10_layMoves_2 post next aG nG pJ x1 uE := by
  have l0 := aE0
  have l1 := aEc
  intro v46 ev46
  have f47 := aDv 8 256 aG (by decide) (by omega)
  have hv46 := congrArg Int32.toInt ev46
  have f49 : Int32.toInt (v46 - 1) = Int32.toInt v46 - Int32.toInt (1 : Int32) := aCA _ _ (by omega)
  refine And.intro (fun c48 => ?_) (fun c48 => ?_)
  · skip
    have c48 := (aAd _ _).mp c48
    exact hpost _ aAw (MVT_of (by assumption) (by assumption) (by omega) (by omega))
  · skip
    have c48 := mt (aAd _ _).mpr c48
    exact ⟨11, tb_X10_layMoves_12 aG nG pJ vZ xT yD xZ hpost hKn _ x1 0 uE (by omega) (by omega) aAw (by first | assumption | exact MVb_0 (by assumption) | exact MVb_s (by assumption) (by omega)) (by first | assumption | exact LB_of (by assumption) (by omega) (by omega) (by omega)) hn2 (by omega)⟩
set_option maxHeartbeats 8000000 in
set_option maxRecDepth 200000 in
theorem tb_X10_layMoves_2 {post : (Nat → Int32) → Prop} (aG : Int32) (nG pJ : Nat → Int32) (vZ : 0 ≤ Int32.toInt aG ∧ Int32.toInt aG ≤ 8) (xT : ∀ k : Nat, 0 ≤ Int32.toInt (nG k) ∧ Int32.toInt (nG k) ≤ 99) (yD : ∀ k : Nat, k = 4 → 1 ≤ Int32.toInt (pJ k) ∧ Int32.toInt (pJ k) ≤ 30) (xZ : ∀ k : Nat, k = 3 → 0 ≤ Int32.toInt (pJ k) ∧ Int32.toInt (pJ k) ≤ 9) (hpost : ∀ (aCX : Nat → Int32), (∀ k : Nat, 0 ≤ Int32.toInt (aCX k) ∧ Int32.toInt (aCX k) ≤ 1000000) → (MVT aCX nG pJ aG) → post aCX) : ∀ (n : Nat) (x1 : Int32) (uE : Nat → Int32), (0 ≤ Int32.toInt x1 ∧ Int32.toInt x1 ≤ 256) → (∀ k : Nat, 0 ≤ Int32.toInt (uE k) ∧ Int32.toInt (uE k) ≤ 1000000) → (MVa uE nG pJ aG x1) → (256 - Int32.toInt x1 < (n : Int)) → wb_X10_layMoves_2 post aG nG pJ n x1 uE := by
  intro n
  induction n with
  | zero =>
    intro x1 uE aBK aAw hx0 hm
    exfalso; omega
  | succ n ih =>
    intro x1 uE aBK aAw hx0 hm
    exact ts_X10_layMoves_2 aG nG pJ vZ xT yD xZ hpost ih x1 uE aBK aAw hx0 (by omega)
set_option maxHeartbeats 8000000 in
set_option maxRecDepth 200000 in
theorem t_X10_layMoves {post : (Nat → Int32) → Prop} {aG : Int32} {nG pJ uE : Nat → Int32} (vZ : 0 ≤ Int32.toInt aG ∧ Int32.toInt aG ≤ 8) (xT : ∀ k : Nat, 0 ≤ Int32.toInt (nG k) ∧ Int32.toInt (nG k) ≤ 99) (yD : ∀ k : Nat, k = 4 → 1 ≤ Int32.toInt (pJ k) ∧ Int32.toInt (pJ k) ≤ 30) (xZ : ∀ k : Nat, k = 3 → 0 ≤ Int32.toInt (pJ k) ∧ Int32.toInt (pJ k) ≤ 9) (aAw : ∀ k : Nat, 0 ≤ Int32.toInt (uE k) ∧ Int32.toInt (uE k) ≤ 1000000) (hpost : ∀ (aCX : Nat → Int32), (∀ k : Nat, 0 ≤ Int32.toInt (aCX k) ∧ Int32.toInt (aCX k) ≤ 1000000) → (MVT aCX nG pJ aG) → post aCX) : wp_X10_layMoves post aG nG pJ uE := by
  have l0 := aE0
  exact ⟨258, tb_X10_layMoves_2 aG nG pJ vZ xT yD xZ hpost _ 0 uE (by omega) aAw (by first | assumption | exact MVa_0 (by omega) | exact MVa_s (by assumption) (by omega) (by omega) (by omega)) (by omega)⟩
