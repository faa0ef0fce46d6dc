set_option maxHeartbeats 8000000 in
set_option maxRecDepth 200000 in
theorem t_X9_sheet {post : Int32 → (Nat → Int32) → Prop} {p0 p1 p2 p3 dN : Int32} {pL : Nat → Int32} (xL : 0 ≤ Int32.toInt dN ∧ Int32.toInt dN ≤ 16) (hpost : ∀ (r : Int32) (aJW : Nat → Int32), post r aJW) : wp_X9_sheet post p0 p1 p2 p3 dN pL := by
  have l0 := aE0
  have l1 := li_16
  have l2 := li_2
  have l3 := li_3
  have f2 := aAT p0
  refine And.intro (fun c1 => ?_) (fun c1 => ?_)
  · skip
    have c1 := (aAd _ _).mp c1
    exact hpost _ _ 
  · skip
    have c1 := mt (aAd _ _).mpr c1
    refine And.intro (fun c3 => ?_) (fun c3 => ?_)
    · skip
      have c3 := (aAd _ _).mp c3
      exact hpost _ _ 
    · skip
      have c3 := mt (aAd _ _).mpr c3
      have f5 := aAT p1
      refine And.intro (fun c4 => ?_) (fun c4 => ?_)
      · skip
        have c4 := (aAO _ _).mp c4
        refine And.intro (fun c6 => ?_) (fun c6 => ?_)
        · skip
          have c6 := mt (zJ _ _).mpr c6
          refine And.intro (fun c7 => ?_) (fun c7 => ?_)
          · skip
            have c7 := (aAO _ _).mp c7
            refine t_X3_fillWorths (by omega) (by omega) xL (fun r9 tr_worth_8 => ?_)
            exact hpost _ _ 
          · skip
            have c7 := mt (aAO _ _).mpr c7
            exact hpost _ _ 
        · skip
          have c6 := (zJ _ _).mp c6
          refine t_X3_fillWorths (by omega) (by omega) xL (fun r11 tr_worth_10 => ?_)
          exact hpost _ _ 
      · skip
        have c4 := mt (aAO _ _).mpr c4
        exact hpost _ _ 
set_option maxHeartbeats 8000000 in
set_option maxRecDepth 200000 in
theorem ts_X0_setLadder_81 {post : Int32 → Int32 → Int32 → Int32 → Int32 → Prop} (bD : Int32) (mX oE dY : Nat → Int32) (wX : 0 ≤ Int32.toInt bD ∧ Int32.toInt bD ≤ 8) (hpost : ∀ (r : Int32) (aHN : Int32) (aGq : Int32) (aCx : Int32) (aFi : Int32), (-1 ≤ Int32.toInt aCx ∧ Int32.toInt aCx ≤ 7) → post r aHN aGq aCx aFi) (x1 x2 jE eW fY nU : Int32) (aBK : 0 ≤ Int32.toInt x1 ∧ Int32.toInt x1 ≤ 7) (aAC : -1 ≤ Int32.toInt fY ∧ Int32.toInt fY ≤ 7) : bBw post bD mX oE dY x1 x2 jE eW fY nU := by
  have l0 := li_9999
  intro v1 ev1
  intro v2 ev2
  have hv2 := congrArg Int32.toInt ev2
  intro v4 ev4
  have f5 := aAT (if v2 < 9999 then v2 else 9999)
  have f7 := aAT v2
  have f6 := ti_min (9999 : Int32) v2
  have hv4 := congrArg Int32.toInt ev4
  exact hpost _ _ _ _ _ (by omega)
set_option maxHeartbeats 8000000 in
set_option maxRecDepth 200000 in
theorem t_X0_setLadder {post : Int32 → Int32 → Int32 → Int32 → Int32 → Prop} {p0 bD : Int32} {mX oE dY : Nat → Int32} {jE eW fY nU : Int32} (wX : 0 ≤ Int32.toInt bD ∧ Int32.toInt bD ≤ 8) (aAC : -1 ≤ Int32.toInt fY ∧ Int32.toInt fY ≤ 7) (hpost : ∀ (r : Int32) (aHN : Int32) (aGq : Int32) (aCx : Int32) (aFi : Int32), (-1 ≤ Int32.toInt aCx ∧ Int32.toInt aCx ≤ 7) → post r aHN aGq aCx aFi) : wp_X0_setLadder post p0 bD mX oE dY jE eW fY nU := by
  have l0 := aI2
  have l1 := aE0
  have l2 := li_3
  have l3 := li_9
  have f9 := aAT p0
  refine And.intro (fun c8 => ?_) (fun c8 => ?_)
  · skip
    have c8 := (aAd _ _).mp c8
    refine And.intro (fun h9 => absurd h9 (by decide)) (fun _ => ?_)
    exact hpost _ _ _ _ _ aAC
  · skip
    have c8 := mt (aAd _ _).mpr c8
    refine And.intro (fun c10 => ?_) (fun c10 => ?_)
    · skip
      have c10 := (aAO _ _).mp c10
      refine And.intro (fun h9 => absurd h9 (by decide)) (fun _ => ?_)
      exact hpost _ _ _ _ _ aAC
    · skip
      have c10 := mt (aAO _ _).mpr c10
      refine And.intro (fun _ => ?_) (fun h9 => absurd h9 (by decide))
      refine And.intro (fun c11 => ?_) (fun c11 => ?_)
      · skip
        have c11 := mt (zJ _ _).mpr c11
        refine And.intro (fun c12 => ?_) (fun c12 => ?_)
        · skip
          have c12 := mt (zJ _ _).mpr c12
          intro v13 ev13
          have hv13 := congrArg Int32.toInt ev13
          refine And.intro (aBZ (by omega)) ?_
          intro v15 ev15
          have hv15 := congrArg Int32.toInt ev15
          refine And.intro (aBZ (by omega)) ?_
          intro v17 ev17
          have hv17 := congrArg Int32.toInt ev17
          intro v19 ev19
          have hv19 := congrArg Int32.toInt ev19
          have f22 := aAT jE
          refine And.intro (fun c21 => ?_) (fun c21 => ?_)
          · skip
            have c21 := (zJ _ _).mp c21
            have f24 := aAT eW
            have f25 := aAT nU
            exact ts_X0_setLadder_81 bD mX oE dY wX hpost p0 (9 + (v13 * v19)) jE eW fY nU (by omega) aAC
          · skip
            have c21 := mt (zJ _ _).mpr c21
            refine And.intro (fun c26 => ?_) (fun c26 => ?_)
            · skip
              have c26 := (zJ _ _).mp c26
              exfalso; omega
            · skip
              have c26 := mt (zJ _ _).mpr c26
              refine And.intro (aBZ (by omega)) ?_
              intro v27 ev27
              have hv27 := congrArg Int32.toInt ev27
              intro v29 ev29
              have hv29 := congrArg Int32.toInt ev29
              intro v31 ev31
              have hv31 := congrArg Int32.toInt ev31
              have f33 := aAT v31
              have f34 := aAT eW
              have f35 := aAT nU
              exact ts_X0_setLadder_81 bD mX oE dY wX hpost p0 v31 jE eW fY nU (by omega) aAC
        · skip
          have c12 := (zJ _ _).mp c12
          have f37 := aAT jE
          refine And.intro (fun c36 => ?_) (fun c36 => ?_)
          · skip
            have c36 := (zJ _ _).mp c36
            have f38 := aAT eW
            have f39 := aAT nU
            exact ts_X0_setLadder_81 bD mX oE dY wX hpost p0 9 jE eW fY nU (by omega) aAC
          · skip
            have c36 := mt (zJ _ _).mpr c36
            refine And.intro (fun c40 => ?_) (fun c40 => ?_)
            · skip
              have c40 := (zJ _ _).mp c40
              have f41 := aAT eW
              have f42 := aAT nU
              exact ts_X0_setLadder_81 bD mX oE dY wX hpost p0 9 jE eW fY nU (by omega) aAC
            · skip
              have c40 := mt (zJ _ _).mpr c40
              exfalso; omega
      · skip
        have c11 := (zJ _ _).mp c11
        exact hpost _ _ _ _ _ aAC
set_option maxHeartbeats 8000000 in
set_option maxRecDepth 200000 in
theorem t_X9_move {post : Int32 → Int32 → Int32 → Int32 → Int32 → Int32 → Int32 → (Nat → Int32) → Prop} {p0 bD : Int32} {mX oE dY : Nat → Int32} {jE eW eY dU fY gJ jG nU pR uM : Int32} {tD : Nat → Int32} (wX : 0 ≤ Int32.toInt bD ∧ Int32.toInt bD ≤ 8) (aAC : -1 ≤ Int32.toInt fY ∧ Int32.toInt fY ≤ 7) (zK : 0 ≤ Int32.toInt jG ∧ Int32.toInt jG ≤ 9) (aAr : 0 ≤ Int32.toInt pR ∧ Int32.toInt pR ≤ 12) (aBy : 0 ≤ Int32.toInt uM ∧ Int32.toInt uM ≤ 12) (aBF : ∀ k : Nat, k % 8 = 4 → -1 ≤ Int32.toInt (tD k) ∧ Int32.toInt (tD k) ≤ 7) (aBG : ∀ k : Nat, k % 8 = 6 → 0 ≤ Int32.toInt (tD k) ∧ Int32.toInt (tD k) ≤ 9) (hpost : ∀ (r : Int32) (aHN : Int32) (aGq : Int32) (aCx : Int32) (aFi : Int32) (aBa : Int32) (aEN : Int32) (aCN : Nat → Int32), (-1 ≤ Int32.toInt aCx ∧ Int32.toInt aCx ≤ 7) → (0 ≤ Int32.toInt aBa ∧ Int32.toInt aBa ≤ 12) → (0 ≤ Int32.toInt aEN ∧ Int32.toInt aEN ≤ 12) → (∀ k : Nat, k % 8 = 4 → -1 ≤ Int32.toInt (aCN k) ∧ Int32.toInt (aCN k) ≤ 7) → (∀ k : Nat, k % 8 = 6 → 0 ≤ Int32.toInt (aCN k) ∧ Int32.toInt (aCN k) ≤ 9) → post r aHN aGq aCx aFi aBa aEN aCN) : wp_X9_move post p0 bD mX oE dY jE eW eY dU fY gJ jG nU pR uM tD := by
  have l0 := aE0
  have l1 := aEc
  have l2 := li_104
  have l3 := li_12
  have l4 := li_13
  have l5 := li_2
  have l6 := li_3
  have l7 := li_4
  have l8 := li_5
  have l9 := li_6
  have l10 := li_7
  have l11 := li_8
  intro v1 ev1
  have f2 : Int32.toInt (uM * 8) = Int32.toInt uM * 8 := ta_mulc _ _ (by decide) (by omega)
  rw [← ev1] at f2
  refine And.intro (fun c3 => ?_) (fun c3 => ?_)
  · skip
    have c3 := (aAd _ _).mp c3
    exfalso; omega
  · skip
    have c3 := mt (aAd _ _).mpr c3
    have f5 : Int32.toInt (104 - 8) = Int32.toInt (104 : Int32) - Int32.toInt (8 : Int32) := aCA _ _ (by omega)
    refine And.intro (fun c4 => ?_) (fun c4 => ?_)
    · skip
      have c4 := (aAO _ _).mp c4
      refine And.intro (aBZ (by omega)) ?_
      have f7 := aAT jE
      have e6 : ∀ k : Nat, k % 8 = 4 → -1 ≤ Int32.toInt ((upd tD v1.toNatClampNeg jE) k) ∧ Int32.toInt ((upd tD v1.toNatClampNeg jE) k) ≤ 7 := aCJ (C := fun k => k % 8 = 4) aBF (fun hk => by have e9 : v1.toNatClampNeg = (Int32.toInt v1).toNat := rfl; have hk : v1.toNatClampNeg % 8 = 4 := hk; omega)
      have e8 : ∀ k : Nat, k % 8 = 6 → 0 ≤ Int32.toInt ((upd tD v1.toNatClampNeg jE) k) ∧ Int32.toInt ((upd tD v1.toNatClampNeg jE) k) ≤ 9 := aCJ (C := fun k => k % 8 = 6) aBG (fun hk => by have e9 : v1.toNatClampNeg = (Int32.toInt v1).toNat := rfl; have hk : v1.toNatClampNeg % 8 = 6 := hk; omega)
      intro v9 ev9
      have f10 : Int32.toInt (v1 + 1) = Int32.toInt v1 + Int32.toInt (1 : Int32) := aAD _ _ (by omega)
      rw [← ev9] at f10
      refine And.intro (aBZ (by omega)) ?_
      have f12 := aAT eW
      have e11 : ∀ k : Nat, k % 8 = 4 → -1 ≤ Int32.toInt ((upd (upd tD v1.toNatClampNeg jE) v9.toNatClampNeg eW) k) ∧ Int32.toInt ((upd (upd tD v1.toNatClampNeg jE) v9.toNatClampNeg eW) k) ≤ 7 := aCJ (C := fun k => k % 8 = 4) e6 (fun hk => by have e9 : v9.toNatClampNeg = (Int32.toInt v9).toNat := rfl; have hk : v9.toNatClampNeg % 8 = 4 := hk; omega)
      have e13 : ∀ k : Nat, k % 8 = 6 → 0 ≤ Int32.toInt ((upd (upd tD v1.toNatClampNeg jE) v9.toNatClampNeg eW) k) ∧ Int32.toInt ((upd (upd tD v1.toNatClampNeg jE) v9.toNatClampNeg eW) k) ≤ 9 := aCJ (C := fun k => k % 8 = 6) e8 (fun hk => by have e9 : v9.toNatClampNeg = (Int32.toInt v9).toNat := rfl; have hk : v9.toNatClampNeg % 8 = 6 := hk; omega)
      intro v14 ev14
      have f15 : Int32.toInt (v1 + 2) = Int32.toInt v1 + Int32.toInt (2 : Int32) := aAD _ _ (by omega)
      rw [← ev14] at f15
      refine And.intro (aBZ (by omega)) ?_
      have f17 := aAT eY
      have e16 : ∀ k : Nat, k % 8 = 4 → -1 ≤ Int32.toInt ((upd (upd (upd tD v1.toNatClampNeg jE) v9.toNatClampNeg eW) v14.toNatClampNeg eY) k) ∧ Int32.toInt ((upd (upd (upd tD v1.toNatClampNeg jE) v9.toNatClampNeg eW) v14.toNatClampNeg eY) k) ≤ 7 := aCJ (C := fun k => k % 8 = 4) e11 (fun hk => by have e9 : v14.toNatClampNeg = (Int32.toInt v14).toNat := rfl; have hk : v14.toNatClampNeg % 8 = 4 := hk; omega)
      have e18 : ∀ k : Nat, k % 8 = 6 → 0 ≤ Int32.toInt ((upd (upd (upd tD v1.toNatClampNeg jE) v9.toNatClampNeg eW) v14.toNatClampNeg eY) k) ∧ Int32.toInt ((upd (upd (upd tD v1.toNatClampNeg jE) v9.toNatClampNeg eW) v14.toNatClampNeg eY) k) ≤ 9 := aCJ (C := fun k => k % 8 = 6) e13 (fun hk => by have e9 : v14.toNatClampNeg = (Int32.toInt v14).toNat := rfl; have hk : v14.toNatClampNeg % 8 = 6 := hk; omega)
      intro v19 ev19
      have f20 : Int32.toInt (v1 + 3) = Int32.toInt v1 + Int32.toInt (3 : Int32) := aAD _ _ (by omega)
      rw [← ev19] at f20
      refine And.intro (aBZ (by omega)) ?_
      have f22 := aAT dU
      have e21 : ∀ k : Nat, k % 8 = 4 → -1 ≤ Int32.toInt ((upd (upd (upd (upd tD v1.toNatClampNeg jE) v9.toNatClampNeg eW) v14.toNatClampNeg eY) v19.toNatClampNeg dU) k) ∧ Int32.toInt ((upd (upd (upd (upd tD v1.toNatClampNeg jE) v9.toNatClampNeg eW) v14.toNatClampNeg eY) v19.toNatClampNeg dU) k) ≤ 7 := aCJ (C := fun k => k % 8 = 4) e16 (fun hk => by have e9 : v19.toNatClampNeg = (Int32.toInt v19).toNat := rfl; have hk : v19.toNatClampNeg % 8 = 4 := hk; omega)
      have e23 : ∀ k : Nat, k % 8 = 6 → 0 ≤ Int32.toInt ((upd (upd (upd (upd tD v1.toNatClampNeg jE) v9.toNatClampNeg eW) v14.toNatClampNeg eY) v19.toNatClampNeg dU) k) ∧ Int32.toInt ((upd (upd (upd (upd tD v1.toNatClampNeg jE) v9.toNatClampNeg eW) v14.toNatClampNeg eY) v19.toNatClampNeg dU) k) ≤ 9 := aCJ (C := fun k => k % 8 = 6) e18 (fun hk => by have e9 : v19.toNatClampNeg = (Int32.toInt v19).toNat := rfl; have hk : v19.toNatClampNeg % 8 = 6 := hk; omega)
      intro v24 ev24
      have f25 : Int32.toInt (v1 + 4) = Int32.toInt v1 + Int32.toInt (4 : Int32) := aAD _ _ (by omega)
      rw [← ev24] at f25
      refine And.intro (aBZ (by omega)) ?_
      have e26 : ∀ k : Nat, k % 8 = 4 → -1 ≤ Int32.toInt ((upd (upd (upd (upd (upd tD v1.toNatClampNeg jE) v9.toNatClampNeg eW) v14.toNatClampNeg eY) v19.toNatClampNeg dU) v24.toNatClampNeg fY) k) ∧ Int32.toInt ((upd (upd (upd (upd (upd tD v1.toNatClampNeg jE) v9.toNatClampNeg eW) v14.toNatClampNeg eY) v19.toNatClampNeg dU) v24.toNatClampNeg fY) k) ≤ 7 := aCJ (C := fun k => k % 8 = 4) e21 (fun hk => by have e9 : v24.toNatClampNeg = (Int32.toInt v24).toNat := rfl; have hk : v24.toNatClampNeg % 8 = 4 := hk; omega)
      have e27 : ∀ k : Nat, k % 8 = 6 → 0 ≤ Int32.toInt ((upd (upd (upd (upd (upd tD v1.toNatClampNeg jE) v9.toNatClampNeg eW) v14.toNatClampNeg eY) v19.toNatClampNeg dU) v24.toNatClampNeg fY) k) ∧ Int32.toInt ((upd (upd (upd (upd (upd tD v1.toNatClampNeg jE) v9.toNatClampNeg eW) v14.toNatClampNeg eY) v19.toNatClampNeg dU) v24.toNatClampNeg fY) k) ≤ 9 := aCJ (C := fun k => k % 8 = 6) e23 (fun hk => by have e9 : v24.toNatClampNeg = (Int32.toInt v24).toNat := rfl; have hk : v24.toNatClampNeg % 8 = 6 := hk; omega)
      intro v28 ev28
      have f29 : Int32.toInt (v1 + 5) = Int32.toInt v1 + Int32.toInt (5 : Int32) := aAD _ _ (by omega)
      rw [← ev28] at f29
      refine And.intro (aBZ (by omega)) ?_
      have f31 := aAT gJ
      have e30 : ∀ k : Nat, k % 8 = 4 → -1 ≤ Int32.toInt ((upd (upd (upd (upd (upd (upd tD v1.toNatClampNeg jE) v9.toNatClampNeg eW) v14.toNatClampNeg eY) v19.toNatClampNeg dU) v24.toNatClampNeg fY) v28.toNatClampNeg gJ) k) ∧ Int32.toInt ((upd (upd (upd (upd (upd (upd tD v1.toNatClampNeg jE) v9.toNatClampNeg eW) v14.toNatClampNeg eY) v19.toNatClampNeg dU) v24.toNatClampNeg fY) v28.toNatClampNeg gJ) k) ≤ 7 := aCJ (C := fun k => k % 8 = 4) e26 (fun hk => by have e9 : v28.toNatClampNeg = (Int32.toInt v28).toNat := rfl; have hk : v28.toNatClampNeg % 8 = 4 := hk; omega)
      have e32 : ∀ k : Nat, k % 8 = 6 → 0 ≤ Int32.toInt ((upd (upd (upd (upd (upd (upd tD v1.toNatClampNeg jE) v9.toNatClampNeg eW) v14.toNatClampNeg eY) v19.toNatClampNeg dU) v24.toNatClampNeg fY) v28.toNatClampNeg gJ) k) ∧ Int32.toInt ((upd (upd (upd (upd (upd (upd tD v1.toNatClampNeg jE) v9.toNatClampNeg eW) v14.toNatClampNeg eY) v19.toNatClampNeg dU) v24.toNatClampNeg fY) v28.toNatClampNeg gJ) k) ≤ 9 := aCJ (C := fun k => k % 8 = 6) e27 (fun hk => by have e9 : v28.toNatClampNeg = (Int32.toInt v28).toNat := rfl; have hk : v28.toNatClampNeg % 8 = 6 := hk; omega)
      intro v33 ev33
      have f34 : Int32.toInt (v1 + 6) = Int32.toInt v1 + Int32.toInt (6 : Int32) := aAD _ _ (by omega)
      rw [← ev33] at f34
      refine And.intro (aBZ (by omega)) ?_
      have e35 : ∀ k : Nat, k % 8 = 4 → -1 ≤ Int32.toInt ((upd (upd (upd (upd (upd (upd (upd tD v1.toNatClampNeg jE) v9.toNatClampNeg eW) v14.toNatClampNeg eY) v19.toNatClampNeg dU) v24.toNatClampNeg fY) v28.toNatClampNeg gJ) v33.toNatClampNeg jG) k) ∧ Int32.toInt ((upd (upd (upd (upd (upd (upd (upd tD v1.toNatClampNeg jE) v9.toNatClampNeg eW) v14.toNatClampNeg eY) v19.toNatClampNeg dU) v24.toNatClampNeg fY) v28.toNatClampNeg gJ) v33.toNatClampNeg jG) k) ≤ 7 := aCJ (C := fun k => k % 8 = 4) e30 (fun hk => by have e9 : v33.toNatClampNeg = (Int32.toInt v33).toNat := rfl; have hk : v33.toNatClampNeg % 8 = 4 := hk; omega)
      have e36 : ∀ k : Nat, k % 8 = 6 → 0 ≤ Int32.toInt ((upd (upd (upd (upd (upd (upd (upd tD v1.toNatClampNeg jE) v9.toNatClampNeg eW) v14.toNatClampNeg eY) v19.toNatClampNeg dU) v24.toNatClampNeg fY) v28.toNatClampNeg gJ) v33.toNatClampNeg jG) k) ∧ Int32.toInt ((upd (upd (upd (upd (upd (upd (upd tD v1.toNatClampNeg jE) v9.toNatClampNeg eW) v14.toNatClampNeg eY) v19.toNatClampNeg dU) v24.toNatClampNeg fY) v28.toNatClampNeg gJ) v33.toNatClampNeg jG) k) ≤ 9 := aCJ (C := fun k => k % 8 = 6) e32 (fun hk => by have e9 : v33.toNatClampNeg = (Int32.toInt v33).toNat := rfl; have hk : v33.toNatClampNeg % 8 = 6 := hk; omega)
      intro v37 ev37
      have f38 : Int32.toInt (v1 + 7) = Int32.toInt v1 + Int32.toInt (7 : Int32) := aAD _ _ (by omega)
      rw [← ev37] at f38
      refine And.intro (aBZ (by omega)) ?_
      have f40 := aAT nU
      have e39 : ∀ k : Nat, k % 8 = 4 → -1 ≤ Int32.toInt ((upd (upd (upd (upd (upd (upd (upd (upd tD v1.toNatClampNeg jE) v9.toNatClampNeg eW) v14.toNatClampNeg eY) v19.toNatClampNeg dU) v24.toNatClampNeg fY) v28.toNatClampNeg gJ) v33.toNatClampNeg jG) v37.toNatClampNeg nU) k) ∧ Int32.toInt ((upd (upd (upd (upd (upd (upd (upd (upd tD v1.toNatClampNeg jE) v9.toNatClampNeg eW) v14.toNatClampNeg eY) v19.toNatClampNeg dU) v24.toNatClampNeg fY) v28.toNatClampNeg gJ) v33.toNatClampNeg jG) v37.toNatClampNeg nU) k) ≤ 7 := aCJ (C := fun k => k % 8 = 4) e35 (fun hk => by have e9 : v37.toNatClampNeg = (Int32.toInt v37).toNat := rfl; have hk : v37.toNatClampNeg % 8 = 4 := hk; omega)
      have e41 : ∀ k : Nat, k % 8 = 6 → 0 ≤ Int32.toInt ((upd (upd (upd (upd (upd (upd (upd (upd tD v1.toNatClampNeg jE) v9.toNatClampNeg eW) v14.toNatClampNeg eY) v19.toNatClampNeg dU) v24.toNatClampNeg fY) v28.toNatClampNeg gJ) v33.toNatClampNeg jG) v37.toNatClampNeg nU) k) ∧ Int32.toInt ((upd (upd (upd (upd (upd (upd (upd (upd tD v1.toNatClampNeg jE) v9.toNatClampNeg eW) v14.toNatClampNeg eY) v19.toNatClampNeg dU) v24.toNatClampNeg fY) v28.toNatClampNeg gJ) v33.toNatClampNeg jG) v37.toNatClampNeg nU) k) ≤ 9 := aCJ (C := fun k => k % 8 = 6) e36 (fun hk => by have e9 : v37.toNatClampNeg = (Int32.toInt v37).toNat := rfl; have hk : v37.toNatClampNeg % 8 = 6 := hk; omega)
      refine t_X0_setLadder wX aAC (fun r46 no_apron_42 no_basket_43 no_ladder_44 no_clock_45 h_no_ladder_44 => ?_)
      have f48 := aAT r46
      refine And.intro (fun c47 => ?_) (fun c47 => ?_)
      · skip
        have c47 := (aAd _ _).mp c47
        exact hpost _ _ _ _ _ _ _ _ h_no_ladder_44 aAr aBy e39 e41
      · skip
        have c47 := mt (aAd _ _).mpr c47
        intro v49 ev49
        have f50 : Int32.toInt (uM + 1) = Int32.toInt uM + Int32.toInt (1 : Int32) := aAD _ _ (by omega)
        rw [← ev49] at f50
        intro v51 ev51
        have f52 : Int32.toInt (v49 - v49 / 13 * 13) = Int32.toInt v49 % 13 := ti_rem _ _ (by decide) (by omega) (by decide)
        rw [← ev51] at f52
        intro v53 ev53
        have f54 : Int32.toInt (pR + 1) = Int32.toInt pR + Int32.toInt (1 : Int32) := aAD _ _ (by omega)
        rw [← ev53] at f54
        intro v55 ev55
        have f56 := ti_min (12 : Int32) v53
        have hv55 := congrArg Int32.toInt ev55
        exact hpost _ _ _ _ _ _ _ _ h_no_ladder_44 (by omega) (by omega) e39 e41
    · skip
      have c4 := mt (aAO _ _).mpr c4
      exfalso; omega
set_option maxHeartbeats 8000000 in
set_option maxRecDepth 200000 in
theorem ts_X9_isYesOrNo_9 {post : Int32 → Prop} (hpost : ∀ (r : Int32) , (0 ≤ Int32.toInt r ∧ Int32.toInt r ≤ 1) → post r) : ws_X9_isYesOrNo_9 post := by
  have l0 := aEc
  exact hpost _ (by omega)
set_option maxHeartbeats 8000000 in
set_option maxRecDepth 200000 in
theorem t_X9_isYesOrNo {post : Int32 → Prop} {p0 : Int32} (hpost : ∀ (r : Int32) , (0 ≤ Int32.toInt r ∧ Int32.toInt r ≤ 1) → post r) : aY9 post p0 := by
  have l0 := aE0
  have l1 := aEc
  have f2 := aAT p0
  refine And.intro (fun c1 => ?_) (fun c1 => ?_)
  · skip
    have c1 := (zJ _ _).mp c1
    exact ts_X9_isYesOrNo_9 hpost 
  · skip
    have c1 := mt (zJ _ _).mpr c1
    refine And.intro (fun c3 => ?_) (fun c3 => ?_)
    · skip
      have c3 := mt (zJ _ _).mpr c3
      exact hpost _ (by omega)
    · skip
      have c3 := (zJ _ _).mp c3
      exact ts_X9_isYesOrNo_9 hpost 
set_option maxHeartbeats 8000000 in
set_option maxRecDepth 200000 in
theorem t_X9_foot {post : Int32 → Int32 → Int32 → Int32 → (Nat → Int32) → Prop} {p0 jE eW eY dU fY gJ jG nU pR uM : Int32} {tD : Nat → Int32} (aAC : -1 ≤ Int32.toInt fY ∧ Int32.toInt fY ≤ 7) (zK : 0 ≤ Int32.toInt jG ∧ Int32.toInt jG ≤ 9) (aAr : 0 ≤ Int32.toInt pR ∧ Int32.toInt pR ≤ 12) (aBy : 0 ≤ Int32.toInt uM ∧ Int32.toInt uM ≤ 12) (aBF : ∀ k : Nat, k % 8 = 4 → -1 ≤ Int32.toInt (tD k) ∧ Int32.toInt (tD k) ≤ 7) (aBG : ∀ k : Nat, k % 8 = 6 → 0 ≤ Int32.toInt (tD k) ∧ Int32.toInt (tD k) ≤ 9) (hpost : ∀ (r : Int32) (aI5 : Int32) (aBa : Int32) (aEN : Int32) (aCN : Nat → Int32), (0 ≤ Int32.toInt aBa ∧ Int32.toInt aBa ≤ 12) → (0 ≤ Int32.toInt aEN ∧ Int32.toInt aEN ≤ 12) → (∀ k : Nat, k % 8 = 4 → -1 ≤ Int32.toInt (aCN k) ∧ Int32.toInt (aCN k) ≤ 7) → (∀ k : Nat, k % 8 = 6 → 0 ≤ Int32.toInt (aCN k) ∧ Int32.toInt (aCN k) ≤ 9) → post r aI5 aBa aEN aCN) : wp_X9_foot post p0 jE eW eY dU fY gJ jG nU pR uM tD := by
  have l0 := aE0
  have l1 := aEc
  have l2 := li_104
  have l3 := li_12
  have l4 := li_13
  have l5 := li_2
  have l6 := li_3
  have l7 := li_4
  have l8 := li_5
  have l9 := li_6
  have l10 := li_7
  have l11 := li_8
  intro v1 ev1
  have f2 : Int32.toInt (uM * 8) = Int32.toInt uM * 8 := ta_mulc _ _ (by decide) (by omega)
  rw [← ev1] at f2
  refine And.intro (fun c3 => ?_) (fun c3 => ?_)
  · skip
    have c3 := (aAd _ _).mp c3
    exfalso; omega
  · skip
    have c3 := mt (aAd _ _).mpr c3
    have f5 : Int32.toInt (104 - 8) = Int32.toInt (104 : Int32) - Int32.toInt (8 : Int32) := aCA _ _ (by omega)
    refine And.intro (fun c4 => ?_) (fun c4 => ?_)
    · skip
      have c4 := (aAO _ _).mp c4
      refine And.intro (aBZ (by omega)) ?_
      have f7 := aAT jE
      have e6 : ∀ k : Nat, k % 8 = 4 → -1 ≤ Int32.toInt ((upd tD v1.toNatClampNeg jE) k) ∧ Int32.toInt ((upd tD v1.toNatClampNeg jE) k) ≤ 7 := aCJ (C := fun k => k % 8 = 4) aBF (fun hk => by have e9 : v1.toNatClampNeg = (Int32.toInt v1).toNat := rfl; have hk : v1.toNatClampNeg % 8 = 4 := hk; omega)
      have e8 : ∀ k : Nat, k % 8 = 6 → 0 ≤ Int32.toInt ((upd tD v1.toNatClampNeg jE) k) ∧ Int32.toInt ((upd tD v1.toNatClampNeg jE) k) ≤ 9 := aCJ (C := fun k => k % 8 = 6) aBG (fun hk => by have e9 : v1.toNatClampNeg = (Int32.toInt v1).toNat := rfl; have hk : v1.toNatClampNeg % 8 = 6 := hk; omega)
      intro v9 ev9
      have f10 : Int32.toInt (v1 + 1) = Int32.toInt v1 + Int32.toInt (1 : Int32) := aAD _ _ (by omega)
      rw [← ev9] at f10
      refine And.intro (aBZ (by omega)) ?_
      have f12 := aAT eW
      have e11 : ∀ k : Nat, k % 8 = 4 → -1 ≤ Int32.toInt ((upd (upd tD v1.toNatClampNeg jE) v9.toNatClampNeg eW) k) ∧ Int32.toInt ((upd (upd tD v1.toNatClampNeg jE) v9.toNatClampNeg eW) k) ≤ 7 := aCJ (C := fun k => k % 8 = 4) e6 (fun hk => by have e9 : v9.toNatClampNeg = (Int32.toInt v9).toNat := rfl; have hk : v9.toNatClampNeg % 8 = 4 := hk; omega)
      have e13 : ∀ k : Nat, k % 8 = 6 → 0 ≤ Int32.toInt ((upd (upd tD v1.toNatClampNeg jE) v9.toNatClampNeg eW) k) ∧ Int32.toInt ((upd (upd tD v1.toNatClampNeg jE) v9.toNatClampNeg eW) k) ≤ 9 := aCJ (C := fun k => k % 8 = 6) e8 (fun hk => by have e9 : v9.toNatClampNeg = (Int32.toInt v9).toNat := rfl; have hk : v9.toNatClampNeg % 8 = 6 := hk; omega)
      intro v14 ev14
      have f15 : Int32.toInt (v1 + 2) = Int32.toInt v1 + Int32.toInt (2 : Int32) := aAD _ _ (by omega)
      rw [← ev14] at f15
      refine And.intro (aBZ (by omega)) ?_
      have f17 := aAT eY
      have e16 : ∀ k : Nat, k % 8 = 4 → -1 ≤ Int32.toInt ((upd (upd (upd tD v1.toNatClampNeg jE) v9.toNatClampNeg eW) v14.toNatClampNeg eY) k) ∧ Int32.toInt ((upd (upd (upd tD v1.toNatClampNeg jE) v9.toNatClampNeg eW) v14.toNatClampNeg eY) k) ≤ 7 := aCJ (C := fun k => k % 8 = 4) e11 (fun hk => by have e9 : v14.toNatClampNeg = (Int32.toInt v14).toNat := rfl; have hk : v14.toNatClampNeg % 8 = 4 := hk; omega)
      have e18 : ∀ k : Nat, k % 8 = 6 → 0 ≤ Int32.toInt ((upd (upd (upd tD v1.toNatClampNeg jE) v9.toNatClampNeg eW) v14.toNatClampNeg eY) k) ∧ Int32.toInt ((upd (upd (upd tD v1.toNatClampNeg jE) v9.toNatClampNeg eW) v14.toNatClampNeg eY) k) ≤ 9 := aCJ (C := fun k => k % 8 = 6) e13 (fun hk => by have e9 : v14.toNatClampNeg = (Int32.toInt v14).toNat := rfl; have hk : v14.toNatClampNeg % 8 = 6 := hk; omega)
      intro v19 ev19
      have f20 : Int32.toInt (v1 + 3) = Int32.toInt v1 + Int32.toInt (3 : Int32) := aAD _ _ (by omega)
      rw [← ev19] at f20
      refine And.intro (aBZ (by omega)) ?_
      have f22 := aAT dU
      have e21 : ∀ k : Nat, k % 8 = 4 → -1 ≤ Int32.toInt ((upd (upd (upd (upd tD v1.toNatClampNeg jE) v9.toNatClampNeg eW) v14.toNatClampNeg eY) v19.toNatClampNeg dU) k) ∧ Int32.toInt ((upd (upd (upd (upd tD v1.toNatClampNeg jE) v9.toNatClampNeg eW) v14.toNatClampNeg eY) v19.toNatClampNeg dU) k) ≤ 7 := aCJ (C := fun k => k % 8 = 4) e16 (fun hk => by have e9 : v19.toNatClampNeg = (Int32.toInt v19).toNat := rfl; have hk : v19.toNatClampNeg % 8 = 4 := hk; omega)
      have e23 : ∀ k : Nat, k % 8 = 6 → 0 ≤ Int32.toInt ((upd (upd (upd (upd tD v1.toNatClampNeg jE) v9.toNatClampNeg eW) v14.toNatClampNeg eY) v19.toNatClampNeg dU) k) ∧ Int32.toInt ((upd (upd (upd (upd tD v1.toNatClampNeg jE) v9.toNatClampNeg eW) v14.toNatClampNeg eY) v19.toNatClampNeg dU) k) ≤ 9 := aCJ (C := fun k => k % 8 = 6) e18 (fun hk => by have e9 : v19.toNatClampNeg = (Int32.toInt v19).toNat := rfl; have hk : v19.toNatClampNeg % 8 = 6 := hk; omega)
      intro v24 ev24
      have f25 : Int32.toInt (v1 + 4) = Int32.toInt v1 + Int32.toInt (4 : Int32) := aAD _ _ (by omega)
      rw [← ev24] at f25
      refine And.intro (aBZ (by omega)) ?_
      have e26 : ∀ k : Nat, k % 8 = 4 → -1 ≤ Int32.toInt ((upd (upd (upd (upd (upd tD v1.toNatClampNeg jE) v9.toNatClampNeg eW) v14.toNatClampNeg eY) v19.toNatClampNeg dU) v24.toNatClampNeg fY) k) ∧ Int32.toInt ((upd (upd (upd (upd (upd tD v1.toNatClampNeg jE) v9.toNatClampNeg eW) v14.toNatClampNeg eY) v19.toNatClampNeg dU) v24.toNatClampNeg fY) k) ≤ 7 := aCJ (C := fun k => k % 8 = 4) e21 (fun hk => by have e9 : v24.toNatClampNeg = (Int32.toInt v24).toNat := rfl; have hk : v24.toNatClampNeg % 8 = 4 := hk; omega)
      have e27 : ∀ k : Nat, k % 8 = 6 → 0 ≤ Int32.toInt ((upd (upd (upd (upd (upd tD v1.toNatClampNeg jE) v9.toNatClampNeg eW) v14.toNatClampNeg eY) v19.toNatClampNeg dU) v24.toNatClampNeg fY) k) ∧ Int32.toInt ((upd (upd (upd (upd (upd tD v1.toNatClampNeg jE) v9.toNatClampNeg eW) v14.toNatClampNeg eY) v19.toNatClampNeg dU) v24.toNatClampNeg fY) k) ≤ 9 := aCJ (C := fun k => k % 8 = 6) e23 (fun hk => by have e9 : v24.toNatClampNeg = (Int32.toInt v24).toNat := rfl; have hk : v24.toNatClampNeg % 8 = 6 := hk; omega)
      intro v28 ev28
      have f29 : Int32.toInt (v1 + 5) = Int32.toInt v1 + Int32.toInt (5 : Int32) := aAD _ _ (by omega)
      rw [← ev28] at f29
      refine And.intro (aBZ (by omega)) ?_
      have f31 := aAT gJ
      have e30 : ∀ k : Nat, k % 8 = 4 → -1 ≤ Int32.toInt ((upd (upd (upd (upd (upd (upd tD v1.toNatClampNeg jE) v9.toNatClampNeg eW) v14.toNatClampNeg eY) v19.toNatClampNeg dU) v24.toNatClampNeg fY) v28.toNatClampNeg gJ) k) ∧ Int32.toInt ((upd (upd (upd (upd (upd (upd tD v1.toNatClampNeg jE) v9.toNatClampNeg eW) v14.toNatClampNeg eY) v19.toNatClampNeg dU) v24.toNatClampNeg fY) v28.toNatClampNeg gJ) k) ≤ 7 := aCJ (C := fun k => k % 8 = 4) e26 (fun hk => by have e9 : v28.toNatClampNeg = (Int32.toInt v28).toNat := rfl; have hk : v28.toNatClampNeg % 8 = 4 := hk; omega)
      have e32 : ∀ k : Nat, k % 8 = 6 → 0 ≤ Int32.toInt ((upd (upd (upd (upd (upd (upd tD v1.toNatClampNeg jE) v9.toNatClampNeg eW) v14.toNatClampNeg eY) v19.toNatClampNeg dU) v24.toNatClampNeg fY) v28.toNatClampNeg gJ) k) ∧ Int32.toInt ((upd (upd (upd (upd (upd (upd tD v1.toNatClampNeg jE) v9.toNatClampNeg eW) v14.toNatClampNeg eY) v19.toNatClampNeg dU) v24.toNatClampNeg fY) v28.toNatClampNeg gJ) k) ≤ 9 := aCJ (C := fun k => k % 8 = 6) e27 (fun hk => by have e9 : v28.toNatClampNeg = (Int32.toInt v28).toNat := rfl; have hk : v28.toNatClampNeg % 8 = 6 := hk; omega)
      intro v33 ev33
      have f34 : Int32.toInt (v1 + 6) = Int32.toInt v1 + Int32.toInt (6 : Int32) := aAD _ _ (by omega)
      rw [← ev33] at f34
      refine And.intro (aBZ (by omega)) ?_
      have e35 : ∀ k : Nat, k % 8 = 4 → -1 ≤ Int32.toInt ((upd (upd (upd (upd (upd (upd (upd tD v1.toNatClampNeg jE) v9.toNatClampNeg eW) v14.toNatClampNeg eY) v19.toNatClampNeg dU) v24.toNatClampNeg fY) v28.toNatClampNeg gJ) v33.toNatClampNeg jG) k) ∧ Int32.toInt ((upd (upd (upd (upd (upd (upd (upd tD v1.toNatClampNeg jE) v9.toNatClampNeg eW) v14.toNatClampNeg eY) v19.toNatClampNeg dU) v24.toNatClampNeg fY) v28.toNatClampNeg gJ) v33.toNatClampNeg jG) k) ≤ 7 := aCJ (C := fun k => k % 8 = 4) e30 (fun hk => by have e9 : v33.toNatClampNeg = (Int32.toInt v33).toNat := rfl; have hk : v33.toNatClampNeg % 8 = 4 := hk; omega)
      have e36 : ∀ k : Nat, k % 8 = 6 → 0 ≤ Int32.toInt ((upd (upd (upd (upd (upd (upd (upd tD v1.toNatClampNeg jE) v9.toNatClampNeg eW) v14.toNatClampNeg eY) v19.toNatClampNeg dU) v24.toNatClampNeg fY) v28.toNatClampNeg gJ) v33.toNatClampNeg jG) k) ∧ Int32.toInt ((upd (upd (upd (upd (upd (upd (upd tD v1.toNatClampNeg jE) v9.toNatClampNeg eW) v14.toNatClampNeg eY) v19.toNatClampNeg dU) v24.toNatClampNeg fY) v28.toNatClampNeg gJ) v33.toNatClampNeg jG) k) ≤ 9 := aCJ (C := fun k => k % 8 = 6) e32 (fun hk => by have e9 : v33.toNatClampNeg = (Int32.toInt v33).toNat := rfl; have hk : v33.toNatClampNeg % 8 = 6 := hk; omega)
      intro v37 ev37
      have f38 : Int32.toInt (v1 + 7) = Int32.toInt v1 + Int32.toInt (7 : Int32) := aAD _ _ (by omega)
      rw [← ev37] at f38
      refine And.intro (aBZ (by omega)) ?_
      have f40 := aAT nU
      have e39 : ∀ k : Nat, k % 8 = 4 → -1 ≤ Int32.toInt ((upd (upd (upd (upd (upd (upd (upd (upd tD v1.toNatClampNeg jE) v9.toNatClampNeg eW) v14.toNatClampNeg eY) v19.toNatClampNeg dU) v24.toNatClampNeg fY) v28.toNatClampNeg gJ) v33.toNatClampNeg jG) v37.toNatClampNeg nU) k) ∧ Int32.toInt ((upd (upd (upd (upd (upd (upd (upd (upd tD v1.toNatClampNeg jE) v9.toNatClampNeg eW) v14.toNatClampNeg eY) v19.toNatClampNeg dU) v24.toNatClampNeg fY) v28.toNatClampNeg gJ) v33.toNatClampNeg jG) v37.toNatClampNeg nU) k) ≤ 7 := aCJ (C := fun k => k % 8 = 4) e35 (fun hk => by have e9 : v37.toNatClampNeg = (Int32.toInt v37).toNat := rfl; have hk : v37.toNatClampNeg % 8 = 4 := hk; omega)
      have e41 : ∀ k : Nat, k % 8 = 6 → 0 ≤ Int32.toInt ((upd (upd (upd (upd (upd (upd (upd (upd tD v1.toNatClampNeg jE) v9.toNatClampNeg eW) v14.toNatClampNeg eY) v19.toNatClampNeg dU) v24.toNatClampNeg fY) v28.toNatClampNeg gJ) v33.toNatClampNeg jG) v37.toNatClampNeg nU) k) ∧ Int32.toInt ((upd (upd (upd (upd (upd (upd (upd (upd tD v1.toNatClampNeg jE) v9.toNatClampNeg eW) v14.toNatClampNeg eY) v19.toNatClampNeg dU) v24.toNatClampNeg fY) v28.toNatClampNeg gJ) v33.toNatClampNeg jG) v37.toNatClampNeg nU) k) ≤ 9 := aCJ (C := fun k => k % 8 = 6) e36 (fun hk => by have e9 : v37.toNatClampNeg = (Int32.toInt v37).toNat := rfl; have hk : v37.toNatClampNeg % 8 = 6 := hk; omega)
      refine t_X9_isYesOrNo  (fun r42 h_r42 => ?_)
      refine And.intro (fun c43 => ?_) (fun c43 => ?_)
      · skip
        have c43 := mt (zJ _ _).mpr c43
        refine And.intro (fun c44 => ?_) (fun c44 => ?_)
        · skip
          have c44 := (aAd _ _).mp c44
          exact hpost _ _ _ _ _ aAr aBy e39 e41
        · skip
          have c44 := mt (aAd _ _).mpr c44
          intro v45 ev45
          have f46 : Int32.toInt (uM + 1) = Int32.toInt uM + Int32.toInt (1 : Int32) := aAD _ _ (by omega)
          rw [← ev45] at f46
          intro v47 ev47
          have f48 : Int32.toInt (v45 - v45 / 13 * 13) = Int32.toInt v45 % 13 := ti_rem _ _ (by decide) (by omega) (by decide)
          rw [← ev47] at f48
          intro v49 ev49
          have f50 : Int32.toInt (pR + 1) = Int32.toInt pR + Int32.toInt (1 : Int32) := aAD _ _ (by omega)
          rw [← ev49] at f50
          intro v51 ev51
          have f52 := ti_min (12 : Int32) v49
          have hv51 := congrArg Int32.toInt ev51
          exact hpost _ _ _ _ _ (by omega) (by omega) e39 e41
      · skip
        have c43 := (zJ _ _).mp c43
        refine And.intro (fun _ => ?_) (fun h9 => absurd h9 (by decide))
        exact hpost _ _ _ _ _ aAr aBy e39 e41
    · skip
      have c4 := mt (aAO _ _).mpr c4
      exfalso; omega
