set_option maxHeartbeats 8000000 in
set_option maxRecDepth 200000 in
theorem t_X9_sleep {post : Int32 → Int32 → Int32 → Int32 → Int32 → Int32 → Int32 → Int32 → (Nat → Int32) → Prop} {jE eW eY dU fY gJ jG nU pR uM : Int32} {tD : Nat → Int32} (aAC : -1 ≤ Int32.toInt fY ∧ Int32.toInt fY ≤ 7) (zK : 0 ≤ Int32.toInt jG ∧ Int32.toInt jG ≤ 9) (aAr : 0 ≤ Int32.toInt pR ∧ Int32.toInt pR ≤ 12) (aBy : 0 ≤ Int32.toInt uM ∧ Int32.toInt uM ≤ 12) (aBF : ∀ k : Nat, k % 8 = 4 → -1 ≤ Int32.toInt (tD k) ∧ Int32.toInt (tD k) ≤ 7) (aBG : ∀ k : Nat, k % 8 = 6 → 0 ≤ Int32.toInt (tD k) ∧ Int32.toInt (tD k) ≤ 9) (hpost : ∀ (r : Int32) (aHN : Int32) (aGq : Int32) (aCx : Int32) (aDz : Int32) (aFi : Int32) (aBa : Int32) (aEN : Int32) (aCN : Nat → Int32), (-1 ≤ Int32.toInt r ∧ Int32.toInt r ≤ 9) → (-1 ≤ Int32.toInt aCx ∧ Int32.toInt aCx ≤ 7) → (1 ≤ Int32.toInt aDz ∧ Int32.toInt aDz ≤ 9) → (0 ≤ Int32.toInt aBa ∧ Int32.toInt aBa ≤ 12) → (0 ≤ Int32.toInt aEN ∧ Int32.toInt aEN ≤ 12) → (∀ k : Nat, k % 8 = 4 → -1 ≤ Int32.toInt (aCN k) ∧ Int32.toInt (aCN k) ≤ 7) → (∀ k : Nat, k % 8 = 6 → 0 ≤ Int32.toInt (aCN k) ∧ Int32.toInt (aCN k) ≤ 9) → post r aHN aGq aCx aDz aFi aBa aEN aCN) : wp_X9_sleep post jE eW eY dU fY gJ jG nU pR uM tD := by
  have l0 := aI2
  have l1 := aE0
  have l2 := aEc
  have l3 := li_104
  have l4 := li_12
  have l5 := li_13
  have l6 := li_2
  have l7 := li_3
  have l8 := li_4
  have l9 := li_5
  have l10 := li_6
  have l11 := li_7
  have l12 := li_8
  have l13 := li_9
  intro v1 ev1
  have f2 : Int32.toInt (uM * 8) = Int32.toInt uM * 8 := ta_mulc _ _ (by decide) (by omega)
  rw [← ev1] at f2
  refine And.intro (fun c3 => ?_) (fun c3 => ?_)
  · skip
    have c3 := (aAd _ _).mp c3
    exfalso; omega
  · skip
    have c3 := mt (aAd _ _).mpr c3
    have f5 : Int32.toInt (104 - 8) = Int32.toInt (104 : Int32) - Int32.toInt (8 : Int32) := aCA _ _ (by omega)
    refine And.intro (fun c4 => ?_) (fun c4 => ?_)
    · skip
      have c4 := (aAO _ _).mp c4
      refine And.intro (aBZ (by omega)) ?_
      have f7 := aAT jE
      have e6 : ∀ k : Nat, k % 8 = 4 → -1 ≤ Int32.toInt ((upd tD v1.toNatClampNeg jE) k) ∧ Int32.toInt ((upd tD v1.toNatClampNeg jE) k) ≤ 7 := aCJ (C := fun k => k % 8 = 4) aBF (fun hk => by have e9 : v1.toNatClampNeg = (Int32.toInt v1).toNat := rfl; have hk : v1.toNatClampNeg % 8 = 4 := hk; omega)
      have e8 : ∀ k : Nat, k % 8 = 6 → 0 ≤ Int32.toInt ((upd tD v1.toNatClampNeg jE) k) ∧ Int32.toInt ((upd tD v1.toNatClampNeg jE) k) ≤ 9 := aCJ (C := fun k => k % 8 = 6) aBG (fun hk => by have e9 : v1.toNatClampNeg = (Int32.toInt v1).toNat := rfl; have hk : v1.toNatClampNeg % 8 = 6 := hk; omega)
      intro v9 ev9
      have f10 : Int32.toInt (v1 + 1) = Int32.toInt v1 + Int32.toInt (1 : Int32) := aAD _ _ (by omega)
      rw [← ev9] at f10
      refine And.intro (aBZ (by omega)) ?_
      have f12 := aAT eW
      have e11 : ∀ k : Nat, k % 8 = 4 → -1 ≤ Int32.toInt ((upd (upd tD v1.toNatClampNeg jE) v9.toNatClampNeg eW) k) ∧ Int32.toInt ((upd (upd tD v1.toNatClampNeg jE) v9.toNatClampNeg eW) k) ≤ 7 := aCJ (C := fun k => k % 8 = 4) e6 (fun hk => by have e9 : v9.toNatClampNeg = (Int32.toInt v9).toNat := rfl; have hk : v9.toNatClampNeg % 8 = 4 := hk; omega)
      have e13 : ∀ k : Nat, k % 8 = 6 → 0 ≤ Int32.toInt ((upd (upd tD v1.toNatClampNeg jE) v9.toNatClampNeg eW) k) ∧ Int32.toInt ((upd (upd tD v1.toNatClampNeg jE) v9.toNatClampNeg eW) k) ≤ 9 := aCJ (C := fun k => k % 8 = 6) e8 (fun hk => by have e9 : v9.toNatClampNeg = (Int32.toInt v9).toNat := rfl; have hk : v9.toNatClampNeg % 8 = 6 := hk; omega)
      intro v14 ev14
      have f15 : Int32.toInt (v1 + 2) = Int32.toInt v1 + Int32.toInt (2 : Int32) := aAD _ _ (by omega)
      rw [← ev14] at f15
      refine And.intro (aBZ (by omega)) ?_
      have f17 := aAT eY
      have e16 : ∀ k : Nat, k % 8 = 4 → -1 ≤ Int32.toInt ((upd (upd (upd tD v1.toNatClampNeg jE) v9.toNatClampNeg eW) v14.toNatClampNeg eY) k) ∧ Int32.toInt ((upd (upd (upd tD v1.toNatClampNeg jE) v9.toNatClampNeg eW) v14.toNatClampNeg eY) k) ≤ 7 := aCJ (C := fun k => k % 8 = 4) e11 (fun hk => by have e9 : v14.toNatClampNeg = (Int32.toInt v14).toNat := rfl; have hk : v14.toNatClampNeg % 8 = 4 := hk; omega)
      have e18 : ∀ k : Nat, k % 8 = 6 → 0 ≤ Int32.toInt ((upd (upd (upd tD v1.toNatClampNeg jE) v9.toNatClampNeg eW) v14.toNatClampNeg eY) k) ∧ Int32.toInt ((upd (upd (upd tD v1.toNatClampNeg jE) v9.toNatClampNeg eW) v14.toNatClampNeg eY) k) ≤ 9 := aCJ (C := fun k => k % 8 = 6) e13 (fun hk => by have e9 : v14.toNatClampNeg = (Int32.toInt v14).toNat := rfl; have hk : v14.toNatClampNeg % 8 = 6 := hk; omega)
      intro v19 ev19
      have f20 : Int32.toInt (v1 + 3) = Int32.toInt v1 + Int32.toInt (3 : Int32) := aAD _ _ (by omega)
      rw [← ev19] at f20
      refine And.intro (aBZ (by omega)) ?_
      have f22 := aAT dU
      have e21 : ∀ k : Nat, k % 8 = 4 → -1 ≤ Int32.toInt ((upd (upd (upd (upd tD v1.toNatClampNeg jE) v9.toNatClampNeg eW) v14.toNatClampNeg eY) v19.toNatClampNeg dU) k) ∧ Int32.toInt ((upd (upd (upd (upd tD v1.toNatClampNeg jE) v9.toNatClampNeg eW) v14.toNatClampNeg eY) v19.toNatClampNeg dU) k) ≤ 7 := aCJ (C := fun k => k % 8 = 4) e16 (fun hk => by have e9 : v19.toNatClampNeg = (Int32.toInt v19).toNat := rfl; have hk : v19.toNatClampNeg % 8 = 4 := hk; omega)
      have e23 : ∀ k : Nat, k % 8 = 6 → 0 ≤ Int32.toInt ((upd (upd (upd (upd tD v1.toNatClampNeg jE) v9.toNatClampNeg eW) v14.toNatClampNeg eY) v19.toNatClampNeg dU) k) ∧ Int32.toInt ((upd (upd (upd (upd tD v1.toNatClampNeg jE) v9.toNatClampNeg eW) v14.toNatClampNeg eY) v19.toNatClampNeg dU) k) ≤ 9 := aCJ (C := fun k => k % 8 = 6) e18 (fun hk => by have e9 : v19.toNatClampNeg = (Int32.toInt v19).toNat := rfl; have hk : v19.toNatClampNeg % 8 = 6 := hk; omega)
      intro v24 ev24
      have f25 : Int32.toInt (v1 + 4) = Int32.toInt v1 + Int32.toInt (4 : Int32) := aAD _ _ (by omega)
      rw [← ev24] at f25
      refine And.intro (aBZ (by omega)) ?_
      have e26 : ∀ k : Nat, k % 8 = 4 → -1 ≤ Int32.toInt ((upd (upd (upd (upd (upd tD v1.toNatClampNeg jE) v9.toNatClampNeg eW) v14.toNatClampNeg eY) v19.toNatClampNeg dU) v24.toNatClampNeg fY) k) ∧ Int32.toInt ((upd (upd (upd (upd (upd tD v1.toNatClampNeg jE) v9.toNatClampNeg eW) v14.toNatClampNeg eY) v19.toNatClampNeg dU) v24.toNatClampNeg fY) k) ≤ 7 := aCJ (C := fun k => k % 8 = 4) e21 (fun hk => by have e9 : v24.toNatClampNeg = (Int32.toInt v24).toNat := rfl; have hk : v24.toNatClampNeg % 8 = 4 := hk; omega)
      have e27 : ∀ k : Nat, k % 8 = 6 → 0 ≤ Int32.toInt ((upd (upd (upd (upd (upd tD v1.toNatClampNeg jE) v9.toNatClampNeg eW) v14.toNatClampNeg eY) v19.toNatClampNeg dU) v24.toNatClampNeg fY) k) ∧ Int32.toInt ((upd (upd (upd (upd (upd tD v1.toNatClampNeg jE) v9.toNatClampNeg eW) v14.toNatClampNeg eY) v19.toNatClampNeg dU) v24.toNatClampNeg fY) k) ≤ 9 := aCJ (C := fun k => k % 8 = 6) e23 (fun hk => by have e9 : v24.toNatClampNeg = (Int32.toInt v24).toNat := rfl; have hk : v24.toNatClampNeg % 8 = 6 := hk; omega)
      intro v28 ev28
      have f29 : Int32.toInt (v1 + 5) = Int32.toInt v1 + Int32.toInt (5 : Int32) := aAD _ _ (by omega)
      rw [← ev28] at f29
      refine And.intro (aBZ (by omega)) ?_
      have f31 := aAT gJ
      have e30 : ∀ k : Nat, k % 8 = 4 → -1 ≤ Int32.toInt ((upd (upd (upd (upd (upd (upd tD v1.toNatClampNeg jE) v9.toNatClampNeg eW) v14.toNatClampNeg eY) v19.toNatClampNeg dU) v24.toNatClampNeg fY) v28.toNatClampNeg gJ) k) ∧ Int32.toInt ((upd (upd (upd (upd (upd (upd tD v1.toNatClampNeg jE) v9.toNatClampNeg eW) v14.toNatClampNeg eY) v19.toNatClampNeg dU) v24.toNatClampNeg fY) v28.toNatClampNeg gJ) k) ≤ 7 := aCJ (C := fun k => k % 8 = 4) e26 (fun hk => by have e9 : v28.toNatClampNeg = (Int32.toInt v28).toNat := rfl; have hk : v28.toNatClampNeg % 8 = 4 := hk; omega)
      have e32 : ∀ k : Nat, k % 8 = 6 → 0 ≤ Int32.toInt ((upd (upd (upd (upd (upd (upd tD v1.toNatClampNeg jE) v9.toNatClampNeg eW) v14.toNatClampNeg eY) v19.toNatClampNeg dU) v24.toNatClampNeg fY) v28.toNatClampNeg gJ) k) ∧ Int32.toInt ((upd (upd (upd (upd (upd (upd tD v1.toNatClampNeg jE) v9.toNatClampNeg eW) v14.toNatClampNeg eY) v19.toNatClampNeg dU) v24.toNatClampNeg fY) v28.toNatClampNeg gJ) k) ≤ 9 := aCJ (C := fun k => k % 8 = 6) e27 (fun hk => by have e9 : v28.toNatClampNeg = (Int32.toInt v28).toNat := rfl; have hk : v28.toNatClampNeg % 8 = 6 := hk; omega)
      intro v33 ev33
      have f34 : Int32.toInt (v1 + 6) = Int32.toInt v1 + Int32.toInt (6 : Int32) := aAD _ _ (by omega)
      rw [← ev33] at f34
      refine And.intro (aBZ (by omega)) ?_
      have e35 : ∀ k : Nat, k % 8 = 4 → -1 ≤ Int32.toInt ((upd (upd (upd (upd (upd (upd (upd tD v1.toNatClampNeg jE) v9.toNatClampNeg eW) v14.toNatClampNeg eY) v19.toNatClampNeg dU) v24.toNatClampNeg fY) v28.toNatClampNeg gJ) v33.toNatClampNeg jG) k) ∧ Int32.toInt ((upd (upd (upd (upd (upd (upd (upd tD v1.toNatClampNeg jE) v9.toNatClampNeg eW) v14.toNatClampNeg eY) v19.toNatClampNeg dU) v24.toNatClampNeg fY) v28.toNatClampNeg gJ) v33.toNatClampNeg jG) k) ≤ 7 := aCJ (C := fun k => k % 8 = 4) e30 (fun hk => by have e9 : v33.toNatClampNeg = (Int32.toInt v33).toNat := rfl; have hk : v33.toNatClampNeg % 8 = 4 := hk; omega)
      have e36 : ∀ k : Nat, k % 8 = 6 → 0 ≤ Int32.toInt ((upd (upd (upd (upd (upd (upd (upd tD v1.toNatClampNeg jE) v9.toNatClampNeg eW) v14.toNatClampNeg eY) v19.toNatClampNeg dU) v24.toNatClampNeg fY) v28.toNatClampNeg gJ) v33.toNatClampNeg jG) k) ∧ Int32.toInt ((upd (upd (upd (upd (upd (upd (upd tD v1.toNatClampNeg jE) v9.toNatClampNeg eW) v14.toNatClampNeg eY) v19.toNatClampNeg dU) v24.toNatClampNeg fY) v28.toNatClampNeg gJ) v33.toNatClampNeg jG) k) ≤ 9 := aCJ (C := fun k => k % 8 = 6) e32 (fun hk => by have e9 : v33.toNatClampNeg = (Int32.toInt v33).toNat := rfl; have hk : v33.toNatClampNeg % 8 = 6 := hk; omega)
      intro v37 ev37
      have f38 : Int32.toInt (v1 + 7) = Int32.toInt v1 + Int32.toInt (7 : Int32) := aAD _ _ (by omega)
      rw [← ev37] at f38
      refine And.intro (aBZ (by omega)) ?_
      have f40 := aAT nU
      have e39 : ∀ k : Nat, k % 8 = 4 → -1 ≤ Int32.toInt ((upd (upd (upd (upd (upd (upd (upd (upd tD v1.toNatClampNeg jE) v9.toNatClampNeg eW) v14.toNatClampNeg eY) v19.toNatClampNeg dU) v24.toNatClampNeg fY) v28.toNatClampNeg gJ) v33.toNatClampNeg jG) v37.toNatClampNeg nU) k) ∧ Int32.toInt ((upd (upd (upd (upd (upd (upd (upd (upd tD v1.toNatClampNeg jE) v9.toNatClampNeg eW) v14.toNatClampNeg eY) v19.toNatClampNeg dU) v24.toNatClampNeg fY) v28.toNatClampNeg gJ) v33.toNatClampNeg jG) v37.toNatClampNeg nU) k) ≤ 7 := aCJ (C := fun k => k % 8 = 4) e35 (fun hk => by have e9 : v37.toNatClampNeg = (Int32.toInt v37).toNat := rfl; have hk : v37.toNatClampNeg % 8 = 4 := hk; omega)
      have e41 : ∀ k : Nat, k % 8 = 6 → 0 ≤ Int32.toInt ((upd (upd (upd (upd (upd (upd (upd (upd tD v1.toNatClampNeg jE) v9.toNatClampNeg eW) v14.toNatClampNeg eY) v19.toNatClampNeg dU) v24.toNatClampNeg fY) v28.toNatClampNeg gJ) v33.toNatClampNeg jG) v37.toNatClampNeg nU) k) ∧ Int32.toInt ((upd (upd (upd (upd (upd (upd (upd (upd tD v1.toNatClampNeg jE) v9.toNatClampNeg eW) v14.toNatClampNeg eY) v19.toNatClampNeg dU) v24.toNatClampNeg fY) v28.toNatClampNeg gJ) v33.toNatClampNeg jG) v37.toNatClampNeg nU) k) ≤ 9 := aCJ (C := fun k => k % 8 = 6) e36 (fun hk => by have e9 : v37.toNatClampNeg = (Int32.toInt v37).toNat := rfl; have hk : v37.toNatClampNeg % 8 = 6 := hk; omega)
      refine And.intro (fun c42 => ?_) (fun c42 => ?_)
      · skip
        have c42 := (aAd _ _).mp c42
        intro v43 ev43
        have f44 : Int32.toInt (jG + 1) = Int32.toInt jG + Int32.toInt (1 : Int32) := aAD _ _ (by omega)
        rw [← ev43] at f44
        intro v45 ev45
        refine And.intro (fun c46 => ?_) (fun c46 => ?_)
        · skip
          have c46 := (aAd _ _).mp c46
          exfalso; omega
        · skip
          have c46 := mt (aAd _ _).mpr c46
          intro v47 ev47
          have f48 : Int32.toInt (uM + 1) = Int32.toInt uM + Int32.toInt (1 : Int32) := aAD _ _ (by omega)
          rw [← ev47] at f48
          intro v49 ev49
          have f50 : Int32.toInt (v47 - v47 / 13 * 13) = Int32.toInt v47 % 13 := ti_rem _ _ (by decide) (by omega) (by decide)
          rw [← ev49] at f50
          intro v51 ev51
          have f52 : Int32.toInt (pR + 1) = Int32.toInt pR + Int32.toInt (1 : Int32) := aAD _ _ (by omega)
          rw [← ev51] at f52
          intro v53 ev53
          have f54 := ti_min (12 : Int32) v51
          have hv53 := congrArg Int32.toInt ev53
          exact hpost _ _ _ _ _ _ _ _ _ (by omega) (by omega) (by omega) (by omega) (by omega) e39 e41
      · skip
        have c42 := mt (aAd _ _).mpr c42
        refine And.intro (fun _ => ?_) (fun h9 => absurd h9 (by decide))
        exact hpost _ _ _ _ _ _ _ _ _ (by omega) aAC (by omega) aAr aBy e39 e41
    · skip
      have c4 := mt (aAO _ _).mpr c4
      exfalso; omega
set_option maxHeartbeats 8000000 in
set_option maxRecDepth 200000 in
theorem ts_X9_doAct_143 {post : Int32 → Int32 → Int32 → Int32 → Int32 → Int32 → Int32 → Int32 → Int32 → (Nat → Int32) → (Nat → Int32) → Prop} (dN bD : Int32) (uU gF pL qF mX oE dY : Nat → Int32) (pQ : Int32) (pN : Nat → Int32) (xL : 0 ≤ Int32.toInt dN ∧ Int32.toInt dN ≤ 16) (wX : 0 ≤ Int32.toInt bD ∧ Int32.toInt bD ≤ 8) (zU : 0 ≤ Int32.toInt pQ ∧ Int32.toInt pQ ≤ 40) (hpost : ∀ (r : Int32) (aHN : Int32) (aGq : Int32) (aGr : Int32) (aFB : Int32) (aCx : Int32) (aI5 : Int32) (aDz : Int32) (aFi : Int32) (aCG : Nat → Int32) (aB4 : Nat → Int32), (-1 ≤ Int32.toInt aCx ∧ Int32.toInt aCx ≤ 7) → (0 ≤ Int32.toInt aDz ∧ Int32.toInt aDz ≤ 9) → post r aHN aGq aGr aFB aCx aI5 aDz aFi aCG aB4) (jE eW eY dU fY gJ jG nU : Int32) (qY qU : Nat → Int32) (aAC : -1 ≤ Int32.toInt fY ∧ Int32.toInt fY ≤ 7) (zK : 0 ≤ Int32.toInt jG ∧ Int32.toInt jG ≤ 9) : ws_X9_doAct_143 post dN bD uU gF pL qF mX oE dY pQ pN jE eW eY dU fY gJ jG nU qY qU := by
  have l0 := aI2
  have l1 := aEc
  have l2 := li_9
  refine And.intro (fun c1 => ?_) (fun c1 => ?_)
  · skip
    have c1 := (aAd _ _).mp c1
    intro v2 ev2
    have f3 : Int32.toInt (jG + 1) = Int32.toInt jG + Int32.toInt (1 : Int32) := aAD _ _ (by omega)
    rw [← ev2] at f3
    intro v4 ev4
    exact hpost _ _ _ _ _ _ _ _ _ _ _ (by omega) (by omega)
  · skip
    have c1 := mt (aAd _ _).mpr c1
    exact hpost _ _ _ _ _ _ _ _ _ _ _ aAC zK
set_option maxHeartbeats 8000000 in
set_option maxRecDepth 200000 in
theorem t_X9_doAct {post : Int32 → Int32 → Int32 → Int32 → Int32 → Int32 → Int32 → Int32 → Int32 → (Nat → Int32) → (Nat → Int32) → Prop} {p0 p1 dN bD : Int32} {uU gF pL qF mX oE dY : Nat → Int32} {jE eW eY dU fY gJ jG nU pQ : Int32} {qY qU pN : Nat → Int32} (xL : 0 ≤ Int32.toInt dN ∧ Int32.toInt dN ≤ 16) (wX : 0 ≤ Int32.toInt bD ∧ Int32.toInt bD ≤ 8) (aAC : -1 ≤ Int32.toInt fY ∧ Int32.toInt fY ≤ 7) (zK : 0 ≤ Int32.toInt jG ∧ Int32.toInt jG ≤ 9) (zU : 0 ≤ Int32.toInt pQ ∧ Int32.toInt pQ ≤ 40) (hpost : ∀ (r : Int32) (aHN : Int32) (aGq : Int32) (aGr : Int32) (aFB : Int32) (aCx : Int32) (aI5 : Int32) (aDz : Int32) (aFi : Int32) (aCG : Nat → Int32) (aB4 : Nat → Int32), (-1 ≤ Int32.toInt aCx ∧ Int32.toInt aCx ≤ 7) → (0 ≤ Int32.toInt aDz ∧ Int32.toInt aDz ≤ 9) → post r aHN aGq aGr aFB aCx aI5 aDz aFi aCG aB4) : wp_X9_doAct post p0 p1 dN bD uU gF pL qF mX oE dY jE eW eY dU fY gJ jG nU pQ qY qU pN := by
  have l0 := aI2
  have l1 := aE0
  have l2 := li_100
  have l3 := li_104
  have l4 := li_107
  have l5 := li_109
  have l6 := li_111
  have l7 := li_112
  have l8 := aJ8
  have l9 := aJ9
  have l10 := li_97
  have l11 := li_9999
  have f5 := aAT p0
  refine And.intro (fun c6 => ?_) ?_
  · skip
    have c6 := (zJ _ _).mp c6
    refine t_X9_isYesOrNo  (fun r7 h_r7 => ?_)
    refine And.intro (fun c8 => ?_) (fun c8 => ?_)
    · skip
      have c8 := mt (zJ _ _).mpr c8
      exact hpost _ _ _ _ _ _ _ _ _ _ _ aAC zK
    · skip
      have c8 := (zJ _ _).mp c8
      exact hpost _ _ _ _ _ _ _ _ _ _ _ aAC zK
  refine And.intro (fun c9 => ?_) ?_
  · skip
    have c9 := (zJ _ _).mp c9
    refine And.intro (fun c10 => ?_) (fun c10 => ?_)
    · skip
      have c10 := (zJ _ _).mp c10
      exact hpost _ _ _ _ _ _ _ _ _ _ _ aAC zK
    · skip
      have c10 := mt (zJ _ _).mpr c10
      have f12 := aAT jE
      refine And.intro (fun c11 => ?_) (fun c11 => ?_)
      · skip
        have c11 := mt (zJ _ _).mpr c11
        intro v13 ev13
        intro v14 ev14
        have hv14 := congrArg Int32.toInt ev14
        intro v16 ev16
        have f17 := aAQ v14 858993459 (by omega)
        have hv16 := congrArg Int32.toInt ev16
        intro v18 ev18
        intro v19 ev19
        have f21 := aAQ v18 858993459 (by omega)
        have f20 : Int32.toInt (v16 + (v18 &&& 858993459)) = Int32.toInt v16 + Int32.toInt (v18 &&& 858993459) := aAD _ _ (by omega)
        rw [← ev19] at f20
        intro v22 ev22
        have hv22 := congrArg Int32.toInt ev22
        intro v24 ev24
        have f25 := aAQ v22 252645135 (by omega)
        have hv24 := congrArg Int32.toInt ev24
        intro v26 ev26
        have hv26 := congrArg Int32.toInt ev26
        intro v28 ev28
        have hv28 := congrArg Int32.toInt ev28
        intro v30 ev30
        refine And.intro (aBZ (by omega)) ?_
        intro v31 ev31
        have hv31 := congrArg Int32.toInt ev31
        intro v33 ev33
        have hv33 := congrArg Int32.toInt ev33
        intro v35 ev35
        have hv35 := congrArg Int32.toInt ev35
        intro v37 ev37
        have f38 := aAT (if v35 < 9999 then v35 else 9999)
        have f40 := aAT v35
        have f39 := ti_min (9999 : Int32) v35
        have hv37 := congrArg Int32.toInt ev37
        exact hpost _ _ _ _ _ _ _ _ _ _ _ aAC zK
      · skip
        have c11 := (zJ _ _).mp c11
        exact hpost _ _ _ _ _ _ _ _ _ _ _ aAC zK
  refine And.intro (fun c41 => ?_) ?_
  · skip
    have c41 := (zJ _ _).mp c41
    refine t_X0_pickFruit xL aAC zK zU (fun r47 no_apron_42 no_bruised_43 no_clock_44 ru_given_45 ru_stack_46 h_r47 => ?_)
    exact hpost _ _ _ _ _ _ _ _ _ _ _ aAC zK
  refine And.intro (fun c48 => ?_) ?_
  · skip
    have c48 := (zJ _ _).mp c48
    refine t_X0_shakeTree xL aAC zK (fun r52 no_ground_49 no_bruised_50 no_clock_51 h_r52 => ?_)
    exact hpost _ _ _ _ _ _ _ _ _ _ _ aAC zK
  refine And.intro (fun c53 => ?_) ?_
  · skip
    have c53 := (zJ _ _).mp c53
    refine t_X0_setLadder wX aAC (fun r58 no_apron_54 no_basket_55 no_ladder_56 no_clock_57 h_no_ladder_56 => ?_)
    exact hpost _ _ _ _ _ _ _ _ _ _ _ h_no_ladder_56 zK
  refine And.intro (fun c59 => ?_) ?_
  · skip
    have c59 := (zJ _ _).mp c59
    refine t_X9_isYesOrNo  (fun r60 h_r60 => ?_)
    refine And.intro (fun c61 => ?_) (fun c61 => ?_)
    · skip
      have c61 := mt (zJ _ _).mpr c61
      exact hpost _ _ _ _ _ _ _ _ _ _ _ aAC zK
    · skip
      have c61 := (zJ _ _).mp c61
      exact hpost _ _ _ _ _ _ _ _ _ _ _ aAC zK
  refine And.intro (fun c62 => ?_) ?_
  · skip
    have c62 := (zJ _ _).mp c62
    refine t_X0_pickFruit xL aAC zK zU (fun r68 no_apron_63 no_bruised_64 no_clock_65 ru_given_66 ru_stack_67 h_r68 => ?_)
    exact hpost _ _ _ _ _ _ _ _ _ _ _ aAC zK
  intro c69 c70 c71 c72 c73 c74 c75
  have c69 := mt (zJ _ _).mpr c69
  have c70 := mt (zJ _ _).mpr c70
  have c71 := mt (zJ _ _).mpr c71
  have c72 := mt (zJ _ _).mpr c72
  have c73 := mt (zJ _ _).mpr c73
  have c74 := mt (zJ _ _).mpr c74
  have c75 := mt (zJ _ _).mpr c75
  have f76 := aAT jE
  have f77 := aAT eW
  have f78 := aAT eY
  have f79 := aAT dU
  have f80 := aAT gJ
  have f81 := aAT nU
  exact ts_X9_doAct_143 dN bD uU gF pL qF mX oE dY pQ pN xL wX zU hpost jE eW eY dU fY gJ jG nU qY qU aAC zK
set_option maxHeartbeats 8000000 in
set_option maxRecDepth 200000 in
theorem ts_X9_doActs_118 {post : Int32 → Int32 → Int32 → Int32 → Int32 → Int32 → Int32 → Int32 → Int32 → (Nat → Int32) → (Nat → Int32) → Int32 → Int32 → (Nat → Int32) → Int32 → (Nat → Int32) → Prop} (wE : Nat → Int32) (dN bD : Int32) (uU gF pL qF mX oE dY : Nat → Int32) (pQ : Int32) (pN : Nat → Int32) (xL : 0 ≤ Int32.toInt dN ∧ Int32.toInt dN ≤ 16) (wX : 0 ≤ Int32.toInt bD ∧ Int32.toInt bD ≤ 8) (zU : 0 ≤ Int32.toInt pQ ∧ Int32.toInt pQ ≤ 40) (hpost : ∀ (r : Int32) (aHN : Int32) (aGq : Int32) (aGr : Int32) (aFB : Int32) (aCx : Int32) (aI5 : Int32) (aDz : Int32) (aFi : Int32) (aCG : Nat → Int32) (aB4 : Nat → Int32) (aBa : Int32) (aEN : Int32) (aCN : Nat → Int32) (zV : Int32) (aAV : Nat → Int32), (-1 ≤ Int32.toInt aCx ∧ Int32.toInt aCx ≤ 7) → (0 ≤ Int32.toInt aDz ∧ Int32.toInt aDz ≤ 9) → (0 ≤ Int32.toInt aBa ∧ Int32.toInt aBa ≤ 12) → (0 ≤ Int32.toInt aEN ∧ Int32.toInt aEN ≤ 12) → (∀ k : Nat, k % 8 = 4 → -1 ≤ Int32.toInt (aCN k) ∧ Int32.toInt (aCN k) ≤ 7) → (∀ k : Nat, k % 8 = 6 → 0 ≤ Int32.toInt (aCN k) ∧ Int32.toInt (aCN k) ≤ 9) → (2 ≤ Int32.toInt zV ∧ Int32.toInt zV ≤ 2) → post r aHN aGq aGr aFB aCx aI5 aDz aFi aCG aB4 aBa aEN aCN zV aAV) (x2 x3 x4 jE eW eY dU fY gJ jG nU : Int32) (qY qU : Nat → Int32) (pR uM : Int32) (tD : Nat → Int32) (qB : Int32) (jK : Nat → Int32) (aDO : 0 ≤ Int32.toInt x4 ∧ Int32.toInt x4 ≤ 1) (aAC : -1 ≤ Int32.toInt fY ∧ Int32.toInt fY ≤ 7) (zK : 0 ≤ Int32.toInt jG ∧ Int32.toInt jG ≤ 9) (aAr : 0 ≤ Int32.toInt pR ∧ Int32.toInt pR ≤ 12) (aBy : 0 ≤ Int32.toInt uM ∧ Int32.toInt uM ≤ 12) (aBF : ∀ k : Nat, k % 8 = 4 → -1 ≤ Int32.toInt (tD k) ∧ Int32.toInt (tD k) ≤ 7) (aBG : ∀ k : Nat, k % 8 = 6 → 0 ≤ Int32.toInt (tD k) ∧ Int32.toInt (tD k) ≤ 9) (aAK : 0 ≤ Int32.toInt qB ∧ Int32.toInt qB ≤ 16) : bCZ post wE dN bD uU gF pL qF mX oE dY pQ pN x2 x3 x4 jE eW eY dU fY gJ jG nU qY qU pR uM tD qB jK := by
  have l0 := aE0
  have l1 := aEc
  have l2 := li_16
  refine And.intro (fun h9 => absurd h9 (by decide)) (fun _ => ?_)
  refine And.intro (aBZ (by omega)) ?_
  intro v1 ev1
  have f2 : Int32.toInt (0 + 1) = Int32.toInt (0 : Int32) + Int32.toInt (1 : Int32) := aAD _ _ (by omega)
  rw [← ev1] at f2
  refine And.intro (fun c3 => ?_) (fun c3 => ?_)
  · skip
    have c3 := (aAO _ _).mp c3
    exfalso; omega
  · skip
    have c3 := mt (aAO _ _).mpr c3
    refine And.intro (aBZ (by omega)) ?_
    intro v4 ev4
    have f5 : Int32.toInt (v1 + 1) = Int32.toInt v1 + Int32.toInt (1 : Int32) := aAD _ _ (by omega)
    rw [← ev4] at f5
    exact hpost _ _ _ _ _ _ _ _ _ _ _ _ _ _ _ _ aAC zK aAr aBy aBF aBG (by omega)
set_option maxHeartbeats 8000000 in
set_option maxRecDepth 200000 in
theorem ts_X9_doActs_107 {post : Int32 → Int32 → Int32 → Int32 → Int32 → Int32 → Int32 → Int32 → Int32 → (Nat → Int32) → (Nat → Int32) → Int32 → Int32 → (Nat → Int32) → Int32 → (Nat → Int32) → Prop} (wE : Nat → Int32) (dN bD : Int32) (uU gF pL qF mX oE dY : Nat → Int32) (pQ : Int32) (pN : Nat → Int32) (xL : 0 ≤ Int32.toInt dN ∧ Int32.toInt dN ≤ 16) (wX : 0 ≤ Int32.toInt bD ∧ Int32.toInt bD ≤ 8) (zU : 0 ≤ Int32.toInt pQ ∧ Int32.toInt pQ ≤ 40) (hpost : ∀ (r : Int32) (aHN : Int32) (aGq : Int32) (aGr : Int32) (aFB : Int32) (aCx : Int32) (aI5 : Int32) (aDz : Int32) (aFi : Int32) (aCG : Nat → Int32) (aB4 : Nat → Int32) (aBa : Int32) (aEN : Int32) (aCN : Nat → Int32) (zV : Int32) (aAV : Nat → Int32), (-1 ≤ Int32.toInt aCx ∧ Int32.toInt aCx ≤ 7) → (0 ≤ Int32.toInt aDz ∧ Int32.toInt aDz ≤ 9) → (0 ≤ Int32.toInt aBa ∧ Int32.toInt aBa ≤ 12) → (0 ≤ Int32.toInt aEN ∧ Int32.toInt aEN ≤ 12) → (∀ k : Nat, k % 8 = 4 → -1 ≤ Int32.toInt (aCN k) ∧ Int32.toInt (aCN k) ≤ 7) → (∀ k : Nat, k % 8 = 6 → 0 ≤ Int32.toInt (aCN k) ∧ Int32.toInt (aCN k) ≤ 9) → (2 ≤ Int32.toInt zV ∧ Int32.toInt zV ≤ 2) → post r aHN aGq aGr aFB aCx aI5 aDz aFi aCG aB4 aBa aEN aCN zV aAV) (x2 x3 x4 jE eW eY dU fY gJ jG nU : Int32) (qY qU : Nat → Int32) (pR uM : Int32) (tD : Nat → Int32) (qB : Int32) (jK : Nat → Int32) (aDO : 0 ≤ Int32.toInt x4 ∧ Int32.toInt x4 ≤ 1) (aAC : -1 ≤ Int32.toInt fY ∧ Int32.toInt fY ≤ 7) (zK : 0 ≤ Int32.toInt jG ∧ Int32.toInt jG ≤ 9) (aAr : 0 ≤ Int32.toInt pR ∧ Int32.toInt pR ≤ 12) (aBy : 0 ≤ Int32.toInt uM ∧ Int32.toInt uM ≤ 12) (aBF : ∀ k : Nat, k % 8 = 4 → -1 ≤ Int32.toInt (tD k) ∧ Int32.toInt (tD k) ≤ 7) (aBG : ∀ k : Nat, k % 8 = 6 → 0 ≤ Int32.toInt (tD k) ∧ Int32.toInt (tD k) ≤ 9) (aAK : 0 ≤ Int32.toInt qB ∧ Int32.toInt qB ≤ 16) : ws_X9_doActs_107 post wE dN bD uU gF pL qF mX oE dY pQ pN x2 x3 x4 jE eW eY dU fY gJ jG nU qY qU pR uM tD qB jK := by
  have l0 := aE0
  have l1 := aEc
  have l2 := li_12
  have l3 := li_13
  have f7 := aAT x2
  refine And.intro (fun c6 => ?_) (fun c6 => ?_)
  · skip
    have c6 := (aAO _ _).mp c6
    have f8 := aAT x3
    have f9 := aAT jE
    have f10 := aAT eW
    have f11 := aAT eY
    have f12 := aAT dU
    have f13 := aAT gJ
    have f14 := aAT nU
    exact ts_X9_doActs_118 wE dN bD uU gF pL qF mX oE dY pQ pN xL wX zU hpost x2 x3 x4 jE eW eY dU fY gJ jG nU qY qU pR uM tD qB jK aDO aAC zK aAr aBy aBF aBG aAK
  · skip
    have c6 := mt (aAO _ _).mpr c6
    intro v15 ev15
    have f16 : Int32.toInt (uM + 1) = Int32.toInt uM + Int32.toInt (1 : Int32) := aAD _ _ (by omega)
    rw [← ev15] at f16
    intro v17 ev17
    have f18 : Int32.toInt (v15 - v15 / 13 * 13) = Int32.toInt v15 % 13 := ti_rem _ _ (by decide) (by omega) (by decide)
    rw [← ev17] at f18
    intro v19 ev19
    have f20 : Int32.toInt (pR + 1) = Int32.toInt pR + Int32.toInt (1 : Int32) := aAD _ _ (by omega)
    rw [← ev19] at f20
    intro v21 ev21
    have f22 := ti_min (12 : Int32) v19
    have hv21 := congrArg Int32.toInt ev21
    have f23 := aAT x3
    have f24 := aAT jE
    have f25 := aAT eW
    have f26 := aAT eY
    have f27 := aAT dU
    have f28 := aAT gJ
    have f29 := aAT nU
    exact ts_X9_doActs_118 wE dN bD uU gF pL qF mX oE dY pQ pN xL wX zU hpost x2 x3 x4 jE eW eY dU fY gJ jG nU qY qU v21 v17 tD qB jK aDO aAC zK (by omega) (by omega) aBF aBG aAK
set_option maxHeartbeats 8000000 in
set_option maxRecDepth 200000 in
theorem ts_X9_doActs_101 {post : Int32 → Int32 → Int32 → Int32 → Int32 → Int32 → Int32 → Int32 → Int32 → (Nat → Int32) → (Nat → Int32) → Int32 → Int32 → (Nat → Int32) → Int32 → (Nat → Int32) → Prop} {K21 : Int32 → Int32 → Int32 → Int32 → Int32 → Int32 → Int32 → Int32 → Int32 → Int32 → Int32 → Int32 → Int32 → (Nat → Int32) → (Nat → Int32) → Int32 → Int32 → (Nat → Int32) → Int32 → (Nat → Int32) → Prop} {n21 : Int} (wE : Nat → Int32) (dN bD : Int32) (uU gF pL qF mX oE dY : Nat → Int32) (pQ : Int32) (pN : Nat → Int32) (xL : 0 ≤ Int32.toInt dN ∧ Int32.toInt dN ≤ 16) (wX : 0 ≤ Int32.toInt bD ∧ Int32.toInt bD ≤ 8) (zU : 0 ≤ Int32.toInt pQ ∧ Int32.toInt pQ ≤ 40) (hpost : ∀ (r : Int32) (aHN : Int32) (aGq : Int32) (aGr : Int32) (aFB : Int32) (aCx : Int32) (aI5 : Int32) (aDz : Int32) (aFi : Int32) (aCG : Nat → Int32) (aB4 : Nat → Int32) (aBa : Int32) (aEN : Int32) (aCN : Nat → Int32) (zV : Int32) (aAV : Nat → Int32), (-1 ≤ Int32.toInt aCx ∧ Int32.toInt aCx ≤ 7) → (0 ≤ Int32.toInt aDz ∧ Int32.toInt aDz ≤ 9) → (0 ≤ Int32.toInt aBa ∧ Int32.toInt aBa ≤ 12) → (0 ≤ Int32.toInt aEN ∧ Int32.toInt aEN ≤ 12) → (∀ k : Nat, k % 8 = 4 → -1 ≤ Int32.toInt (aCN k) ∧ Int32.toInt (aCN k) ≤ 7) → (∀ k : Nat, k % 8 = 6 → 0 ≤ Int32.toInt (aCN k) ∧ Int32.toInt (aCN k) ≤ 9) → (2 ≤ Int32.toInt zV ∧ Int32.toInt zV ≤ 2) → post r aHN aGq aGr aFB aCx aI5 aDz aFi aCG aB4 aBa aEN aCN zV aAV) (hK21 : ∀ (x1 : Int32) (x2 : Int32) (x3 : Int32) (x4 : Int32) (x5 : Int32) (jE : Int32) (eW : Int32) (eY : Int32) (dU : Int32) (fY : Int32) (gJ : Int32) (jG : Int32) (nU : Int32) (qY : Nat → Int32) (qU : Nat → Int32) (pR : Int32) (uM : Int32) (tD : Nat → Int32) (qB : Int32) (jK : Nat → Int32), (-1 ≤ Int32.toInt x1 ∧ Int32.toInt x1 ≤ 30) → (0 ≤ Int32.toInt x4 ∧ Int32.toInt x4 ≤ 1) → (0 ≤ Int32.toInt x5 ∧ Int32.toInt x5 ≤ 30) → (-1 ≤ Int32.toInt fY ∧ Int32.toInt fY ≤ 7) → (0 ≤ Int32.toInt jG ∧ Int32.toInt jG ≤ 9) → (0 ≤ Int32.toInt pR ∧ Int32.toInt pR ≤ 12) → (0 ≤ Int32.toInt uM ∧ Int32.toInt uM ≤ 12) → (∀ k : Nat, k % 8 = 4 → -1 ≤ Int32.toInt (tD k) ∧ Int32.toInt (tD k) ≤ 7) → (∀ k : Nat, k % 8 = 6 → 0 ≤ Int32.toInt (tD k) ∧ Int32.toInt (tD k) ≤ 9) → (0 ≤ Int32.toInt qB ∧ Int32.toInt qB ≤ 16) → (30 - Int32.toInt x5 < n21) → K21 x1 x2 x3 x4 x5 jE eW eY dU fY gJ jG nU qY qU pR uM tD qB jK) (x1 x2 x3 x4 x5 jE eW eY dU fY gJ jG nU : Int32) (qY qU : Nat → Int32) (pR uM : Int32) (tD : Nat → Int32) (qB : Int32) (jK : Nat → Int32) (aBK : 1 ≤ Int32.toInt x1 ∧ Int32.toInt x1 ≤ 30) (aDO : 0 ≤ Int32.toInt x4 ∧ Int32.toInt x4 ≤ 1) (aF7 : 0 ≤ Int32.toInt x5 ∧ Int32.toInt x5 ≤ 29) (aAC : -1 ≤ Int32.toInt fY ∧ Int32.toInt fY ≤ 7) (zK : 0 ≤ Int32.toInt jG ∧ Int32.toInt jG ≤ 9) (aAr : 0 ≤ Int32.toInt pR ∧ Int32.toInt pR ≤ 12) (aBy : 0 ≤ Int32.toInt uM ∧ Int32.toInt uM ≤ 12) (aBF : ∀ k : Nat, k % 8 = 4 → -1 ≤ Int32.toInt (tD k) ∧ Int32.toInt (tD k) ≤ 7) (aBG : ∀ k : Nat, k % 8 = 6 → 0 ≤ Int32.toInt (tD k) ∧ Int32.toInt (tD k) ≤ 9) (aAK : 0 ≤ Int32.toInt qB ∧ Int32.toInt qB ≤ 16) (hn21 : 30 - Int32.toInt x5 ≤ n21) : ws_X9_doActs_101 post K21 wE dN bD uU gF pL qF mX oE dY pQ pN x1 x2 x3 x4 x5 jE eW eY dU fY gJ jG nU qY qU pR uM tD qB jK := by
  have l0 := aEc
  intro v30 ev30
  have f31 : Int32.toInt (x5 + 1) = Int32.toInt x5 + Int32.toInt (1 : Int32) := aAD _ _ (by omega)
  rw [← ev30] at f31
  have f32 := aAT x2
  have f33 := aAT x3
  have f34 := aAT jE
  have f35 := aAT eW
  have f36 := aAT eY
  have f37 := aAT dU
  have f38 := aAT gJ
  have f39 := aAT nU
  exact hK21 x1 x2 x3 x4 v30 jE eW eY dU fY gJ jG nU qY qU pR uM tD qB jK (by omega) aDO (by omega) aAC zK aAr aBy aBF aBG aAK (by omega)
set_option maxHeartbeats 8000000 in
set_option maxRecDepth 200000 in
theorem ts_X9_doActs_99 {post : Int32 → Int32 → Int32 → Int32 → Int32 → Int32 → Int32 → Int32 → Int32 → (Nat → Int32) → (Nat → Int32) → Int32 → Int32 → (Nat → Int32) → Int32 → (Nat → Int32) → Prop} {K21 : Int32 → Int32 → Int32 → Int32 → Int32 → Int32 → Int32 → Int32 → Int32 → Int32 → Int32 → Int32 → Int32 → (Nat → Int32) → (Nat → Int32) → Int32 → Int32 → (Nat → Int32) → Int32 → (Nat → Int32) → Prop} {n21 : Int} (wE : Nat → Int32) (dN bD : Int32) (uU gF pL qF mX oE dY : Nat → Int32) (pQ : Int32) (pN : Nat → Int32) (xL : 0 ≤ Int32.toInt dN ∧ Int32.toInt dN ≤ 16) (wX : 0 ≤ Int32.toInt bD ∧ Int32.toInt bD ≤ 8) (zU : 0 ≤ Int32.toInt pQ ∧ Int32.toInt pQ ≤ 40) (hpost : ∀ (r : Int32) (aHN : Int32) (aGq : Int32) (aGr : Int32) (aFB : Int32) (aCx : Int32) (aI5 : Int32) (aDz : Int32) (aFi : Int32) (aCG : Nat → Int32) (aB4 : Nat → Int32) (aBa : Int32) (aEN : Int32) (aCN : Nat → Int32) (zV : Int32) (aAV : Nat → Int32), (-1 ≤ Int32.toInt aCx ∧ Int32.toInt aCx ≤ 7) → (0 ≤ Int32.toInt aDz ∧ Int32.toInt aDz ≤ 9) → (0 ≤ Int32.toInt aBa ∧ Int32.toInt aBa ≤ 12) → (0 ≤ Int32.toInt aEN ∧ Int32.toInt aEN ≤ 12) → (∀ k : Nat, k % 8 = 4 → -1 ≤ Int32.toInt (aCN k) ∧ Int32.toInt (aCN k) ≤ 7) → (∀ k : Nat, k % 8 = 6 → 0 ≤ Int32.toInt (aCN k) ∧ Int32.toInt (aCN k) ≤ 9) → (2 ≤ Int32.toInt zV ∧ Int32.toInt zV ≤ 2) → post r aHN aGq aGr aFB aCx aI5 aDz aFi aCG aB4 aBa aEN aCN zV aAV) (hK21 : ∀ (x1 : Int32) (x2 : Int32) (x3 : Int32) (x4 : Int32) (x5 : Int32) (jE : Int32) (eW : Int32) (eY : Int32) (dU : Int32) (fY : Int32) (gJ : Int32) (jG : Int32) (nU : Int32) (qY : Nat → Int32) (qU : Nat → Int32) (pR : Int32) (uM : Int32) (tD : Nat → Int32) (qB : Int32) (jK : Nat → Int32), (-1 ≤ Int32.toInt x1 ∧ Int32.toInt x1 ≤ 30) → (0 ≤ Int32.toInt x4 ∧ Int32.toInt x4 ≤ 1) → (0 ≤ Int32.toInt x5 ∧ Int32.toInt x5 ≤ 30) → (-1 ≤ Int32.toInt fY ∧ Int32.toInt fY ≤ 7) → (0 ≤ Int32.toInt jG ∧ Int32.toInt jG ≤ 9) → (0 ≤ Int32.toInt pR ∧ Int32.toInt pR ≤ 12) → (0 ≤ Int32.toInt uM ∧ Int32.toInt uM ≤ 12) → (∀ k : Nat, k % 8 = 4 → -1 ≤ Int32.toInt (tD k) ∧ Int32.toInt (tD k) ≤ 7) → (∀ k : Nat, k % 8 = 6 → 0 ≤ Int32.toInt (tD k) ∧ Int32.toInt (tD k) ≤ 9) → (0 ≤ Int32.toInt qB ∧ Int32.toInt qB ≤ 16) → (30 - Int32.toInt x5 < n21) → K21 x1 x2 x3 x4 x5 jE eW eY dU fY gJ jG nU qY qU pR uM tD qB jK) (x1 x2 x4 x5 k0 k1 jE eW eY dU fY gJ jG nU : Int32) (qY qU : Nat → Int32) (pR uM : Int32) (tD : Nat → Int32) (qB : Int32) (jK : Nat → Int32) (aBK : 1 ≤ Int32.toInt x1 ∧ Int32.toInt x1 ≤ 30) (aDO : 0 ≤ Int32.toInt x4 ∧ Int32.toInt x4 ≤ 0) (aF7 : 0 ≤ Int32.toInt x5 ∧ Int32.toInt x5 ≤ 29) (h_k1 : 0 ≤ Int32.toInt k1 ∧ Int32.toInt k1 ≤ 1) (aAC : -1 ≤ Int32.toInt fY ∧ Int32.toInt fY ≤ 7) (zK : 0 ≤ Int32.toInt jG ∧ Int32.toInt jG ≤ 9) (aAr : 0 ≤ Int32.toInt pR ∧ Int32.toInt pR ≤ 12) (aBy : 0 ≤ Int32.toInt uM ∧ Int32.toInt uM ≤ 12) (aBF : ∀ k : Nat, k % 8 = 4 → -1 ≤ Int32.toInt (tD k) ∧ Int32.toInt (tD k) ≤ 7) (aBG : ∀ k : Nat, k % 8 = 6 → 0 ≤ Int32.toInt (tD k) ∧ Int32.toInt (tD k) ≤ 9) (aAK : 0 ≤ Int32.toInt qB ∧ Int32.toInt qB ≤ 16) (hn21 : 30 - Int32.toInt x5 ≤ n21) : ws_X9_doActs_99 post K21 wE dN bD uU gF pL qF mX oE dY pQ pN x1 x2 x4 x5 k0 k1 jE eW eY dU fY gJ jG nU qY qU pR uM tD qB jK := by
  intro v40 ev40
  have hv40 := congrArg Int32.toInt ev40
  have f42 := aAT x2
  have f43 := aAT v40
  have f44 := aAT jE
  have f45 := aAT eW
  have f46 := aAT eY
  have f47 := aAT dU
  have f48 := aAT gJ
  have f49 := aAT nU
  exact ts_X9_doActs_101 wE dN bD uU gF pL qF mX oE dY pQ pN xL wX zU hpost hK21 x1 x2 v40 x4 x5 jE eW eY dU fY gJ jG nU qY qU pR uM tD qB jK aBK (by omega) aF7 aAC zK aAr aBy aBF aBG aAK hn21
set_option maxHeartbeats 8000000 in
set_option maxRecDepth 200000 in
theorem ts_X9_doActs_94 {post : Int32 → Int32 → Int32 → Int32 → Int32 → Int32 → Int32 → Int32 → Int32 → (Nat → Int32) → (Nat → Int32) → Int32 → Int32 → (Nat → Int32) → Int32 → (Nat → Int32) → Prop} {K21 : Int32 → Int32 → Int32 → Int32 → Int32 → Int32 → Int32 → Int32 → Int32 → Int32 → Int32 → Int32 → Int32 → (Nat → Int32) → (Nat → Int32) → Int32 → Int32 → (Nat → Int32) → Int32 → (Nat → Int32) → Prop} {n21 : Int} (wE : Nat → Int32) (dN bD : Int32) (uU gF pL qF mX oE dY : Nat → Int32) (pQ : Int32) (pN : Nat → Int32) (xL : 0 ≤ Int32.toInt dN ∧ Int32.toInt dN ≤ 16) (wX : 0 ≤ Int32.toInt bD ∧ Int32.toInt bD ≤ 8) (zU : 0 ≤ Int32.toInt pQ ∧ Int32.toInt pQ ≤ 40) (hpost : ∀ (r : Int32) (aHN : Int32) (aGq : Int32) (aGr : Int32) (aFB : Int32) (aCx : Int32) (aI5 : Int32) (aDz : Int32) (aFi : Int32) (aCG : Nat → Int32) (aB4 : Nat → Int32) (aBa : Int32) (aEN : Int32) (aCN : Nat → Int32) (zV : Int32) (aAV : Nat → Int32), (-1 ≤ Int32.toInt aCx ∧ Int32.toInt aCx ≤ 7) → (0 ≤ Int32.toInt aDz ∧ Int32.toInt aDz ≤ 9) → (0 ≤ Int32.toInt aBa ∧ Int32.toInt aBa ≤ 12) → (0 ≤ Int32.toInt aEN ∧ Int32.toInt aEN ≤ 12) → (∀ k : Nat, k % 8 = 4 → -1 ≤ Int32.toInt (aCN k) ∧ Int32.toInt (aCN k) ≤ 7) → (∀ k : Nat, k % 8 = 6 → 0 ≤ Int32.toInt (aCN k) ∧ Int32.toInt (aCN k) ≤ 9) → (2 ≤ Int32.toInt zV ∧ Int32.toInt zV ≤ 2) → post r aHN aGq aGr aFB aCx aI5 aDz aFi aCG aB4 aBa aEN aCN zV aAV) (hK21 : ∀ (x1 : Int32) (x2 : Int32) (x3 : Int32) (x4 : Int32) (x5 : Int32) (jE : Int32) (eW : Int32) (eY : Int32) (dU : Int32) (fY : Int32) (gJ : Int32) (jG : Int32) (nU : Int32) (qY : Nat → Int32) (qU : Nat → Int32) (pR : Int32) (uM : Int32) (tD : Nat → Int32) (qB : Int32) (jK : Nat → Int32), (-1 ≤ Int32.toInt x1 ∧ Int32.toInt x1 ≤ 30) → (0 ≤ Int32.toInt x4 ∧ Int32.toInt x4 ≤ 1) → (0 ≤ Int32.toInt x5 ∧ Int32.toInt x5 ≤ 30) → (-1 ≤ Int32.toInt fY ∧ Int32.toInt fY ≤ 7) → (0 ≤ Int32.toInt jG ∧ Int32.toInt jG ≤ 9) → (0 ≤ Int32.toInt pR ∧ Int32.toInt pR ≤ 12) → (0 ≤ Int32.toInt uM ∧ Int32.toInt uM ≤ 12) → (∀ k : Nat, k % 8 = 4 → -1 ≤ Int32.toInt (tD k) ∧ Int32.toInt (tD k) ≤ 7) → (∀ k : Nat, k % 8 = 6 → 0 ≤ Int32.toInt (tD k) ∧ Int32.toInt (tD k) ≤ 9) → (0 ≤ Int32.toInt qB ∧ Int32.toInt qB ≤ 16) → (30 - Int32.toInt x5 < n21) → K21 x1 x2 x3 x4 x5 jE eW eY dU fY gJ jG nU qY qU pR uM tD qB jK) (x1 x2 x4 x5 k0 jE eW eY dU fY gJ jG nU : Int32) (qY qU : Nat → Int32) (pR uM : Int32) (tD : Nat → Int32) (qB : Int32) (jK : Nat → Int32) (aBK : 1 ≤ Int32.toInt x1 ∧ Int32.toInt x1 ≤ 30) (aDO : 0 ≤ Int32.toInt x4 ∧ Int32.toInt x4 ≤ 0) (aF7 : 0 ≤ Int32.toInt x5 ∧ Int32.toInt x5 ≤ 29) (aAC : -1 ≤ Int32.toInt fY ∧ Int32.toInt fY ≤ 7) (zK : 0 ≤ Int32.toInt jG ∧ Int32.toInt jG ≤ 9) (aAr : 0 ≤ Int32.toInt pR ∧ Int32.toInt pR ≤ 12) (aBy : 0 ≤ Int32.toInt uM ∧ Int32.toInt uM ≤ 12) (aBF : ∀ k : Nat, k % 8 = 4 → -1 ≤ Int32.toInt (tD k) ∧ Int32.toInt (tD k) ≤ 7) (aBG : ∀ k : Nat, k % 8 = 6 → 0 ≤ Int32.toInt (tD k) ∧ Int32.toInt (tD k) ≤ 9) (aAK : 0 ≤ Int32.toInt qB ∧ Int32.toInt qB ≤ 16) (hn21 : 30 - Int32.toInt x5 ≤ n21) : ws_X9_doActs_94 post K21 wE dN bD uU gF pL qF mX oE dY pQ pN x1 x2 x4 x5 k0 jE eW eY dU fY gJ jG nU qY qU pR uM tD qB jK := by
  have l0 := aEc
  have f50 := aAT x2
  have f51 := aAT k0
  have f52 := aAT jE
  have f53 := aAT eW
  have f54 := aAT eY
  have f55 := aAT dU
  have f56 := aAT gJ
  have f57 := aAT nU
  exact ts_X9_doActs_99 wE dN bD uU gF pL qF mX oE dY pQ pN xL wX zU hpost hK21 x1 x2 x4 x5 k0 1 jE eW eY dU fY gJ jG nU qY qU pR uM tD qB jK aBK aDO aF7 (by omega) aAC zK aAr aBy aBF aBG aAK hn21
set_option maxHeartbeats 8000000 in
set_option maxRecDepth 200000 in
theorem ts_X9_doActs_21 {post : Int32 → Int32 → Int32 → Int32 → Int32 → Int32 → Int32 → Int32 → Int32 → (Nat → Int32) → (Nat → Int32) → Int32 → Int32 → (Nat → Int32) → Int32 → (Nat → Int32) → Prop} {next : Int32 → Int32 → Int32 → Int32 → Int32 → Int32 → Int32 → Int32 → Int32 → Int32 → Int32 → Int32 → Int32 → (Nat → Int32) → (Nat → Int32) → Int32 → Int32 → (Nat → Int32) → Int32 → (Nat → Int32) → Prop} {n21 : Int} (wE : Nat → Int32) (dN bD : Int32) (uU gF pL qF mX oE dY : Nat → Int32) (pQ : Int32) (pN : Nat → Int32) (xL : 0 ≤ Int32.toInt dN ∧ Int32.toInt dN ≤ 16) (wX : 0 ≤ Int32.toInt bD ∧ Int32.toInt bD ≤ 8) (zU : 0 ≤ Int32.toInt pQ ∧ Int32.toInt pQ ≤ 40) (hpost : ∀ (r : Int32) (aHN : Int32) (aGq : Int32) (aGr : Int32) (aFB : Int32) (aCx : Int32) (aI5 : Int32) (aDz : Int32) (aFi : Int32) (aCG : Nat → Int32) (aB4 : Nat → Int32) (aBa : Int32) (aEN : Int32) (aCN : Nat → Int32) (zV : Int32) (aAV : Nat → Int32), (-1 ≤ Int32.toInt aCx ∧ Int32.toInt aCx ≤ 7) → (0 ≤ Int32.toInt aDz ∧ Int32.toInt aDz ≤ 9) → (0 ≤ Int32.toInt aBa ∧ Int32.toInt aBa ≤ 12) → (0 ≤ Int32.toInt aEN ∧ Int32.toInt aEN ≤ 12) → (∀ k : Nat, k % 8 = 4 → -1 ≤ Int32.toInt (aCN k) ∧ Int32.toInt (aCN k) ≤ 7) → (∀ k : Nat, k % 8 = 6 → 0 ≤ Int32.toInt (aCN k) ∧ Int32.toInt (aCN k) ≤ 9) → (2 ≤ Int32.toInt zV ∧ Int32.toInt zV ≤ 2) → post r aHN aGq aGr aFB aCx aI5 aDz aFi aCG aB4 aBa aEN aCN zV aAV) (hKn : ∀ (x1 : Int32) (x2 : Int32) (x3 : Int32) (x4 : Int32) (x5 : Int32) (jE : Int32) (eW : Int32) (eY : Int32) (dU : Int32) (fY : Int32) (gJ : Int32) (jG : Int32) (nU : Int32) (qY : Nat → Int32) (qU : Nat → Int32) (pR : Int32) (uM : Int32) (tD : Nat → Int32) (qB : Int32) (jK : Nat → Int32), (-1 ≤ Int32.toInt x1 ∧ Int32.toInt x1 ≤ 30) → (0 ≤ Int32.toInt x4 ∧ Int32.toInt x4 ≤ 1) → (0 ≤ Int32.toInt x5 ∧ Int32.toInt x5 ≤ 30) → (-1 ≤ Int32.toInt fY ∧ Int32.toInt fY ≤ 7) → (0 ≤ Int32.toInt jG ∧ Int32.toInt jG ≤ 9) → (0 ≤ Int32.toInt pR ∧ Int32.toInt pR ≤ 12) → (0 ≤ Int32.toInt uM ∧ Int32.toInt uM ≤ 12) → (∀ k : Nat, k % 8 = 4 → -1 ≤ Int32.toInt (tD k) ∧ Int32.toInt (tD k) ≤ 7) → (∀ k : Nat, k % 8 = 6 → 0 ≤ Int32.toInt (tD k) ∧ Int32.toInt (tD k) ≤ 9) → (0 ≤ Int32.toInt qB ∧ Int32.toInt qB ≤ 16) → (30 - Int32.toInt x5 < n21) → next x1 x2 x3 x4 x5 jE eW eY dU fY gJ jG nU qY qU pR uM tD qB jK) (x1 x2 x3 x4 x5 jE eW eY dU fY gJ jG nU : Int32) (qY qU : Nat → Int32) (pR uM : Int32) (tD : Nat → Int32) (qB : Int32) (jK : Nat → Int32) (aBK : -1 ≤ Int32.toInt x1 ∧ Int32.toInt x1 ≤ 30) (aDO : 0 ≤ Int32.toInt x4 ∧ Int32.toInt x4 ≤ 1) (aF7 : 0 ≤ Int32.toInt x5 ∧ Int32.toInt x5 ≤ 30) (aAC : -1 ≤ Int32.toInt fY ∧ Int32.toInt fY ≤ 7) (zK : 0 ≤ Int32.toInt jG ∧ Int32.toInt jG ≤ 9) (aAr : 0 ≤ Int32.toInt pR ∧ Int32.toInt pR ≤ 12) (aBy : 0 ≤ Int32.toInt uM ∧ Int32.toInt uM ≤ 12) (aBF : ∀ k : Nat, k % 8 = 4 → -1 ≤ Int32.toInt (tD k) ∧ Int32.toInt (tD k) ≤ 7) (aBG : ∀ k : Nat, k % 8 = 6 → 0 ≤ Int32.toInt (tD k) ∧ Int32.toInt (tD k) ≤ 9) (aAK : 0 ≤ Int32.toInt qB ∧ Int32.toInt qB ≤ 16) (hn21 : 30 - Int32.toInt x5 ≤ n21) : ws_X9_doActs_21 post next wE dN bD uU gF pL qF mX oE dY pQ pN x1 x2 x3 x4 x5 jE eW eY dU fY gJ jG nU qY qU pR uM tD qB jK := by
  have l0 := aE0
  have l1 := aEc
  have l2 := li_104
  have l3 := li_112
  have l4 := li_30
  refine And.intro (fun c58 => ?_) (fun c58 => ?_)
  · skip
    have c58 := (aAO _ _).mp c58
    have f59 := aAT x2
    have f60 := aAT x3
    have f61 := aAT jE
    have f62 := aAT eW
    have f63 := aAT eY
    have f64 := aAT dU
    have f65 := aAT gJ
    have f66 := aAT nU
    exact ts_X9_doActs_107 wE dN bD uU gF pL qF mX oE dY pQ pN xL wX zU hpost x2 x3 x4 jE eW eY dU fY gJ jG nU qY qU pR uM tD qB jK aDO aAC zK aAr aBy aBF aBG aAK
  · skip
    have c58 := mt (aAO _ _).mpr c58
    refine And.intro (fun c67 => ?_) (fun c67 => ?_)
    · skip
      have c67 := (aAO _ _).mp c67
      exfalso; omega
    · skip
      have c67 := mt (aAO _ _).mpr c67
      refine And.intro (fun c68 => ?_) (fun c68 => ?_)
      · skip
        have c68 := mt (zJ _ _).mpr c68
        have f69 := aAT x2
        have f70 := aAT x3
        have f71 := aAT jE
        have f72 := aAT eW
        have f73 := aAT eY
        have f74 := aAT dU
        have f75 := aAT gJ
        have f76 := aAT nU
        exact ts_X9_doActs_107 wE dN bD uU gF pL qF mX oE dY pQ pN xL wX zU hpost x2 x3 x4 jE eW eY dU fY gJ jG nU qY qU pR uM tD qB jK aDO aAC zK aAr aBy aBF aBG aAK
      · skip
        have c68 := (zJ _ _).mp c68
        refine And.intro (aBZ (by omega)) ?_
        intro v77 ev77
        have hv77 := congrArg Int32.toInt ev77
        intro v79 ev79
        refine And.intro (aBZ (by omega)) ?_
        intro v80 ev80
        have hv80 := congrArg Int32.toInt ev80
        intro v81 ev81
        refine t_X9_doAct xL wX aAC zK zU (fun r92 no_apron_82 no_basket_83 no_ground_84 no_bruised_85 no_ladder_86 no_helper_87 no_today_88 no_clock_89 ru_given_90 ru_stack_91 h_no_ladder_86 h_no_today_88 => ?_)
        have f94 := aAT r92
        refine And.intro (fun c93 => ?_) (fun c93 => ?_)
        · skip
          have c93 := (aAO _ _).mp c93
          intro v95 ev95
          have hv95 := congrArg Int32.toInt ev95
          have f98 := aAT v79
          refine And.intro (fun c97 => ?_) (fun c97 => ?_)
          · skip
            have c97 := (zJ _ _).mp c97
            have f99 := aAT v95
            have f100 := aAT x3
            have f101 := aAT no_apron_82
            have f102 := aAT no_basket_83
            have f103 := aAT no_ground_84
            have f104 := aAT no_bruised_85
            have f105 := aAT no_helper_87
            have f106 := aAT no_clock_89
            exact ts_X9_doActs_94 wE dN bD uU gF pL qF mX oE dY pQ pN xL wX zU hpost hKn x1 v95 x4 x5 x3 no_apron_82 no_basket_83 no_ground_84 no_bruised_85 no_ladder_86 no_helper_87 no_today_88 no_clock_89 ru_given_90 ru_stack_91 pR uM tD qB jK (by omega) (by omega) (by omega) h_no_ladder_86 h_no_today_88 aAr aBy aBF aBG aAK hn21
          · skip
            have c97 := mt (zJ _ _).mpr c97
            refine And.intro (fun c107 => ?_) (fun c107 => ?_)
            · skip
              have c107 := mt (zJ _ _).mpr c107
              have f108 := aAT v95
              have f109 := aAT x3
              have f110 := aAT no_apron_82
              have f111 := aAT no_basket_83
              have f112 := aAT no_ground_84
              have f113 := aAT no_bruised_85
              have f114 := aAT no_helper_87
              have f115 := aAT no_clock_89
              exact ts_X9_doActs_99 wE dN bD uU gF pL qF mX oE dY pQ pN xL wX zU hpost hKn x1 v95 x4 x5 x3 0 no_apron_82 no_basket_83 no_ground_84 no_bruised_85 no_ladder_86 no_helper_87 no_today_88 no_clock_89 ru_given_90 ru_stack_91 pR uM tD qB jK (by omega) (by omega) (by omega) (by omega) h_no_ladder_86 h_no_today_88 aAr aBy aBF aBG aAK hn21
            · skip
              have c107 := (zJ _ _).mp c107
              have f116 := aAT v95
              have f117 := aAT x3
              have f118 := aAT no_apron_82
              have f119 := aAT no_basket_83
              have f120 := aAT no_ground_84
              have f121 := aAT no_bruised_85
              have f122 := aAT no_helper_87
              have f123 := aAT no_clock_89
              exact ts_X9_doActs_94 wE dN bD uU gF pL qF mX oE dY pQ pN xL wX zU hpost hKn x1 v95 x4 x5 x3 no_apron_82 no_basket_83 no_ground_84 no_bruised_85 no_ladder_86 no_helper_87 no_today_88 no_clock_89 ru_given_90 ru_stack_91 pR uM tD qB jK (by omega) (by omega) (by omega) h_no_ladder_86 h_no_today_88 aAr aBy aBF aBG aAK hn21
        · skip
          have c93 := mt (aAO _ _).mpr c93
          have f124 := aAT x2
          have f125 := aAT x3
          have f126 := aAT no_apron_82
          have f127 := aAT no_basket_83
          have f128 := aAT no_ground_84
          have f129 := aAT no_bruised_85
          have f130 := aAT no_helper_87
          have f131 := aAT no_clock_89
          exact ts_X9_doActs_101 wE dN bD uU gF pL qF mX oE dY pQ pN xL wX zU hpost hKn x1 x2 x3 1 x5 no_apron_82 no_basket_83 no_ground_84 no_bruised_85 no_ladder_86 no_helper_87 no_today_88 no_clock_89 ru_given_90 ru_stack_91 pR uM tD qB jK (by omega) (by omega) (by omega) h_no_ladder_86 h_no_today_88 aAr aBy aBF aBG aAK hn21
set_option maxHeartbeats 8000000 in
set_option maxRecDepth 200000 in
theorem tb_X9_doActs_21 {post : Int32 → Int32 → Int32 → Int32 → Int32 → Int32 → Int32 → Int32 → Int32 → (Nat → Int32) → (Nat → Int32) → Int32 → Int32 → (Nat → Int32) → Int32 → (Nat → Int32) → Prop} (wE : Nat → Int32) (dN bD : Int32) (uU gF pL qF mX oE dY : Nat → Int32) (pQ : Int32) (pN : Nat → Int32) (xL : 0 ≤ Int32.toInt dN ∧ Int32.toInt dN ≤ 16) (wX : 0 ≤ Int32.toInt bD ∧ Int32.toInt bD ≤ 8) (zU : 0 ≤ Int32.toInt pQ ∧ Int32.toInt pQ ≤ 40) (hpost : ∀ (r : Int32) (aHN : Int32) (aGq : Int32) (aGr : Int32) (aFB : Int32) (aCx : Int32) (aI5 : Int32) (aDz : Int32) (aFi : Int32) (aCG : Nat → Int32) (aB4 : Nat → Int32) (aBa : Int32) (aEN : Int32) (aCN : Nat → Int32) (zV : Int32) (aAV : Nat → Int32), (-1 ≤ Int32.toInt aCx ∧ Int32.toInt aCx ≤ 7) → (0 ≤ Int32.toInt aDz ∧ Int32.toInt aDz ≤ 9) → (0 ≤ Int32.toInt aBa ∧ Int32.toInt aBa ≤ 12) → (0 ≤ Int32.toInt aEN ∧ Int32.toInt aEN ≤ 12) → (∀ k : Nat, k % 8 = 4 → -1 ≤ Int32.toInt (aCN k) ∧ Int32.toInt (aCN k) ≤ 7) → (∀ k : Nat, k % 8 = 6 → 0 ≤ Int32.toInt (aCN k) ∧ Int32.toInt (aCN k) ≤ 9) → (2 ≤ Int32.toInt zV ∧ Int32.toInt zV ≤ 2) → post r aHN aGq aGr aFB aCx aI5 aDz aFi aCG aB4 aBa aEN aCN zV aAV) : ∀ (n : Nat) (x1 x2 x3 x4 x5 jE eW eY dU fY gJ jG nU : Int32) (qY qU : Nat → Int32) (pR uM : Int32) (tD : Nat → Int32) (qB : Int32) (jK : Nat → Int32), (-1 ≤ Int32.toInt x1 ∧ Int32.toInt x1 ≤ 30) → (0 ≤ Int32.toInt x4 ∧ Int32.toInt x4 ≤ 1) → (0 ≤ Int32.toInt x5 ∧ Int32.toInt x5 ≤ 30) → (-1 ≤ Int32.toInt fY ∧ Int32.toInt fY ≤ 7) → (0 ≤ Int32.toInt jG ∧ Int32.toInt jG ≤ 9) → (0 ≤ Int32.toInt pR ∧ Int32.toInt pR ≤ 12) → (0 ≤ Int32.toInt uM ∧ Int32.toInt uM ≤ 12) → (∀ k : Nat, k % 8 = 4 → -1 ≤ Int32.toInt (tD k) ∧ Int32.toInt (tD k) ≤ 7) → (∀ k : Nat, k % 8 = 6 → 0 ≤ Int32.toInt (tD k) ∧ Int32.toInt (tD k) ≤ 9) → (0 ≤ Int32.toInt qB ∧ Int32.toInt qB ≤ 16) → (30 - Int32.toInt x5 < (n : Int)) → wb_X9_doActs_21 post wE dN bD uU gF pL qF mX oE dY pQ pN n x1 x2 x3 x4 x5 jE eW eY dU fY gJ jG nU qY qU pR uM tD qB jK := by
  intro n
  induction n with
  | zero =>
    intro x1 x2 x3 x4 x5 jE eW eY dU fY gJ jG nU qY qU pR uM tD qB jK aBK aDO aF7 aAC zK aAr aBy aBF aBG aAK hm
    exfalso; omega
  | succ n ih =>
    intro x1 x2 x3 x4 x5 jE eW eY dU fY gJ jG nU qY qU pR uM tD qB jK aBK aDO aF7 aAC zK aAr aBy aBF aBG aAK hm
    exact ts_X9_doActs_21 wE dN bD uU gF pL qF mX oE dY pQ pN xL wX zU hpost ih x1 x2 x3 x4 x5 jE eW eY dU fY gJ jG nU qY qU pR uM tD qB jK aBK aDO aF7 aAC zK aAr aBy aBF aBG aAK (by omega)
set_option maxHeartbeats 8000000 in
set_option maxRecDepth 200000 in
theorem t_X9_doActs {post : Int32 → Int32 → Int32 → Int32 → Int32 → Int32 → Int32 → Int32 → Int32 → (Nat → Int32) → (Nat → Int32) → Int32 → Int32 → (Nat → Int32) → Int32 → (Nat → Int32) → Prop} {p0 : Int32} {wE : Nat → Int32} {dN bD : Int32} {uU gF pL qF mX oE dY : Nat → Int32} {jE eW eY dU fY gJ jG nU pQ : Int32} {qY qU pN : Nat → Int32} {pR uM : Int32} {tD : Nat → Int32} {qB : Int32} {jK : Nat → Int32} (h_p0 : -1 ≤ Int32.toInt p0 ∧ Int32.toInt p0 ≤ 30) (xL : 0 ≤ Int32.toInt dN ∧ Int32.toInt dN ≤ 16) (wX : 0 ≤ Int32.toInt bD ∧ Int32.toInt bD ≤ 8) (aAC : -1 ≤ Int32.toInt fY ∧ Int32.toInt fY ≤ 7) (zK : 0 ≤ Int32.toInt jG ∧ Int32.toInt jG ≤ 9) (zU : 0 ≤ Int32.toInt pQ ∧ Int32.toInt pQ ≤ 40) (aAr : 0 ≤ Int32.toInt pR ∧ Int32.toInt pR ≤ 12) (aBy : 0 ≤ Int32.toInt uM ∧ Int32.toInt uM ≤ 12) (aBF : ∀ k : Nat, k % 8 = 4 → -1 ≤ Int32.toInt (tD k) ∧ Int32.toInt (tD k) ≤ 7) (aBG : ∀ k : Nat, k % 8 = 6 → 0 ≤ Int32.toInt (tD k) ∧ Int32.toInt (tD k) ≤ 9) (aAK : 0 ≤ Int32.toInt qB ∧ Int32.toInt qB ≤ 16) (hpost : ∀ (r : Int32) (aHN : Int32) (aGq : Int32) (aGr : Int32) (aFB : Int32) (aCx : Int32) (aI5 : Int32) (aDz : Int32) (aFi : Int32) (aCG : Nat → Int32) (aB4 : Nat → Int32) (aBa : Int32) (aEN : Int32) (aCN : Nat → Int32) (zV : Int32) (aAV : Nat → Int32), (-1 ≤ Int32.toInt aCx ∧ Int32.toInt aCx ≤ 7) → (0 ≤ Int32.toInt aDz ∧ Int32.toInt aDz ≤ 9) → (0 ≤ Int32.toInt aBa ∧ Int32.toInt aBa ≤ 12) → (0 ≤ Int32.toInt aEN ∧ Int32.toInt aEN ≤ 12) → (∀ k : Nat, k % 8 = 4 → -1 ≤ Int32.toInt (aCN k) ∧ Int32.toInt (aCN k) ≤ 7) → (∀ k : Nat, k % 8 = 6 → 0 ≤ Int32.toInt (aCN k) ∧ Int32.toInt (aCN k) ≤ 9) → (2 ≤ Int32.toInt zV ∧ Int32.toInt zV ≤ 2) → post r aHN aGq aGr aFB aCx aI5 aDz aFi aCG aB4 aBa aEN aCN zV aAV) : wp_X9_doActs post p0 wE dN bD uU gF pL qF mX oE dY jE eW eY dU fY gJ jG nU pQ qY qU pN pR uM tD qB jK := by
  have l0 := aE0
  have l1 := aEc
  have l2 := li_104
  have l3 := li_2
  have l4 := li_3
  have l5 := li_4
  have l6 := li_5
  have l7 := li_6
  have l8 := li_7
  have l9 := li_8
  intro v132 ev132
  have f133 : Int32.toInt (uM * 8) = Int32.toInt uM * 8 := ta_mulc _ _ (by decide) (by omega)
  rw [← ev132] at f133
  refine And.intro (fun c134 => ?_) (fun c134 => ?_)
  · skip
    have c134 := (aAd _ _).mp c134
    exfalso; omega
  · skip
    have c134 := mt (aAd _ _).mpr c134
    have f136 : Int32.toInt (104 - 8) = Int32.toInt (104 : Int32) - Int32.toInt (8 : Int32) := aCA _ _ (by omega)
    refine And.intro (fun c135 => ?_) (fun c135 => ?_)
    · skip
      have c135 := (aAO _ _).mp c135
      refine And.intro (aBZ (by omega)) ?_
      have f138 := aAT jE
      have e137 : ∀ k : Nat, k % 8 = 4 → -1 ≤ Int32.toInt ((upd tD v132.toNatClampNeg jE) k) ∧ Int32.toInt ((upd tD v132.toNatClampNeg jE) k) ≤ 7 := aCJ (C := fun k => k % 8 = 4) aBF (fun hk => by have e9 : v132.toNatClampNeg = (Int32.toInt v132).toNat := rfl; have hk : v132.toNatClampNeg % 8 = 4 := hk; omega)
      have e139 : ∀ k : Nat, k % 8 = 6 → 0 ≤ Int32.toInt ((upd tD v132.toNatClampNeg jE) k) ∧ Int32.toInt ((upd tD v132.toNatClampNeg jE) k) ≤ 9 := aCJ (C := fun k => k % 8 = 6) aBG (fun hk => by have e9 : v132.toNatClampNeg = (Int32.toInt v132).toNat := rfl; have hk : v132.toNatClampNeg % 8 = 6 := hk; omega)
      intro v140 ev140
      have f141 : Int32.toInt (v132 + 1) = Int32.toInt v132 + Int32.toInt (1 : Int32) := aAD _ _ (by omega)
      rw [← ev140] at f141
      refine And.intro (aBZ (by omega)) ?_
      have f143 := aAT eW
      have e142 : ∀ k : Nat, k % 8 = 4 → -1 ≤ Int32.toInt ((upd (upd tD v132.toNatClampNeg jE) v140.toNatClampNeg eW) k) ∧ Int32.toInt ((upd (upd tD v132.toNatClampNeg jE) v140.toNatClampNeg eW) k) ≤ 7 := aCJ (C := fun k => k % 8 = 4) e137 (fun hk => by have e9 : v140.toNatClampNeg = (Int32.toInt v140).toNat := rfl; have hk : v140.toNatClampNeg % 8 = 4 := hk; omega)
      have e144 : ∀ k : Nat, k % 8 = 6 → 0 ≤ Int32.toInt ((upd (upd tD v132.toNatClampNeg jE) v140.toNatClampNeg eW) k) ∧ Int32.toInt ((upd (upd tD v132.toNatClampNeg jE) v140.toNatClampNeg eW) k) ≤ 9 := aCJ (C := fun k => k % 8 = 6) e139 (fun hk => by have e9 : v140.toNatClampNeg = (Int32.toInt v140).toNat := rfl; have hk : v140.toNatClampNeg % 8 = 6 := hk; omega)
      intro v145 ev145
      have f146 : Int32.toInt (v132 + 2) = Int32.toInt v132 + Int32.toInt (2 : Int32) := aAD _ _ (by omega)
      rw [← ev145] at f146
      refine And.intro (aBZ (by omega)) ?_
      have f148 := aAT eY
      have e147 : ∀ k : Nat, k % 8 = 4 → -1 ≤ Int32.toInt ((upd (upd (upd tD v132.toNatClampNeg jE) v140.toNatClampNeg eW) v145.toNatClampNeg eY) k) ∧ Int32.toInt ((upd (upd (upd tD v132.toNatClampNeg jE) v140.toNatClampNeg eW) v145.toNatClampNeg eY) k) ≤ 7 := aCJ (C := fun k => k % 8 = 4) e142 (fun hk => by have e9 : v145.toNatClampNeg = (Int32.toInt v145).toNat := rfl; have hk : v145.toNatClampNeg % 8 = 4 := hk; omega)
      have e149 : ∀ k : Nat, k % 8 = 6 → 0 ≤ Int32.toInt ((upd (upd (upd tD v132.toNatClampNeg jE) v140.toNatClampNeg eW) v145.toNatClampNeg eY) k) ∧ Int32.toInt ((upd (upd (upd tD v132.toNatClampNeg jE) v140.toNatClampNeg eW) v145.toNatClampNeg eY) k) ≤ 9 := aCJ (C := fun k => k % 8 = 6) e144 (fun hk => by have e9 : v145.toNatClampNeg = (Int32.toInt v145).toNat := rfl; have hk : v145.toNatClampNeg % 8 = 6 := hk; omega)
      intro v150 ev150
      have f151 : Int32.toInt (v132 + 3) = Int32.toInt v132 + Int32.toInt (3 : Int32) := aAD _ _ (by omega)
      rw [← ev150] at f151
      refine And.intro (aBZ (by omega)) ?_
      have f153 := aAT dU
      have e152 : ∀ k : Nat, k % 8 = 4 → -1 ≤ Int32.toInt ((upd (upd (upd (upd tD v132.toNatClampNeg jE) v140.toNatClampNeg eW) v145.toNatClampNeg eY) v150.toNatClampNeg dU) k) ∧ Int32.toInt ((upd (upd (upd (upd tD v132.toNatClampNeg jE) v140.toNatClampNeg eW) v145.toNatClampNeg eY) v150.toNatClampNeg dU) k) ≤ 7 := aCJ (C := fun k => k % 8 = 4) e147 (fun hk => by have e9 : v150.toNatClampNeg = (Int32.toInt v150).toNat := rfl; have hk : v150.toNatClampNeg % 8 = 4 := hk; omega)
      have e154 : ∀ k : Nat, k % 8 = 6 → 0 ≤ Int32.toInt ((upd (upd (upd (upd tD v132.toNatClampNeg jE) v140.toNatClampNeg eW) v145.toNatClampNeg eY) v150.toNatClampNeg dU) k) ∧ Int32.toInt ((upd (upd (upd (upd tD v132.toNatClampNeg jE) v140.toNatClampNeg eW) v145.toNatClampNeg eY) v150.toNatClampNeg dU) k) ≤ 9 := aCJ (C := fun k => k % 8 = 6) e149 (fun hk => by have e9 : v150.toNatClampNeg = (Int32.toInt v150).toNat := rfl; have hk : v150.toNatClampNeg % 8 = 6 := hk; omega)
      intro v155 ev155
      have f156 : Int32.toInt (v132 + 4) = Int32.toInt v132 + Int32.toInt (4 : Int32) := aAD _ _ (by omega)
      rw [← ev155] at f156
      refine And.intro (aBZ (by omega)) ?_
      have e157 : ∀ k : Nat, k % 8 = 4 → -1 ≤ Int32.toInt ((upd (upd (upd (upd (upd tD v132.toNatClampNeg jE) v140.toNatClampNeg eW) v145.toNatClampNeg eY) v150.toNatClampNeg dU) v155.toNatClampNeg fY) k) ∧ Int32.toInt ((upd (upd (upd (upd (upd tD v132.toNatClampNeg jE) v140.toNatClampNeg eW) v145.toNatClampNeg eY) v150.toNatClampNeg dU) v155.toNatClampNeg fY) k) ≤ 7 := aCJ (C := fun k => k % 8 = 4) e152 (fun hk => by have e9 : v155.toNatClampNeg = (Int32.toInt v155).toNat := rfl; have hk : v155.toNatClampNeg % 8 = 4 := hk; omega)
      have e158 : ∀ k : Nat, k % 8 = 6 → 0 ≤ Int32.toInt ((upd (upd (upd (upd (upd tD v132.toNatClampNeg jE) v140.toNatClampNeg eW) v145.toNatClampNeg eY) v150.toNatClampNeg dU) v155.toNatClampNeg fY) k) ∧ Int32.toInt ((upd (upd (upd (upd (upd tD v132.toNatClampNeg jE) v140.toNatClampNeg eW) v145.toNatClampNeg eY) v150.toNatClampNeg dU) v155.toNatClampNeg fY) k) ≤ 9 := aCJ (C := fun k => k % 8 = 6) e154 (fun hk => by have e9 : v155.toNatClampNeg = (Int32.toInt v155).toNat := rfl; have hk : v155.toNatClampNeg % 8 = 6 := hk; omega)
      intro v159 ev159
      have f160 : Int32.toInt (v132 + 5) = Int32.toInt v132 + Int32.toInt (5 : Int32) := aAD _ _ (by omega)
      rw [← ev159] at f160
      refine And.intro (aBZ (by omega)) ?_
      have f162 := aAT gJ
      have e161 : ∀ k : Nat, k % 8 = 4 → -1 ≤ Int32.toInt ((upd (upd (upd (upd (upd (upd tD v132.toNatClampNeg jE) v140.toNatClampNeg eW) v145.toNatClampNeg eY) v150.toNatClampNeg dU) v155.toNatClampNeg fY) v159.toNatClampNeg gJ) k) ∧ Int32.toInt ((upd (upd (upd (upd (upd (upd tD v132.toNatClampNeg jE) v140.toNatClampNeg eW) v145.toNatClampNeg eY) v150.toNatClampNeg dU) v155.toNatClampNeg fY) v159.toNatClampNeg gJ) k) ≤ 7 := aCJ (C := fun k => k % 8 = 4) e157 (fun hk => by have e9 : v159.toNatClampNeg = (Int32.toInt v159).toNat := rfl; have hk : v159.toNatClampNeg % 8 = 4 := hk; omega)
      have e163 : ∀ k : Nat, k % 8 = 6 → 0 ≤ Int32.toInt ((upd (upd (upd (upd (upd (upd tD v132.toNatClampNeg jE) v140.toNatClampNeg eW) v145.toNatClampNeg eY) v150.toNatClampNeg dU) v155.toNatClampNeg fY) v159.toNatClampNeg gJ) k) ∧ Int32.toInt ((upd (upd (upd (upd (upd (upd tD v132.toNatClampNeg jE) v140.toNatClampNeg eW) v145.toNatClampNeg eY) v150.toNatClampNeg dU) v155.toNatClampNeg fY) v159.toNatClampNeg gJ) k) ≤ 9 := aCJ (C := fun k => k % 8 = 6) e158 (fun hk => by have e9 : v159.toNatClampNeg = (Int32.toInt v159).toNat := rfl; have hk : v159.toNatClampNeg % 8 = 6 := hk; omega)
      intro v164 ev164
      have f165 : Int32.toInt (v132 + 6) = Int32.toInt v132 + Int32.toInt (6 : Int32) := aAD _ _ (by omega)
      rw [← ev164] at f165
      refine And.intro (aBZ (by omega)) ?_
      have e166 : ∀ k : Nat, k % 8 = 4 → -1 ≤ Int32.toInt ((upd (upd (upd (upd (upd (upd (upd tD v132.toNatClampNeg jE) v140.toNatClampNeg eW) v145.toNatClampNeg eY) v150.toNatClampNeg dU) v155.toNatClampNeg fY) v159.toNatClampNeg gJ) v164.toNatClampNeg jG) k) ∧ Int32.toInt ((upd (upd (upd (upd (upd (upd (upd tD v132.toNatClampNeg jE) v140.toNatClampNeg eW) v145.toNatClampNeg eY) v150.toNatClampNeg dU) v155.toNatClampNeg fY) v159.toNatClampNeg gJ) v164.toNatClampNeg jG) k) ≤ 7 := aCJ (C := fun k => k % 8 = 4) e161 (fun hk => by have e9 : v164.toNatClampNeg = (Int32.toInt v164).toNat := rfl; have hk : v164.toNatClampNeg % 8 = 4 := hk; omega)
      have e167 : ∀ k : Nat, k % 8 = 6 → 0 ≤ Int32.toInt ((upd (upd (upd (upd (upd (upd (upd tD v132.toNatClampNeg jE) v140.toNatClampNeg eW) v145.toNatClampNeg eY) v150.toNatClampNeg dU) v155.toNatClampNeg fY) v159.toNatClampNeg gJ) v164.toNatClampNeg jG) k) ∧ Int32.toInt ((upd (upd (upd (upd (upd (upd (upd tD v132.toNatClampNeg jE) v140.toNatClampNeg eW) v145.toNatClampNeg eY) v150.toNatClampNeg dU) v155.toNatClampNeg fY) v159.toNatClampNeg gJ) v164.toNatClampNeg jG) k) ≤ 9 := aCJ (C := fun k => k % 8 = 6) e163 (fun hk => by have e9 : v164.toNatClampNeg = (Int32.toInt v164).toNat := rfl; have hk : v164.toNatClampNeg % 8 = 6 := hk; omega)
      intro v168 ev168
      have f169 : Int32.toInt (v132 + 7) = Int32.toInt v132 + Int32.toInt (7 : Int32) := aAD _ _ (by omega)
      rw [← ev168] at f169
      refine And.intro (aBZ (by omega)) ?_
      have f171 := aAT nU
      have e170 : ∀ k : Nat, k % 8 = 4 → -1 ≤ Int32.toInt ((upd (upd (upd (upd (upd (upd (upd (upd tD v132.toNatClampNeg jE) v140.toNatClampNeg eW) v145.toNatClampNeg eY) v150.toNatClampNeg dU) v155.toNatClampNeg fY) v159.toNatClampNeg gJ) v164.toNatClampNeg jG) v168.toNatClampNeg nU) k) ∧ Int32.toInt ((upd (upd (upd (upd (upd (upd (upd (upd tD v132.toNatClampNeg jE) v140.toNatClampNeg eW) v145.toNatClampNeg eY) v150.toNatClampNeg dU) v155.toNatClampNeg fY) v159.toNatClampNeg gJ) v164.toNatClampNeg jG) v168.toNatClampNeg nU) k) ≤ 7 := aCJ (C := fun k => k % 8 = 4) e166 (fun hk => by have e9 : v168.toNatClampNeg = (Int32.toInt v168).toNat := rfl; have hk : v168.toNatClampNeg % 8 = 4 := hk; omega)
      have e172 : ∀ k : Nat, k % 8 = 6 → 0 ≤ Int32.toInt ((upd (upd (upd (upd (upd (upd (upd (upd tD v132.toNatClampNeg jE) v140.toNatClampNeg eW) v145.toNatClampNeg eY) v150.toNatClampNeg dU) v155.toNatClampNeg fY) v159.toNatClampNeg gJ) v164.toNatClampNeg jG) v168.toNatClampNeg nU) k) ∧ Int32.toInt ((upd (upd (upd (upd (upd (upd (upd (upd tD v132.toNatClampNeg jE) v140.toNatClampNeg eW) v145.toNatClampNeg eY) v150.toNatClampNeg dU) v155.toNatClampNeg fY) v159.toNatClampNeg gJ) v164.toNatClampNeg jG) v168.toNatClampNeg nU) k) ≤ 9 := aCJ (C := fun k => k % 8 = 6) e167 (fun hk => by have e9 : v168.toNatClampNeg = (Int32.toInt v168).toNat := rfl; have hk : v168.toNatClampNeg % 8 = 6 := hk; omega)
      exact ⟨32, tb_X9_doActs_21 wE dN bD uU gF pL qF mX oE dY pQ pN xL wX zU hpost _ p0 0 0 0 0 jE eW eY dU fY gJ jG nU qY qU pR uM (upd (upd (upd (upd (upd (upd (upd (upd tD v132.toNatClampNeg jE) v140.toNatClampNeg eW) v145.toNatClampNeg eY) v150.toNatClampNeg dU) v155.toNatClampNeg fY) v159.toNatClampNeg gJ) v164.toNatClampNeg jG) v168.toNatClampNeg nU) qB jK h_p0 (by omega) (by omega) aAC zK aAr aBy e170 e172 aAK (by omega)⟩
    · skip
      have c135 := mt (aAO _ _).mpr c135
      exfalso; omega
