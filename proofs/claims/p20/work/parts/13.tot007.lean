set_option maxHeartbeats 8000000 in
set_option maxRecDepth 200000 in
theorem t_X9_pick {post : Int32 → Int32 → Int32 → Int32 → (Nat → Int32) → (Nat → Int32) → Int32 → Int32 → (Nat → Int32) → Prop} {p0 p1 dN : Int32} {uU gF pL qF mX oE dY : Nat → Int32} {jE eW eY dU fY gJ jG nU pQ : Int32} {qY qU pN : Nat → Int32} {pR uM : Int32} {tD : Nat → Int32} (xL : 0 ≤ Int32.toInt dN ∧ Int32.toInt dN ≤ 16) (aAC : -1 ≤ Int32.toInt fY ∧ Int32.toInt fY ≤ 7) (zK : 0 ≤ Int32.toInt jG ∧ Int32.toInt jG ≤ 9) (zU : 0 ≤ Int32.toInt pQ ∧ Int32.toInt pQ ≤ 40) (aAr : 0 ≤ Int32.toInt pR ∧ Int32.toInt pR ≤ 12) (aBy : 0 ≤ Int32.toInt uM ∧ Int32.toInt uM ≤ 12) (aBF : ∀ k : Nat, k % 8 = 4 → -1 ≤ Int32.toInt (tD k) ∧ Int32.toInt (tD k) ≤ 7) (aBG : ∀ k : Nat, k % 8 = 6 → 0 ≤ Int32.toInt (tD k) ∧ Int32.toInt (tD k) ≤ 9) (hpost : ∀ (r : Int32) (aHN : Int32) (aFB : Int32) (aFi : Int32) (aCG : Nat → Int32) (aB4 : Nat → Int32) (aBa : Int32) (aEN : Int32) (aCN : Nat → Int32), (-5 ≤ Int32.toInt r ∧ Int32.toInt r ≤ 99) → (0 ≤ Int32.toInt aBa ∧ Int32.toInt aBa ≤ 12) → (0 ≤ Int32.toInt aEN ∧ Int32.toInt aEN ≤ 12) → (∀ k : Nat, k % 8 = 4 → -1 ≤ Int32.toInt (aCN k) ∧ Int32.toInt (aCN k) ≤ 7) → (∀ k : Nat, k % 8 = 6 → 0 ≤ Int32.toInt (aCN k) ∧ Int32.toInt (aCN k) ≤ 9) → post r aHN aFB aFi aCG aB4 aBa aEN aCN) : wp_X9_pick post p0 p1 dN uU gF pL qF mX oE dY jE eW eY dU fY gJ jG nU pQ qY qU pN pR uM tD := by
  have l0 := aE0
  have l1 := aEc
  have l2 := li_104
  have l3 := li_12
  have l4 := li_13
  have l5 := li_2
  have l6 := li_3
  have l7 := li_4
  have l8 := li_5
  have l9 := li_6
  have l10 := li_7
  have l11 := li_8
  intro v1 ev1
  have f2 : Int32.toInt (uM * 8) = Int32.toInt uM * 8 := ta_mulc _ _ (by decide) (by omega)
  rw [← ev1] at f2
  refine And.intro (fun c3 => ?_) (fun c3 => ?_)
  · skip
    have c3 := (aAd _ _).mp c3
    exfalso; omega
  · skip
    have c3 := mt (aAd _ _).mpr c3
    have f5 : Int32.toInt (104 - 8) = Int32.toInt (104 : Int32) - Int32.toInt (8 : Int32) := aCA _ _ (by omega)
    refine And.intro (fun c4 => ?_) (fun c4 => ?_)
    · skip
      have c4 := (aAO _ _).mp c4
      refine And.intro (aBZ (by omega)) ?_
      have f7 := aAT jE
      have e6 : ∀ k : Nat, k % 8 = 4 → -1 ≤ Int32.toInt ((upd tD v1.toNatClampNeg jE) k) ∧ Int32.toInt ((upd tD v1.toNatClampNeg jE) k) ≤ 7 := aCJ (C := fun k => k % 8 = 4) aBF (fun hk => by have e9 : v1.toNatClampNeg = (Int32.toInt v1).toNat := rfl; have hk : v1.toNatClampNeg % 8 = 4 := hk; omega)
      have e8 : ∀ k : Nat, k % 8 = 6 → 0 ≤ Int32.toInt ((upd tD v1.toNatClampNeg jE) k) ∧ Int32.toInt ((upd tD v1.toNatClampNeg jE) k) ≤ 9 := aCJ (C := fun k => k % 8 = 6) aBG (fun hk => by have e9 : v1.toNatClampNeg = (Int32.toInt v1).toNat := rfl; have hk : v1.toNatClampNeg % 8 = 6 := hk; omega)
      intro v9 ev9
      have f10 : Int32.toInt (v1 + 1) = Int32.toInt v1 + Int32.toInt (1 : Int32) := aAD _ _ (by omega)
      rw [← ev9] at f10
      refine And.intro (aBZ (by omega)) ?_
      have f12 := aAT eW
      have e11 : ∀ k : Nat, k % 8 = 4 → -1 ≤ Int32.toInt ((upd (upd tD v1.toNatClampNeg jE) v9.toNatClampNeg eW) k) ∧ Int32.toInt ((upd (upd tD v1.toNatClampNeg jE) v9.toNatClampNeg eW) k) ≤ 7 := aCJ (C := fun k => k % 8 = 4) e6 (fun hk => by have e9 : v9.toNatClampNeg = (Int32.toInt v9).toNat := rfl; have hk : v9.toNatClampNeg % 8 = 4 := hk; omega)
      have e13 : ∀ k : Nat, k % 8 = 6 → 0 ≤ Int32.toInt ((upd (upd tD v1.toNatClampNeg jE) v9.toNatClampNeg eW) k) ∧ Int32.toInt ((upd (upd tD v1.toNatClampNeg jE) v9.toNatClampNeg eW) k) ≤ 9 := aCJ (C := fun k => k % 8 = 6) e8 (fun hk => by have e9 : v9.toNatClampNeg = (Int32.toInt v9).toNat := rfl; have hk : v9.toNatClampNeg % 8 = 6 := hk; omega)
      intro v14 ev14
      have f15 : Int32.toInt (v1 + 2) = Int32.toInt v1 + Int32.toInt (2 : Int32) := aAD _ _ (by omega)
      rw [← ev14] at f15
      refine And.intro (aBZ (by omega)) ?_
      have f17 := aAT eY
      have e16 : ∀ k : Nat, k % 8 = 4 → -1 ≤ Int32.toInt ((upd (upd (upd tD v1.toNatClampNeg jE) v9.toNatClampNeg eW) v14.toNatClampNeg eY) k) ∧ Int32.toInt ((upd (upd (upd tD v1.toNatClampNeg jE) v9.toNatClampNeg eW) v14.toNatClampNeg eY) k) ≤ 7 := aCJ (C := fun k => k % 8 = 4) e11 (fun hk => by have e9 : v14.toNatClampNeg = (Int32.toInt v14).toNat := rfl; have hk : v14.toNatClampNeg % 8 = 4 := hk; omega)
      have e18 : ∀ k : Nat, k % 8 = 6 → 0 ≤ Int32.toInt ((upd (upd (upd tD v1.toNatClampNeg jE) v9.toNatClampNeg eW) v14.toNatClampNeg eY) k) ∧ Int32.toInt ((upd (upd (upd tD v1.toNatClampNeg jE) v9.toNatClampNeg eW) v14.toNatClampNeg eY) k) ≤ 9 := aCJ (C := fun k => k % 8 = 6) e13 (fun hk => by have e9 : v14.toNatClampNeg = (Int32.toInt v14).toNat := rfl; have hk : v14.toNatClampNeg % 8 = 6 := hk; omega)
      intro v19 ev19
      have f20 : Int32.toInt (v1 + 3) = Int32.toInt v1 + Int32.toInt (3 : Int32) := aAD _ _ (by omega)
      rw [← ev19] at f20
      refine And.intro (aBZ (by omega)) ?_
      have f22 := aAT dU
      have e21 : ∀ k : Nat, k % 8 = 4 → -1 ≤ Int32.toInt ((upd (upd (upd (upd tD v1.toNatClampNeg jE) v9.toNatClampNeg eW) v14.toNatClampNeg eY) v19.toNatClampNeg dU) k) ∧ Int32.toInt ((upd (upd (upd (upd tD v1.toNatClampNeg jE) v9.toNatClampNeg eW) v14.toNatClampNeg eY) v19.toNatClampNeg dU) k) ≤ 7 := aCJ (C := fun k => k % 8 = 4) e16 (fun hk => by have e9 : v19.toNatClampNeg = (Int32.toInt v19).toNat := rfl; have hk : v19.toNatClampNeg % 8 = 4 := hk; omega)
      have e23 : ∀ k : Nat, k % 8 = 6 → 0 ≤ Int32.toInt ((upd (upd (upd (upd tD v1.toNatClampNeg jE) v9.toNatClampNeg eW) v14.toNatClampNeg eY) v19.toNatClampNeg dU) k) ∧ Int32.toInt ((upd (upd (upd (upd tD v1.toNatClampNeg jE) v9.toNatClampNeg eW) v14.toNatClampNeg eY) v19.toNatClampNeg dU) k) ≤ 9 := aCJ (C := fun k => k % 8 = 6) e18 (fun hk => by have e9 : v19.toNatClampNeg = (Int32.toInt v19).toNat := rfl; have hk : v19.toNatClampNeg % 8 = 6 := hk; omega)
      intro v24 ev24
      have f25 : Int32.toInt (v1 + 4) = Int32.toInt v1 + Int32.toInt (4 : Int32) := aAD _ _ (by omega)
      rw [← ev24] at f25
      refine And.intro (aBZ (by omega)) ?_
      have e26 : ∀ k : Nat, k % 8 = 4 → -1 ≤ Int32.toInt ((upd (upd (upd (upd (upd tD v1.toNatClampNeg jE) v9.toNatClampNeg eW) v14.toNatClampNeg eY) v19.toNatClampNeg dU) v24.toNatClampNeg fY) k) ∧ Int32.toInt ((upd (upd (upd (upd (upd tD v1.toNatClampNeg jE) v9.toNatClampNeg eW) v14.toNatClampNeg eY) v19.toNatClampNeg dU) v24.toNatClampNeg fY) k) ≤ 7 := aCJ (C := fun k => k % 8 = 4) e21 (fun hk => by have e9 : v24.toNatClampNeg = (Int32.toInt v24).toNat := rfl; have hk : v24.toNatClampNeg % 8 = 4 := hk; omega)
      have e27 : ∀ k : Nat, k % 8 = 6 → 0 ≤ Int32.toInt ((upd (upd (upd (upd (upd tD v1.toNatClampNeg jE) v9.toNatClampNeg eW) v14.toNatClampNeg eY) v19.toNatClampNeg dU) v24.toNatClampNeg fY) k) ∧ Int32.toInt ((upd (upd (upd (upd (upd tD v1.toNatClampNeg jE) v9.toNatClampNeg eW) v14.toNatClampNeg eY) v19.toNatClampNeg dU) v24.toNatClampNeg fY) k) ≤ 9 := aCJ (C := fun k => k % 8 = 6) e23 (fun hk => by have e9 : v24.toNatClampNeg = (Int32.toInt v24).toNat := rfl; have hk : v24.toNatClampNeg % 8 = 6 := hk; omega)
      intro v28 ev28
      have f29 : Int32.toInt (v1 + 5) = Int32.toInt v1 + Int32.toInt (5 : Int32) := aAD _ _ (by omega)
      rw [← ev28] at f29
      refine And.intro (aBZ (by omega)) ?_
      have f31 := aAT gJ
      have e30 : ∀ k : Nat, k % 8 = 4 → -1 ≤ Int32.toInt ((upd (upd (upd (upd (upd (upd tD v1.toNatClampNeg jE) v9.toNatClampNeg eW) v14.toNatClampNeg eY) v19.toNatClampNeg dU) v24.toNatClampNeg fY) v28.toNatClampNeg gJ) k) ∧ Int32.toInt ((upd (upd (upd (upd (upd (upd tD v1.toNatClampNeg jE) v9.toNatClampNeg eW) v14.toNatClampNeg eY) v19.toNatClampNeg dU) v24.toNatClampNeg fY) v28.toNatClampNeg gJ) k) ≤ 7 := aCJ (C := fun k => k % 8 = 4) e26 (fun hk => by have e9 : v28.toNatClampNeg = (Int32.toInt v28).toNat := rfl; have hk : v28.toNatClampNeg % 8 = 4 := hk; omega)
      have e32 : ∀ k : Nat, k % 8 = 6 → 0 ≤ Int32.toInt ((upd (upd (upd (upd (upd (upd tD v1.toNatClampNeg jE) v9.toNatClampNeg eW) v14.toNatClampNeg eY) v19.toNatClampNeg dU) v24.toNatClampNeg fY) v28.toNatClampNeg gJ) k) ∧ Int32.toInt ((upd (upd (upd (upd (upd (upd tD v1.toNatClampNeg jE) v9.toNatClampNeg eW) v14.toNatClampNeg eY) v19.toNatClampNeg dU) v24.toNatClampNeg fY) v28.toNatClampNeg gJ) k) ≤ 9 := aCJ (C := fun k => k % 8 = 6) e27 (fun hk => by have e9 : v28.toNatClampNeg = (Int32.toInt v28).toNat := rfl; have hk : v28.toNatClampNeg % 8 = 6 := hk; omega)
      intro v33 ev33
      have f34 : Int32.toInt (v1 + 6) = Int32.toInt v1 + Int32.toInt (6 : Int32) := aAD _ _ (by omega)
      rw [← ev33] at f34
      refine And.intro (aBZ (by omega)) ?_
      have e35 : ∀ k : Nat, k % 8 = 4 → -1 ≤ Int32.toInt ((upd (upd (upd (upd (upd (upd (upd tD v1.toNatClampNeg jE) v9.toNatClampNeg eW) v14.toNatClampNeg eY) v19.toNatClampNeg dU) v24.toNatClampNeg fY) v28.toNatClampNeg gJ) v33.toNatClampNeg jG) k) ∧ Int32.toInt ((upd (upd (upd (upd (upd (upd (upd tD v1.toNatClampNeg jE) v9.toNatClampNeg eW) v14.toNatClampNeg eY) v19.toNatClampNeg dU) v24.toNatClampNeg fY) v28.toNatClampNeg gJ) v33.toNatClampNeg jG) k) ≤ 7 := aCJ (C := fun k => k % 8 = 4) e30 (fun hk => by have e9 : v33.toNatClampNeg = (Int32.toInt v33).toNat := rfl; have hk : v33.toNatClampNeg % 8 = 4 := hk; omega)
      have e36 : ∀ k : Nat, k % 8 = 6 → 0 ≤ Int32.toInt ((upd (upd (upd (upd (upd (upd (upd tD v1.toNatClampNeg jE) v9.toNatClampNeg eW) v14.toNatClampNeg eY) v19.toNatClampNeg dU) v24.toNatClampNeg fY) v28.toNatClampNeg gJ) v33.toNatClampNeg jG) k) ∧ Int32.toInt ((upd (upd (upd (upd (upd (upd (upd tD v1.toNatClampNeg jE) v9.toNatClampNeg eW) v14.toNatClampNeg eY) v19.toNatClampNeg dU) v24.toNatClampNeg fY) v28.toNatClampNeg gJ) v33.toNatClampNeg jG) k) ≤ 9 := aCJ (C := fun k => k % 8 = 6) e32 (fun hk => by have e9 : v33.toNatClampNeg = (Int32.toInt v33).toNat := rfl; have hk : v33.toNatClampNeg % 8 = 6 := hk; omega)
      intro v37 ev37
      have f38 : Int32.toInt (v1 + 7) = Int32.toInt v1 + Int32.toInt (7 : Int32) := aAD _ _ (by omega)
      rw [← ev37] at f38
      refine And.intro (aBZ (by omega)) ?_
      have f40 := aAT nU
      have e39 : ∀ k : Nat, k % 8 = 4 → -1 ≤ Int32.toInt ((upd (upd (upd (upd (upd (upd (upd (upd tD v1.toNatClampNeg jE) v9.toNatClampNeg eW) v14.toNatClampNeg eY) v19.toNatClampNeg dU) v24.toNatClampNeg fY) v28.toNatClampNeg gJ) v33.toNatClampNeg jG) v37.toNatClampNeg nU) k) ∧ Int32.toInt ((upd (upd (upd (upd (upd (upd (upd (upd tD v1.toNatClampNeg jE) v9.toNatClampNeg eW) v14.toNatClampNeg eY) v19.toNatClampNeg dU) v24.toNatClampNeg fY) v28.toNatClampNeg gJ) v33.toNatClampNeg jG) v37.toNatClampNeg nU) k) ≤ 7 := aCJ (C := fun k => k % 8 = 4) e35 (fun hk => by have e9 : v37.toNatClampNeg = (Int32.toInt v37).toNat := rfl; have hk : v37.toNatClampNeg % 8 = 4 := hk; omega)
      have e41 : ∀ k : Nat, k % 8 = 6 → 0 ≤ Int32.toInt ((upd (upd (upd (upd (upd (upd (upd (upd tD v1.toNatClampNeg jE) v9.toNatClampNeg eW) v14.toNatClampNeg eY) v19.toNatClampNeg dU) v24.toNatClampNeg fY) v28.toNatClampNeg gJ) v33.toNatClampNeg jG) v37.toNatClampNeg nU) k) ∧ Int32.toInt ((upd (upd (upd (upd (upd (upd (upd (upd tD v1.toNatClampNeg jE) v9.toNatClampNeg eW) v14.toNatClampNeg eY) v19.toNatClampNeg dU) v24.toNatClampNeg fY) v28.toNatClampNeg gJ) v33.toNatClampNeg jG) v37.toNatClampNeg nU) k) ≤ 9 := aCJ (C := fun k => k % 8 = 6) e36 (fun hk => by have e9 : v37.toNatClampNeg = (Int32.toInt v37).toNat := rfl; have hk : v37.toNatClampNeg % 8 = 6 := hk; omega)
      refine t_X0_pickFruit xL aAC zK zU (fun r47 no_apron_42 no_bruised_43 no_clock_44 ru_given_45 ru_stack_46 h_r47 => ?_)
      refine And.intro (fun c48 => ?_) (fun c48 => ?_)
      · skip
        have c48 := (aAd _ _).mp c48
        exact hpost _ _ _ _ _ _ _ _ _ h_r47 aAr aBy e39 e41
      · skip
        have c48 := mt (aAd _ _).mpr c48
        intro v49 ev49
        have f50 : Int32.toInt (uM + 1) = Int32.toInt uM + Int32.toInt (1 : Int32) := aAD _ _ (by omega)
        rw [← ev49] at f50
        intro v51 ev51
        have f52 : Int32.toInt (v49 - v49 / 13 * 13) = Int32.toInt v49 % 13 := ti_rem _ _ (by decide) (by omega) (by decide)
        rw [← ev51] at f52
        intro v53 ev53
        have f54 : Int32.toInt (pR + 1) = Int32.toInt pR + Int32.toInt (1 : Int32) := aAD _ _ (by omega)
        rw [← ev53] at f54
        intro v55 ev55
        have f56 := ti_min (12 : Int32) v53
        have hv55 := congrArg Int32.toInt ev55
        exact hpost _ _ _ _ _ _ _ _ _ h_r47 (by omega) (by omega) e39 e41
    · skip
      have c4 := mt (aAO _ _).mpr c4
      exfalso; omega
set_option maxHeartbeats 8000000 in
set_option maxRecDepth 200000 in
theorem t_X9_down {post : Int32 → Int32 → Int32 → Int32 → Int32 → Int32 → (Nat → Int32) → Prop} {oE : Nat → Int32} {jE eW eY dU fY gJ jG nU pR uM : Int32} {tD : Nat → Int32} (aAC : -1 ≤ Int32.toInt fY ∧ Int32.toInt fY ≤ 7) (zK : 0 ≤ Int32.toInt jG ∧ Int32.toInt jG ≤ 9) (aAr : 0 ≤ Int32.toInt pR ∧ Int32.toInt pR ≤ 12) (aBy : 0 ≤ Int32.toInt uM ∧ Int32.toInt uM ≤ 12) (aBF : ∀ k : Nat, k % 8 = 4 → -1 ≤ Int32.toInt (tD k) ∧ Int32.toInt (tD k) ≤ 7) (aBG : ∀ k : Nat, k % 8 = 6 → 0 ≤ Int32.toInt (tD k) ∧ Int32.toInt (tD k) ≤ 9) (hpost : ∀ (r : Int32) (aHN : Int32) (aGq : Int32) (aFi : Int32) (aBa : Int32) (aEN : Int32) (aCN : Nat → Int32), (-2 ≤ Int32.toInt r ∧ Int32.toInt r ≤ 63) → (0 ≤ Int32.toInt aBa ∧ Int32.toInt aBa ≤ 12) → (0 ≤ Int32.toInt aEN ∧ Int32.toInt aEN ≤ 12) → (∀ k : Nat, k % 8 = 4 → -1 ≤ Int32.toInt (aCN k) ∧ Int32.toInt (aCN k) ≤ 7) → (∀ k : Nat, k % 8 = 6 → 0 ≤ Int32.toInt (aCN k) ∧ Int32.toInt (aCN k) ≤ 9) → post r aHN aGq aFi aBa aEN aCN) : wp_X9_down post oE jE eW eY dU fY gJ jG nU pR uM tD := by
  have l0 := aI2
  have l1 := li_m2
  have l2 := aE0
  have l3 := aEc
  have l4 := li_104
  have l5 := li_12
  have l6 := li_13
  have l7 := li_2
  have l8 := aJ8
  have l9 := li_3
  have l10 := li_4
  have l11 := li_5
  have l12 := li_6
  have l13 := li_63
  have l14 := li_7
  have l15 := li_8
  have l16 := aJ9
  have l17 := li_9999
  intro v1 ev1
  have f2 : Int32.toInt (uM * 8) = Int32.toInt uM * 8 := ta_mulc _ _ (by decide) (by omega)
  rw [← ev1] at f2
  refine And.intro (fun c3 => ?_) (fun c3 => ?_)
  · skip
    have c3 := (aAd _ _).mp c3
    exfalso; omega
  · skip
    have c3 := mt (aAd _ _).mpr c3
    have f5 : Int32.toInt (104 - 8) = Int32.toInt (104 : Int32) - Int32.toInt (8 : Int32) := aCA _ _ (by omega)
    refine And.intro (fun c4 => ?_) (fun c4 => ?_)
    · skip
      have c4 := (aAO _ _).mp c4
      refine And.intro (aBZ (by omega)) ?_
      have f7 := aAT jE
      have e6 : ∀ k : Nat, k % 8 = 4 → -1 ≤ Int32.toInt ((upd tD v1.toNatClampNeg jE) k) ∧ Int32.toInt ((upd tD v1.toNatClampNeg jE) k) ≤ 7 := aCJ (C := fun k => k % 8 = 4) aBF (fun hk => by have e9 : v1.toNatClampNeg = (Int32.toInt v1).toNat := rfl; have hk : v1.toNatClampNeg % 8 = 4 := hk; omega)
      have e8 : ∀ k : Nat, k % 8 = 6 → 0 ≤ Int32.toInt ((upd tD v1.toNatClampNeg jE) k) ∧ Int32.toInt ((upd tD v1.toNatClampNeg jE) k) ≤ 9 := aCJ (C := fun k => k % 8 = 6) aBG (fun hk => by have e9 : v1.toNatClampNeg = (Int32.toInt v1).toNat := rfl; have hk : v1.toNatClampNeg % 8 = 6 := hk; omega)
      intro v9 ev9
      have f10 : Int32.toInt (v1 + 1) = Int32.toInt v1 + Int32.toInt (1 : Int32) := aAD _ _ (by omega)
      rw [← ev9] at f10
      refine And.intro (aBZ (by omega)) ?_
      have f12 := aAT eW
      have e11 : ∀ k : Nat, k % 8 = 4 → -1 ≤ Int32.toInt ((upd (upd tD v1.toNatClampNeg jE) v9.toNatClampNeg eW) k) ∧ Int32.toInt ((upd (upd tD v1.toNatClampNeg jE) v9.toNatClampNeg eW) k) ≤ 7 := aCJ (C := fun k => k % 8 = 4) e6 (fun hk => by have e9 : v9.toNatClampNeg = (Int32.toInt v9).toNat := rfl; have hk : v9.toNatClampNeg % 8 = 4 := hk; omega)
      have e13 : ∀ k : Nat, k % 8 = 6 → 0 ≤ Int32.toInt ((upd (upd tD v1.toNatClampNeg jE) v9.toNatClampNeg eW) k) ∧ Int32.toInt ((upd (upd tD v1.toNatClampNeg jE) v9.toNatClampNeg eW) k) ≤ 9 := aCJ (C := fun k => k % 8 = 6) e8 (fun hk => by have e9 : v9.toNatClampNeg = (Int32.toInt v9).toNat := rfl; have hk : v9.toNatClampNeg % 8 = 6 := hk; omega)
      intro v14 ev14
      have f15 : Int32.toInt (v1 + 2) = Int32.toInt v1 + Int32.toInt (2 : Int32) := aAD _ _ (by omega)
      rw [← ev14] at f15
      refine And.intro (aBZ (by omega)) ?_
      have f17 := aAT eY
      have e16 : ∀ k : Nat, k % 8 = 4 → -1 ≤ Int32.toInt ((upd (upd (upd tD v1.toNatClampNeg jE) v9.toNatClampNeg eW) v14.toNatClampNeg eY) k) ∧ Int32.toInt ((upd (upd (upd tD v1.toNatClampNeg jE) v9.toNatClampNeg eW) v14.toNatClampNeg eY) k) ≤ 7 := aCJ (C := fun k => k % 8 = 4) e11 (fun hk => by have e9 : v14.toNatClampNeg = (Int32.toInt v14).toNat := rfl; have hk : v14.toNatClampNeg % 8 = 4 := hk; omega)
      have e18 : ∀ k : Nat, k % 8 = 6 → 0 ≤ Int32.toInt ((upd (upd (upd tD v1.toNatClampNeg jE) v9.toNatClampNeg eW) v14.toNatClampNeg eY) k) ∧ Int32.toInt ((upd (upd (upd tD v1.toNatClampNeg jE) v9.toNatClampNeg eW) v14.toNatClampNeg eY) k) ≤ 9 := aCJ (C := fun k => k % 8 = 6) e13 (fun hk => by have e9 : v14.toNatClampNeg = (Int32.toInt v14).toNat := rfl; have hk : v14.toNatClampNeg % 8 = 6 := hk; omega)
      intro v19 ev19
      have f20 : Int32.toInt (v1 + 3) = Int32.toInt v1 + Int32.toInt (3 : Int32) := aAD _ _ (by omega)
      rw [← ev19] at f20
      refine And.intro (aBZ (by omega)) ?_
      have f22 := aAT dU
      have e21 : ∀ k : Nat, k % 8 = 4 → -1 ≤ Int32.toInt ((upd (upd (upd (upd tD v1.toNatClampNeg jE) v9.toNatClampNeg eW) v14.toNatClampNeg eY) v19.toNatClampNeg dU) k) ∧ Int32.toInt ((upd (upd (upd (upd tD v1.toNatClampNeg jE) v9.toNatClampNeg eW) v14.toNatClampNeg eY) v19.toNatClampNeg dU) k) ≤ 7 := aCJ (C := fun k => k % 8 = 4) e16 (fun hk => by have e9 : v19.toNatClampNeg = (Int32.toInt v19).toNat := rfl; have hk : v19.toNatClampNeg % 8 = 4 := hk; omega)
      have e23 : ∀ k : Nat, k % 8 = 6 → 0 ≤ Int32.toInt ((upd (upd (upd (upd tD v1.toNatClampNeg jE) v9.toNatClampNeg eW) v14.toNatClampNeg eY) v19.toNatClampNeg dU) k) ∧ Int32.toInt ((upd (upd (upd (upd tD v1.toNatClampNeg jE) v9.toNatClampNeg eW) v14.toNatClampNeg eY) v19.toNatClampNeg dU) k) ≤ 9 := aCJ (C := fun k => k % 8 = 6) e18 (fun hk => by have e9 : v19.toNatClampNeg = (Int32.toInt v19).toNat := rfl; have hk : v19.toNatClampNeg % 8 = 6 := hk; omega)
      intro v24 ev24
      have f25 : Int32.toInt (v1 + 4) = Int32.toInt v1 + Int32.toInt (4 : Int32) := aAD _ _ (by omega)
      rw [← ev24] at f25
      refine And.intro (aBZ (by omega)) ?_
      have e26 : ∀ k : Nat, k % 8 = 4 → -1 ≤ Int32.toInt ((upd (upd (upd (upd (upd tD v1.toNatClampNeg jE) v9.toNatClampNeg eW) v14.toNatClampNeg eY) v19.toNatClampNeg dU) v24.toNatClampNeg fY) k) ∧ Int32.toInt ((upd (upd (upd (upd (upd tD v1.toNatClampNeg jE) v9.toNatClampNeg eW) v14.toNatClampNeg eY) v19.toNatClampNeg dU) v24.toNatClampNeg fY) k) ≤ 7 := aCJ (C := fun k => k % 8 = 4) e21 (fun hk => by have e9 : v24.toNatClampNeg = (Int32.toInt v24).toNat := rfl; have hk : v24.toNatClampNeg % 8 = 4 := hk; omega)
      have e27 : ∀ k : Nat, k % 8 = 6 → 0 ≤ Int32.toInt ((upd (upd (upd (upd (upd tD v1.toNatClampNeg jE) v9.toNatClampNeg eW) v14.toNatClampNeg eY) v19.toNatClampNeg dU) v24.toNatClampNeg fY) k) ∧ Int32.toInt ((upd (upd (upd (upd (upd tD v1.toNatClampNeg jE) v9.toNatClampNeg eW) v14.toNatClampNeg eY) v19.toNatClampNeg dU) v24.toNatClampNeg fY) k) ≤ 9 := aCJ (C := fun k => k % 8 = 6) e23 (fun hk => by have e9 : v24.toNatClampNeg = (Int32.toInt v24).toNat := rfl; have hk : v24.toNatClampNeg % 8 = 6 := hk; omega)
      intro v28 ev28
      have f29 : Int32.toInt (v1 + 5) = Int32.toInt v1 + Int32.toInt (5 : Int32) := aAD _ _ (by omega)
      rw [← ev28] at f29
      refine And.intro (aBZ (by omega)) ?_
      have f31 := aAT gJ
      have e30 : ∀ k : Nat, k % 8 = 4 → -1 ≤ Int32.toInt ((upd (upd (upd (upd (upd (upd tD v1.toNatClampNeg jE) v9.toNatClampNeg eW) v14.toNatClampNeg eY) v19.toNatClampNeg dU) v24.toNatClampNeg fY) v28.toNatClampNeg gJ) k) ∧ Int32.toInt ((upd (upd (upd (upd (upd (upd tD v1.toNatClampNeg jE) v9.toNatClampNeg eW) v14.toNatClampNeg eY) v19.toNatClampNeg dU) v24.toNatClampNeg fY) v28.toNatClampNeg gJ) k) ≤ 7 := aCJ (C := fun k => k % 8 = 4) e26 (fun hk => by have e9 : v28.toNatClampNeg = (Int32.toInt v28).toNat := rfl; have hk : v28.toNatClampNeg % 8 = 4 := hk; omega)
      have e32 : ∀ k : Nat, k % 8 = 6 → 0 ≤ Int32.toInt ((upd (upd (upd (upd (upd (upd tD v1.toNatClampNeg jE) v9.toNatClampNeg eW) v14.toNatClampNeg eY) v19.toNatClampNeg dU) v24.toNatClampNeg fY) v28.toNatClampNeg gJ) k) ∧ Int32.toInt ((upd (upd (upd (upd (upd (upd tD v1.toNatClampNeg jE) v9.toNatClampNeg eW) v14.toNatClampNeg eY) v19.toNatClampNeg dU) v24.toNatClampNeg fY) v28.toNatClampNeg gJ) k) ≤ 9 := aCJ (C := fun k => k % 8 = 6) e27 (fun hk => by have e9 : v28.toNatClampNeg = (Int32.toInt v28).toNat := rfl; have hk : v28.toNatClampNeg % 8 = 6 := hk; omega)
      intro v33 ev33
      have f34 : Int32.toInt (v1 + 6) = Int32.toInt v1 + Int32.toInt (6 : Int32) := aAD _ _ (by omega)
      rw [← ev33] at f34
      refine And.intro (aBZ (by omega)) ?_
      have e35 : ∀ k : Nat, k % 8 = 4 → -1 ≤ Int32.toInt ((upd (upd (upd (upd (upd (upd (upd tD v1.toNatClampNeg jE) v9.toNatClampNeg eW) v14.toNatClampNeg eY) v19.toNatClampNeg dU) v24.toNatClampNeg fY) v28.toNatClampNeg gJ) v33.toNatClampNeg jG) k) ∧ Int32.toInt ((upd (upd (upd (upd (upd (upd (upd tD v1.toNatClampNeg jE) v9.toNatClampNeg eW) v14.toNatClampNeg eY) v19.toNatClampNeg dU) v24.toNatClampNeg fY) v28.toNatClampNeg gJ) v33.toNatClampNeg jG) k) ≤ 7 := aCJ (C := fun k => k % 8 = 4) e30 (fun hk => by have e9 : v33.toNatClampNeg = (Int32.toInt v33).toNat := rfl; have hk : v33.toNatClampNeg % 8 = 4 := hk; omega)
      have e36 : ∀ k : Nat, k % 8 = 6 → 0 ≤ Int32.toInt ((upd (upd (upd (upd (upd (upd (upd tD v1.toNatClampNeg jE) v9.toNatClampNeg eW) v14.toNatClampNeg eY) v19.toNatClampNeg dU) v24.toNatClampNeg fY) v28.toNatClampNeg gJ) v33.toNatClampNeg jG) k) ∧ Int32.toInt ((upd (upd (upd (upd (upd (upd (upd tD v1.toNatClampNeg jE) v9.toNatClampNeg eW) v14.toNatClampNeg eY) v19.toNatClampNeg dU) v24.toNatClampNeg fY) v28.toNatClampNeg gJ) v33.toNatClampNeg jG) k) ≤ 9 := aCJ (C := fun k => k % 8 = 6) e32 (fun hk => by have e9 : v33.toNatClampNeg = (Int32.toInt v33).toNat := rfl; have hk : v33.toNatClampNeg % 8 = 6 := hk; omega)
      intro v37 ev37
      have f38 : Int32.toInt (v1 + 7) = Int32.toInt v1 + Int32.toInt (7 : Int32) := aAD _ _ (by omega)
      rw [← ev37] at f38
      refine And.intro (aBZ (by omega)) ?_
      have f40 := aAT nU
      have e39 : ∀ k : Nat, k % 8 = 4 → -1 ≤ Int32.toInt ((upd (upd (upd (upd (upd (upd (upd (upd tD v1.toNatClampNeg jE) v9.toNatClampNeg eW) v14.toNatClampNeg eY) v19.toNatClampNeg dU) v24.toNatClampNeg fY) v28.toNatClampNeg gJ) v33.toNatClampNeg jG) v37.toNatClampNeg nU) k) ∧ Int32.toInt ((upd (upd (upd (upd (upd (upd (upd (upd tD v1.toNatClampNeg jE) v9.toNatClampNeg eW) v14.toNatClampNeg eY) v19.toNatClampNeg dU) v24.toNatClampNeg fY) v28.toNatClampNeg gJ) v33.toNatClampNeg jG) v37.toNatClampNeg nU) k) ≤ 7 := aCJ (C := fun k => k % 8 = 4) e35 (fun hk => by have e9 : v37.toNatClampNeg = (Int32.toInt v37).toNat := rfl; have hk : v37.toNatClampNeg % 8 = 4 := hk; omega)
      have e41 : ∀ k : Nat, k % 8 = 6 → 0 ≤ Int32.toInt ((upd (upd (upd (upd (upd (upd (upd (upd tD v1.toNatClampNeg jE) v9.toNatClampNeg eW) v14.toNatClampNeg eY) v19.toNatClampNeg dU) v24.toNatClampNeg fY) v28.toNatClampNeg gJ) v33.toNatClampNeg jG) v37.toNatClampNeg nU) k) ∧ Int32.toInt ((upd (upd (upd (upd (upd (upd (upd (upd tD v1.toNatClampNeg jE) v9.toNatClampNeg eW) v14.toNatClampNeg eY) v19.toNatClampNeg dU) v24.toNatClampNeg fY) v28.toNatClampNeg gJ) v33.toNatClampNeg jG) v37.toNatClampNeg nU) k) ≤ 9 := aCJ (C := fun k => k % 8 = 6) e36 (fun hk => by have e9 : v37.toNatClampNeg = (Int32.toInt v37).toNat := rfl; have hk : v37.toNatClampNeg % 8 = 6 := hk; omega)
      refine And.intro (fun c42 => ?_) (fun c42 => ?_)
      · skip
        have c42 := (zJ _ _).mp c42
        refine And.intro (fun _ => ?_) (fun h9 => absurd h9 (by decide))
        exact hpost _ _ _ _ _ _ _ (by omega) aAr aBy e39 e41
      · skip
        have c42 := mt (zJ _ _).mpr c42
        refine And.intro (fun c43 => ?_) (fun c43 => ?_)
        · skip
          have c43 := mt (zJ _ _).mpr c43
          intro v44 ev44
          intro v45 ev45
          have hv45 := congrArg Int32.toInt ev45
          intro v47 ev47
          have f48 := aAQ v45 858993459 (by omega)
          have hv47 := congrArg Int32.toInt ev47
          intro v49 ev49
          intro v50 ev50
          have f52 := aAQ v49 858993459 (by omega)
          have f51 : Int32.toInt (v47 + (v49 &&& 858993459)) = Int32.toInt v47 + Int32.toInt (v49 &&& 858993459) := aAD _ _ (by omega)
          rw [← ev50] at f51
          intro v53 ev53
          have hv53 := congrArg Int32.toInt ev53
          intro v55 ev55
          have f56 := aAQ v53 252645135 (by omega)
          have hv55 := congrArg Int32.toInt ev55
          intro v57 ev57
          have hv57 := congrArg Int32.toInt ev57
          intro v59 ev59
          have hv59 := congrArg Int32.toInt ev59
          intro v61 ev61
          refine And.intro (aBZ (by omega)) ?_
          intro v62 ev62
          have hv62 := congrArg Int32.toInt ev62
          intro v64 ev64
          have hv64 := congrArg Int32.toInt ev64
          intro v66 ev66
          have hv66 := congrArg Int32.toInt ev66
          intro v68 ev68
          have f69 := aAT (if v66 < 9999 then v66 else 9999)
          have f71 := aAT v66
          have f70 := ti_min (9999 : Int32) v66
          have hv68 := congrArg Int32.toInt ev68
          have f73 := aAQ v59 63 (by omega)
          refine And.intro (fun c72 => ?_) (fun c72 => ?_)
          · skip
            have c72 := (aAd _ _).mp c72
            exfalso; omega
          · skip
            have c72 := mt (aAd _ _).mpr c72
            intro v74 ev74
            have f75 : Int32.toInt (uM + 1) = Int32.toInt uM + Int32.toInt (1 : Int32) := aAD _ _ (by omega)
            rw [← ev74] at f75
            intro v76 ev76
            have f77 : Int32.toInt (v74 - v74 / 13 * 13) = Int32.toInt v74 % 13 := ti_rem _ _ (by decide) (by omega) (by decide)
            rw [← ev76] at f77
            intro v78 ev78
            have f79 : Int32.toInt (pR + 1) = Int32.toInt pR + Int32.toInt (1 : Int32) := aAD _ _ (by omega)
            rw [← ev78] at f79
            intro v80 ev80
            have f81 := ti_min (12 : Int32) v78
            have hv80 := congrArg Int32.toInt ev80
            exact hpost _ _ _ _ _ _ _ (by omega) (by omega) (by omega) e39 e41
        · skip
          have c43 := (zJ _ _).mp c43
          refine And.intro (fun _ => ?_) (fun h9 => absurd h9 (by decide))
          exact hpost _ _ _ _ _ _ _ (by omega) aAr aBy e39 e41
    · skip
      have c4 := mt (aAO _ _).mpr c4
      exfalso; omega
