set_option maxHeartbeats 8000000 in
set_option maxRecDepth 200000 in
theorem t_X9_again {post : Int32 → Int32 → Int32 → Int32 → Int32 → Int32 → Int32 → Int32 → Int32 → Int32 → Prop} {p0 jE eW eY dU fY gJ jG nU pR : Int32} {rQ uF : Nat → Int32} (aAC : -1 ≤ Int32.toInt fY ∧ Int32.toInt fY ≤ 7) (zK : 0 ≤ Int32.toInt jG ∧ Int32.toInt jG ≤ 9) (aAr : 0 ≤ Int32.toInt pR ∧ Int32.toInt pR ≤ 12) (aA9 : ∀ k : Nat, k % 8 = 4 → -1 ≤ Int32.toInt (rQ k) ∧ Int32.toInt (rQ k) ≤ 7) (aBA : ∀ k : Nat, k % 8 = 6 → 0 ≤ Int32.toInt (rQ k) ∧ Int32.toInt (rQ k) ≤ 9) (aBU : ∀ k : Nat, 0 ≤ Int32.toInt (uF k) ∧ Int32.toInt (uF k) ≤ 1) (hpost : ∀ (r : Int32) (aHN : Int32) (aGq : Int32) (aGr : Int32) (aFB : Int32) (aCx : Int32) (aI5 : Int32) (aDz : Int32) (aFi : Int32) (aBa : Int32), (0 ≤ Int32.toInt r ∧ Int32.toInt r ≤ 1) → (-1 ≤ Int32.toInt aCx ∧ Int32.toInt aCx ≤ 7) → (0 ≤ Int32.toInt aDz ∧ Int32.toInt aDz ≤ 9) → (0 ≤ Int32.toInt aBa ∧ Int32.toInt aBa ≤ 12) → post r aHN aGq aGr aFB aCx aI5 aDz aFi aBa) : wp_X9_again post p0 jE eW eY dU fY gJ jG nU pR rQ uF := by
  have l0 := aE0
  have l1 := aEc
  have l2 := li_16
  have l3 := li_2
  have l4 := li_3
  have l5 := li_4
  have l6 := li_5
  have l7 := li_6
  have l8 := li_7
  have l9 := li_8
  have f2 := aAT p0
  refine And.intro (fun c1 => ?_) (fun c1 => ?_)
  · skip
    have c1 := (aAd _ _).mp c1
    refine And.intro (aHE (by omega)) ?_
    exact hpost _ _ _ _ _ _ _ _ _ _ (by omega) aAC zK aAr
  · skip
    have c1 := mt (aAd _ _).mpr c1
    refine And.intro (fun c3 => ?_) (fun c3 => ?_)
    · skip
      have c3 := (aAO _ _).mp c3
      refine And.intro (aHE (by omega)) ?_
      exact hpost _ _ _ _ _ _ _ _ _ _ (by omega) aAC zK aAr
    · skip
      have c3 := mt (aAO _ _).mpr c3
      refine And.intro (aBZ (by omega)) ?_
      have f5 := aBU p0.toNatClampNeg
      refine And.intro (fun c4 => ?_) (fun c4 => ?_)
      · skip
        have c4 := mt (zJ _ _).mpr c4
        intro v6 ev6
        have f7 : Int32.toInt (p0 * 8) = Int32.toInt p0 * 8 := ta_mulc _ _ (by decide) (by omega)
        rw [← ev6] at f7
        refine And.intro (fun c8 => ?_) (fun c8 => ?_)
        · skip
          have c8 := (aAd _ _).mp c8
          exfalso; omega
        · skip
          have c8 := mt (aAd _ _).mpr c8
          have f10 : Int32.toInt (16 - 8) = Int32.toInt (16 : Int32) - Int32.toInt (8 : Int32) := aCA _ _ (by omega)
          refine And.intro (fun c9 => ?_) (fun c9 => ?_)
          · skip
            have c9 := (aAO _ _).mp c9
            refine And.intro (aBZ (by omega)) ?_
            intro v11 ev11
            have hv11 := congrArg Int32.toInt ev11
            intro v13 ev13
            have f14 : Int32.toInt (v6 + 1) = Int32.toInt v6 + Int32.toInt (1 : Int32) := aAD _ _ (by omega)
            rw [← ev13] at f14
            refine And.intro (aBZ (by omega)) ?_
            intro v15 ev15
            have hv15 := congrArg Int32.toInt ev15
            intro v17 ev17
            have f18 : Int32.toInt (v6 + 2) = Int32.toInt v6 + Int32.toInt (2 : Int32) := aAD _ _ (by omega)
            rw [← ev17] at f18
            refine And.intro (aBZ (by omega)) ?_
            intro v19 ev19
            have hv19 := congrArg Int32.toInt ev19
            intro v21 ev21
            have f22 : Int32.toInt (v6 + 3) = Int32.toInt v6 + Int32.toInt (3 : Int32) := aAD _ _ (by omega)
            rw [← ev21] at f22
            refine And.intro (aBZ (by omega)) ?_
            intro v23 ev23
            have hv23 := congrArg Int32.toInt ev23
            intro v25 ev25
            have f26 : Int32.toInt (v6 + 4) = Int32.toInt v6 + Int32.toInt (4 : Int32) := aAD _ _ (by omega)
            rw [← ev25] at f26
            refine And.intro (aBZ (by omega)) ?_
            have q27 := aA9 v25.toNatClampNeg (by have e9 : v25.toNatClampNeg = (Int32.toInt v25).toNat := rfl; omega)
            intro v28 ev28
            have hv28 := congrArg Int32.toInt ev28
            intro v30 ev30
            have f31 : Int32.toInt (v6 + 5) = Int32.toInt v6 + Int32.toInt (5 : Int32) := aAD _ _ (by omega)
            rw [← ev30] at f31
            refine And.intro (aBZ (by omega)) ?_
            intro v32 ev32
            have hv32 := congrArg Int32.toInt ev32
            intro v34 ev34
            have f35 : Int32.toInt (v6 + 6) = Int32.toInt v6 + Int32.toInt (6 : Int32) := aAD _ _ (by omega)
            rw [← ev34] at f35
            refine And.intro (aBZ (by omega)) ?_
            have q36 := aBA v34.toNatClampNeg (by have e9 : v34.toNatClampNeg = (Int32.toInt v34).toNat := rfl; omega)
            intro v37 ev37
            have hv37 := congrArg Int32.toInt ev37
            intro v39 ev39
            have f40 : Int32.toInt (v6 + 7) = Int32.toInt v6 + Int32.toInt (7 : Int32) := aAD _ _ (by omega)
            rw [← ev39] at f40
            refine And.intro (aBZ (by omega)) ?_
            intro v41 ev41
            have hv41 := congrArg Int32.toInt ev41
            refine And.intro (aHE (by omega)) ?_
            exact hpost _ _ _ _ _ _ _ _ _ _ (by omega) (by omega) (by omega) (by omega)
          · skip
            have c9 := mt (aAO _ _).mpr c9
            exfalso; omega
      · skip
        have c4 := (zJ _ _).mp c4
        refine And.intro (aHE (by omega)) ?_
        exact hpost _ _ _ _ _ _ _ _ _ _ (by omega) aAC zK aAr
set_option maxHeartbeats 8000000 in
set_option maxRecDepth 200000 in
theorem t_X9_count {post : Int32 → Prop} {p0 qL dN bD : Int32} {pL : Nat → Int32} {jE eW eY dU fY jG nU pR qB : Int32} (aBH : 0 ≤ Int32.toInt qL ∧ Int32.toInt qL ≤ 80) (xL : 0 ≤ Int32.toInt dN ∧ Int32.toInt dN ≤ 16) (wX : 0 ≤ Int32.toInt bD ∧ Int32.toInt bD ≤ 8) (aAC : -1 ≤ Int32.toInt fY ∧ Int32.toInt fY ≤ 7) (zK : 0 ≤ Int32.toInt jG ∧ Int32.toInt jG ≤ 9) (aAr : 0 ≤ Int32.toInt pR ∧ Int32.toInt pR ≤ 12) (aAK : 0 ≤ Int32.toInt qB ∧ Int32.toInt qB ≤ 16) (hpost : ∀ (r : Int32) , post r) : wp_X9_count post p0 qL dN bD pL jE eW eY dU fY jG nU pR qB := by
  have l0 := aE0
  have l1 := aEc
  have l2 := li_10
  have l3 := li_11
  have l4 := li_12
  have l5 := li_13
  have l6 := li_2
  have l7 := li_3
  have l8 := li_4
  have l9 := li_5
  have l10 := li_6
  have l11 := li_7
  have l12 := li_8
  have l13 := li_9
  have f1 := aAT p0
  refine And.intro (fun c2 => ?_) ?_
  · skip
    have c2 := (zJ _ _).mp c2
    exact hpost _ 
  refine And.intro (fun c3 => ?_) ?_
  · skip
    have c3 := (zJ _ _).mp c3
    exact hpost _ 
  refine And.intro (fun c4 => ?_) ?_
  · skip
    have c4 := (zJ _ _).mp c4
    exact hpost _ 
  refine And.intro (fun c5 => ?_) ?_
  · skip
    have c5 := (zJ _ _).mp c5
    exact hpost _ 
  refine And.intro (fun c6 => ?_) ?_
  · skip
    have c6 := (zJ _ _).mp c6
    exact hpost _ 
  refine And.intro (fun c7 => ?_) ?_
  · skip
    have c7 := (zJ _ _).mp c7
    intro v8 ev8
    have f9 := aDv 16 65536 dN (by decide) (by omega)
    have hv8 := congrArg Int32.toInt ev8
    intro v10 ev10
    intro v11 ev11
    exact hpost _ 
  refine And.intro (fun c12 => ?_) ?_
  · skip
    have c12 := (zJ _ _).mp c12
    exact hpost _ 
  refine And.intro (fun c13 => ?_) ?_
  · skip
    have c13 := (zJ _ _).mp c13
    exact hpost _ 
  refine And.intro (fun c14 => ?_) ?_
  · skip
    have c14 := (zJ _ _).mp c14
    exact hpost _ 
  refine And.intro (fun c15 => ?_) ?_
  · skip
    have c15 := (zJ _ _).mp c15
    exact hpost _ 
  refine And.intro (fun c16 => ?_) ?_
  · skip
    have c16 := (zJ _ _).mp c16
    refine aUx xL (fun r17 => ?_)
    exact hpost _ 
  refine And.intro (fun c18 => ?_) ?_
  · skip
    have c18 := (zJ _ _).mp c18
    exact hpost _ 
  refine And.intro (fun c19 => ?_) ?_
  · skip
    have c19 := (zJ _ _).mp c19
    exact hpost _ 
  refine And.intro (fun c20 => ?_) ?_
  · skip
    have c20 := (zJ _ _).mp c20
    exact hpost _ 
  intro c21 c22 c23 c24 c25 c26 c27 c28 c29 c30 c31 c32 c33 c34
  have c21 := mt (zJ _ _).mpr c21
  have c22 := mt (zJ _ _).mpr c22
  have c23 := mt (zJ _ _).mpr c23
  have c24 := mt (zJ _ _).mpr c24
  have c25 := mt (zJ _ _).mpr c25
  have c26 := mt (zJ _ _).mpr c26
  have c27 := mt (zJ _ _).mpr c27
  have c28 := mt (zJ _ _).mpr c28
  have c29 := mt (zJ _ _).mpr c29
  have c30 := mt (zJ _ _).mpr c30
  have c31 := mt (zJ _ _).mpr c31
  have c32 := mt (zJ _ _).mpr c32
  have c33 := mt (zJ _ _).mpr c33
  have c34 := mt (zJ _ _).mpr c34
  exact hpost _ 
set_option maxHeartbeats 8000000 in
set_option maxRecDepth 200000 in
theorem t_X9_row {post : Int32 → Prop} {postx : Prop} {p0 qB : Int32} {jK : Nat → Int32} (aAK : 0 ≤ Int32.toInt qB ∧ Int32.toInt qB ≤ 16) (hpost : ∀ (r : Int32) , post r) (hpx : postx) : wp_X9_row post postx p0 qB jK := by
  have l0 := aE0
  have f2 := aAT p0
  refine And.intro (fun c1 => ?_) (fun c1 => ?_)
  · skip
    have c1 := (aAd _ _).mp c1
    exact hpx
  · skip
    have c1 := mt (aAd _ _).mpr c1
    refine And.intro (fun c3 => ?_) (fun c3 => ?_)
    · skip
      have c3 := (aAd _ _).mp c3
      refine And.intro (aBZ (by omega)) ?_
      exact hpost _ 
    · skip
      have c3 := mt (aAd _ _).mpr c3
      exact hpx
set_option maxHeartbeats 8000000 in
set_option maxRecDepth 200000 in
theorem ts_X10_sign_20 {post : Int32 → Int32 → Int32 → (Nat → Int32) → Prop} {m_typed0 : Int32} {next : Int32 → Int32 → Int32 → Int32 → (Nat → Int32) → Prop} {n20 : Int} (hpost : ∀ (r : Int32) (aBT : Int32) (xG : Int32) (m_text' : Nat → Int32), (-1 ≤ Int32.toInt r ∧ Int32.toInt r ≤ 80) → (0 ≤ Int32.toInt aBT ∧ Int32.toInt aBT ≤ 80) → (0 ≤ Int32.toInt xG ∧ Int32.toInt xG ≤ 0) → (∀ k : Nat, -128 ≤ Int32.toInt (m_text' k) ∧ Int32.toInt (m_text' k) ≤ 127) → ((76 < Int32.toInt m_typed0 ∧ Int32.toInt r = -1 ∧ Int32.toInt aBT = Int32.toInt m_typed0) ∨ (Int32.toInt m_typed0 ≤ 76 ∧ Int32.toInt r = Int32.toInt aBT ∧ Int32.toInt aBT = Int32.toInt m_typed0 + 4)) → post r aBT xG m_text') (hKn : ∀ (x1 : Int32) (x2 : Int32) (jC : Int32) (bY : Int32) (qO : Nat → Int32), (-1 ≤ Int32.toInt x2 ∧ Int32.toInt x2 ≤ 3) → (0 ≤ Int32.toInt jC ∧ Int32.toInt jC ≤ 80) → (0 ≤ Int32.toInt bY ∧ Int32.toInt bY ≤ 0) → (∀ k : Nat, -128 ≤ Int32.toInt (qO k) ∧ Int32.toInt (qO k) ≤ 127) → (Int32.toInt jC + Int32.toInt x2 = Int32.toInt m_typed0 + 3) → (Int32.toInt m_typed0 ≤ 76) → (-1 ≤ Int32.toInt x2) → (Int32.toInt x2 + 1 < n20) → next x1 x2 jC bY qO) (x1 x2 jC bY : Int32) (qO : Nat → Int32) (aBN : -1 ≤ Int32.toInt x2 ∧ Int32.toInt x2 ≤ 3) (aA4 : 0 ≤ Int32.toInt jC ∧ Int32.toInt jC ≤ 80) (yG : 0 ≤ Int32.toInt bY ∧ Int32.toInt bY ≤ 0) (zG : ∀ k : Nat, -128 ≤ Int32.toInt (qO k) ∧ Int32.toInt (qO k) ≤ 127) (hx0 : Int32.toInt jC + Int32.toInt x2 = Int32.toInt m_typed0 + 3) (hx1 : Int32.toInt m_typed0 ≤ 76) (hx2 : -1 ≤ Int32.toInt x2) (hn20 : Int32.toInt x2 + 1 ≤ n20) : ws_X10_sign_20 post next x1 x2 jC bY qO := by
  have l0 := aI2
  have l1 := aE0
  have l2 := aEc
  refine And.intro (fun c1 => ?_) (fun c1 => ?_)
  · skip
    have c1 := (aAd _ _).mp c1
    exact hpost _ _ _ _ (by omega) aA4 yG zG (by omega)
  · skip
    have c1 := mt (aAd _ _).mpr c1
    intro v2 ev2
    have f3 : Int32.toInt (jC + 1) = Int32.toInt jC + Int32.toInt (1 : Int32) := aAD _ _ (by omega)
    rw [← ev2] at f3
    intro v4 ev4
    have hv4 := ti_i2b (x1 >>> ((8 * x2) &&& 31))
    rw [← ev4] at hv4
    refine And.intro (aBZ (by omega)) ?_
    have qa5 := ti_nar_byte v4
    have a5 : ∀ k : Nat, -128 ≤ Int32.toInt ((upd qO jC.toNatClampNeg (vp_nar .byte v4)) k) ∧ Int32.toInt ((upd qO jC.toNatClampNeg (vp_nar .byte v4)) k) ≤ 127 := t_upd (fun k => by have q9 := zG k; omega) (by omega)
    intro v6 ev6
    have f7 : Int32.toInt (x2 + (-1)) = Int32.toInt x2 + Int32.toInt ((-1) : Int32) := aAD _ _ (by omega)
    rw [← ev6] at f7
    have f8 := aAT x1
    exact hKn x1 v6 v2 bY (upd qO jC.toNatClampNeg (vp_nar .byte v4)) (by omega) (by omega) yG (fun k => by have q9 := a5 k; omega) (by omega) hx1 (by omega) (by omega)
set_option maxHeartbeats 8000000 in
set_option maxRecDepth 200000 in
theorem tb_X10_sign_20 {post : Int32 → Int32 → Int32 → (Nat → Int32) → Prop} {m_typed0 : Int32} (hpost : ∀ (r : Int32) (aBT : Int32) (xG : Int32) (m_text' : Nat → Int32), (-1 ≤ Int32.toInt r ∧ Int32.toInt r ≤ 80) → (0 ≤ Int32.toInt aBT ∧ Int32.toInt aBT ≤ 80) → (0 ≤ Int32.toInt xG ∧ Int32.toInt xG ≤ 0) → (∀ k : Nat, -128 ≤ Int32.toInt (m_text' k) ∧ Int32.toInt (m_text' k) ≤ 127) → ((76 < Int32.toInt m_typed0 ∧ Int32.toInt r = -1 ∧ Int32.toInt aBT = Int32.toInt m_typed0) ∨ (Int32.toInt m_typed0 ≤ 76 ∧ Int32.toInt r = Int32.toInt aBT ∧ Int32.toInt aBT = Int32.toInt m_typed0 + 4)) → post r aBT xG m_text') : ∀ (n : Nat) (x1 x2 jC bY : Int32) (qO : Nat → Int32), (-1 ≤ Int32.toInt x2 ∧ Int32.toInt x2 ≤ 3) → (0 ≤ Int32.toInt jC ∧ Int32.toInt jC ≤ 80) → (0 ≤ Int32.toInt bY ∧ Int32.toInt bY ≤ 0) → (∀ k : Nat, -128 ≤ Int32.toInt (qO k) ∧ Int32.toInt (qO k) ≤ 127) → (Int32.toInt jC + Int32.toInt x2 = Int32.toInt m_typed0 + 3) → (Int32.toInt m_typed0 ≤ 76) → (-1 ≤ Int32.toInt x2) → (Int32.toInt x2 + 1 < (n : Int)) → wb_X10_sign_20 post n x1 x2 jC bY qO := by
  intro n
  induction n with
  | zero =>
    intro x1 x2 jC bY qO aBN aA4 yG zG hx0 hx1 hx2 hm
    exfalso; omega
  | succ n ih =>
    intro x1 x2 jC bY qO aBN aA4 yG zG hx0 hx1 hx2 hm
    exact ts_X10_sign_20 hpost ih x1 x2 jC bY qO aBN aA4 yG zG hx0 hx1 hx2 (by omega)
set_option maxHeartbeats 8000000 in
set_option maxRecDepth 200000 in
theorem t_X10_sign {post : Int32 → Int32 → Int32 → (Nat → Int32) → Prop} {p0 jC bY : Int32} {qO : Nat → Int32} (aA4 : 0 ≤ Int32.toInt jC ∧ Int32.toInt jC ≤ 80) (yG : 0 ≤ Int32.toInt bY ∧ Int32.toInt bY ≤ 1) (zG : ∀ k : Nat, -128 ≤ Int32.toInt (qO k) ∧ Int32.toInt (qO k) ≤ 127) (hpost : ∀ (r : Int32) (aBT : Int32) (xG : Int32) (m_text' : Nat → Int32), (-1 ≤ Int32.toInt r ∧ Int32.toInt r ≤ 80) → (0 ≤ Int32.toInt aBT ∧ Int32.toInt aBT ≤ 80) → (0 ≤ Int32.toInt xG ∧ Int32.toInt xG ≤ 0) → (∀ k : Nat, -128 ≤ Int32.toInt (m_text' k) ∧ Int32.toInt (m_text' k) ≤ 127) → ((76 < Int32.toInt jC ∧ Int32.toInt r = -1 ∧ Int32.toInt aBT = Int32.toInt jC) ∨ (Int32.toInt jC ≤ 76 ∧ Int32.toInt r = Int32.toInt aBT ∧ Int32.toInt aBT = Int32.toInt jC + 4)) → post r aBT xG m_text') : wp_X10_sign post p0 jC bY qO := by
  have l0 := aI2
  have l1 := aE0
  have l2 := li_3
  have l3 := li_4
  have l4 := li_80
  intro v9 ev9
  have f10 : Int32.toInt (jC + 4) = Int32.toInt jC + Int32.toInt (4 : Int32) := aAD _ _ (by omega)
  rw [← ev9] at f10
  refine And.intro (fun c11 => ?_) (fun c11 => ?_)
  · skip
    have c11 := (aAO _ _).mp c11
    have f12 := aAT p0
    exact ⟨6, tb_X10_sign_20 hpost _ p0 3 jC 0 qO (by omega) aA4 (by omega) zG (by omega) (by omega) (by omega) (by omega)⟩
  · skip
    have c11 := mt (aAO _ _).mpr c11
    exact hpost _ _ _ _ (by omega) aA4 (by omega) zG (by omega)
set_option maxHeartbeats 8000000 in
set_option maxRecDepth 200000 in
theorem t_X10_end {post : Int32 → Int32 → Int32 → Prop} {p0 jC bY : Int32} (aA4 : 0 ≤ Int32.toInt jC ∧ Int32.toInt jC ≤ 80) (yG : 0 ≤ Int32.toInt bY ∧ Int32.toInt bY ≤ 1) (hpost : ∀ (r : Int32) (aBT : Int32) (xG : Int32), (0 ≤ Int32.toInt r ∧ Int32.toInt r ≤ 1) → (0 ≤ Int32.toInt aBT ∧ Int32.toInt aBT ≤ 80) → (0 ≤ Int32.toInt xG ∧ Int32.toInt xG ≤ 0) → ((0 ≤ Int32.toInt p0 ∧ Int32.toInt p0 ≤ Int32.toInt jC ∧ Int32.toInt aBT = Int32.toInt p0 ∧ Int32.toInt r = 1) ∨ ((Int32.toInt p0 < 0 ∨ Int32.toInt jC < Int32.toInt p0) ∧ Int32.toInt aBT = Int32.toInt jC ∧ Int32.toInt r = 0)) → post r aBT xG) : wp_X10_end post p0 jC bY := by
  have l0 := aE0
  have l1 := aEc
  have f2 := aAT p0
  refine And.intro (fun c1 => ?_) (fun c1 => ?_)
  · skip
    have c1 := (aAd _ _).mp c1
    refine And.intro (fun h9 => absurd h9 (by decide)) (fun _ => ?_)
    exact hpost _ _ _ (by omega) aA4 (by omega) (by omega)
  · skip
    have c1 := mt (aAd _ _).mpr c1
    refine And.intro (fun c3 => ?_) (fun c3 => ?_)
    · skip
      have c3 := (aAd _ _).mp c3
      refine And.intro (fun h9 => absurd h9 (by decide)) (fun _ => ?_)
      exact hpost _ _ _ (by omega) aA4 (by omega) (by omega)
    · skip
      have c3 := mt (aAd _ _).mpr c3
      refine And.intro (fun _ => ?_) (fun h9 => absurd h9 (by decide))
      exact hpost _ _ _ (by omega) (by omega) (by omega) (by omega)
theorem aOq {post : Int32 → Prop} {jD : Nat} {m_length oF rP : Int32} {qO qQ : Nat → Int32} (yM : jD = 1 ∨ jD = 2) (zE : 0 ≤ Int32.toInt m_length ∧ Int32.toInt m_length ≤ 80) (aAR : 0 ≤ Int32.toInt oF ∧ Int32.toInt oF ≤ 80) (aA1 : 0 ≤ Int32.toInt rP ∧ Int32.toInt rP ≤ 80) (zG : ∀ k : Nat, -128 ≤ Int32.toInt (qO k) ∧ Int32.toInt (qO k) ≤ 127) (zI : ∀ k : Nat, -128 ≤ Int32.toInt (qQ k) ∧ Int32.toInt (qQ k) ≤ 127) (hc0 : jD = 2 → Int32.toInt oF ≤ 40) (hpost : ∀ (r : Int32) , (-1 ≤ Int32.toInt r ∧ Int32.toInt r ≤ 255) → (Int32.toInt r = -1 ∨ (Int32.toInt rP < Int32.toInt m_length ∧ Int32.toInt rP < Int32.toInt oF)) → (Int32.toInt r = Int32.toInt (hv jD m_length oF rP qO qQ)) → post r) : aPe post jD m_length oF rP qO qQ := by
  have l0 := aI2
  have l1 := li_255
  refine And.intro (fun c1 => ?_) (fun c1 => ?_)
  · have d1 := (aAO _ _).mp c1
    refine hpost _ (by omega) (by omega) ?_
    rw [hv_neg (fun h9 => by have := (aAd _ _).mp h9.1; omega)]
  · have d1 := mt (aAO _ _).mpr c1
    refine And.intro (fun c2 => ?_) (fun c2 => ?_)
    · have d2 := (aAO _ _).mp c2
      refine hpost _ (by omega) (by omega) ?_
      rw [hv_neg (fun h9 => by have := (aAd _ _).mp h9.2; omega)]
    · have d2 := mt (aAO _ _).mpr c2
      have d3 : rP < m_length ∧ rP < oF := ⟨(aAd _ _).mpr (by omega), (aAd _ _).mpr (by omega)⟩
      rcases yM with hd9 | hd9
      · refine Or.inl (And.intro hd9 (And.intro (aBZ (by omega)) ?_))
        intro v1 e1 v2 e2
        have f1 := aAQ v1 255 (by omega)
        have e3 := congrArg Int32.toInt e2
        refine hpost _ (by omega) (by omega) ?_
        rw [hv_pos d3, if_pos hd9, ← e1, e2]
      · refine Or.inr (And.intro hd9 (And.intro (aBZ (by omega)) ?_))
        intro v1 e1 v2 e2
        have f1 := aAQ v1 255 (by omega)
        have e3 := congrArg Int32.toInt e2
        refine hpost _ (by omega) (by omega) ?_
        rw [hv_pos d3, if_neg (by omega), ← e1, e2]
set_option maxHeartbeats 8000000 in
set_option maxRecDepth 200000 in
theorem ts_X10_number_66 {post : Int32 → Int32 → Int32 → Prop} {aLe p00 : Int32} (jD : Nat) (m_length oF : Int32) (qO qQ : Nat → Int32) (yM : jD = 1 ∨ jD = 2) (zE : 0 ≤ Int32.toInt m_length ∧ Int32.toInt m_length ≤ 80) (aAR : 0 ≤ Int32.toInt oF ∧ Int32.toInt oF ≤ 80) (zG : ∀ k : Nat, -128 ≤ Int32.toInt (qO k) ∧ Int32.toInt (qO k) ≤ 127) (zI : ∀ k : Nat, -128 ≤ Int32.toInt (qQ k) ∧ Int32.toInt (qQ k) ≤ 127) (hc0 : jD = 2 → Int32.toInt oF ≤ 40) (hpost : ∀ (r : Int32) (aAm : Int32) (zH : Int32), (0 ≤ Int32.toInt r ∧ Int32.toInt r ≤ 999) → (0 ≤ Int32.toInt aAm ∧ Int32.toInt aAm ≤ 80) → (-1 ≤ Int32.toInt zH ∧ Int32.toInt zH ≤ 80) → (Int32.toInt aLe ≤ Int32.toInt aAm) → (Int32.toInt aAm ≤ Int32.toInt aLe ∨ Int32.toInt aAm ≤ Int32.toInt oF) → (Int32.toInt p00 ≤ 1 → Int32.toInt r ≤ 9) → (Int32.toInt p00 ≤ 2 → Int32.toInt r ≤ 99) → post r aAm zH) (x2 x3 rP dQ : Int32) (aBN : 0 ≤ Int32.toInt x2 ∧ Int32.toInt x2 ≤ 80) (aCH : 0 ≤ Int32.toInt x3 ∧ Int32.toInt x3 ≤ 999) (aA1 : 0 ≤ Int32.toInt rP ∧ Int32.toInt rP ≤ 80) (aAA : -1 ≤ Int32.toInt dQ ∧ Int32.toInt dQ ≤ -1) (hx0 : Int32.toInt aLe ≤ Int32.toInt rP) (hx1 : Int32.toInt rP ≤ Int32.toInt aLe ∨ Int32.toInt rP ≤ Int32.toInt oF) (hx2 : Int32.toInt p00 ≤ 1 → Int32.toInt x3 ≤ 9) (hx3 : Int32.toInt p00 ≤ 2 → Int32.toInt x3 ≤ 99) : ws_X10_number_66 post jD m_length oF qO qQ x2 x3 rP dQ := by
  have l0 := aI2
  refine And.intro (fun c1 => ?_) (fun c1 => ?_)
  · skip
    have c1 := mt (zJ _ _).mpr c1
    exact hpost _ _ _ aCH aA1 (by omega) (by omega) (by omega) (by omega) (by omega)
  · skip
    have c1 := (zJ _ _).mp c1
    refine And.intro (fun c2 => ?_) (fun c2 => ?_)
    · skip
      have c2 := mt (zJ _ _).mpr c2
      exfalso; omega
    · skip
      have c2 := (zJ _ _).mp c2
      refine And.intro (fun h9 => absurd h9 (by decide)) (fun _ => ?_)
      exact hpost _ _ _ aCH aA1 (by omega) (by omega) (by omega) (by omega) (by omega)
set_option maxHeartbeats 8000000 in
set_option maxRecDepth 200000 in
theorem ts_X10_number_16 {post : Int32 → Int32 → Int32 → Prop} {aLe p00 : Int32} {next : Int32 → Int32 → Int32 → Int32 → Int32 → Prop} {n16 : Int} (jD : Nat) (m_length oF : Int32) (qO qQ : Nat → Int32) (yM : jD = 1 ∨ jD = 2) (zE : 0 ≤ Int32.toInt m_length ∧ Int32.toInt m_length ≤ 80) (aAR : 0 ≤ Int32.toInt oF ∧ Int32.toInt oF ≤ 80) (zG : ∀ k : Nat, -128 ≤ Int32.toInt (qO k) ∧ Int32.toInt (qO k) ≤ 127) (zI : ∀ k : Nat, -128 ≤ Int32.toInt (qQ k) ∧ Int32.toInt (qQ k) ≤ 127) (hc0 : jD = 2 → Int32.toInt oF ≤ 40) (hpost : ∀ (r : Int32) (aAm : Int32) (zH : Int32), (0 ≤ Int32.toInt r ∧ Int32.toInt r ≤ 999) → (0 ≤ Int32.toInt aAm ∧ Int32.toInt aAm ≤ 80) → (-1 ≤ Int32.toInt zH ∧ Int32.toInt zH ≤ 80) → (Int32.toInt aLe ≤ Int32.toInt aAm) → (Int32.toInt aAm ≤ Int32.toInt aLe ∨ Int32.toInt aAm ≤ Int32.toInt oF) → (Int32.toInt p00 ≤ 1 → Int32.toInt r ≤ 9) → (Int32.toInt p00 ≤ 2 → Int32.toInt r ≤ 99) → post r aAm zH) (hKn : ∀ (x1 : Int32) (x2 : Int32) (x3 : Int32) (rP : Int32) (dQ : Int32), (1 ≤ Int32.toInt x1 ∧ Int32.toInt x1 ≤ 3) → (0 ≤ Int32.toInt x2 ∧ Int32.toInt x2 ≤ 80) → (0 ≤ Int32.toInt x3 ∧ Int32.toInt x3 ≤ 999) → (0 ≤ Int32.toInt rP ∧ Int32.toInt rP ≤ 80) → (-1 ≤ Int32.toInt dQ ∧ Int32.toInt dQ ≤ -1) → (Int32.toInt aLe ≤ Int32.toInt rP) → (Int32.toInt rP ≤ Int32.toInt aLe ∨ Int32.toInt rP ≤ Int32.toInt oF) → (Int32.toInt x1 = Int32.toInt p00) → ((Int32.toInt x3 = 0 ∧ (Int32.toInt rP - Int32.toInt x2) = 0) ∨ (Int32.toInt x3 ≤ 9 ∧ (Int32.toInt rP - Int32.toInt x2) = 1) ∨ (Int32.toInt x3 ≤ 99 ∧ (Int32.toInt rP - Int32.toInt x2) = 2) ∨ (Int32.toInt x3 ≤ 999 ∧ (Int32.toInt rP - Int32.toInt x2) = 3)) → ((Int32.toInt rP - Int32.toInt x2) ≤ Int32.toInt x1) → (80 - Int32.toInt rP < n16) → next x1 x2 x3 rP dQ) (x1 x2 x3 rP dQ : Int32) (aBK : 1 ≤ Int32.toInt x1 ∧ Int32.toInt x1 ≤ 3) (aBN : 0 ≤ Int32.toInt x2 ∧ Int32.toInt x2 ≤ 80) (aCH : 0 ≤ Int32.toInt x3 ∧ Int32.toInt x3 ≤ 999) (aA1 : 0 ≤ Int32.toInt rP ∧ Int32.toInt rP ≤ 80) (aAA : -1 ≤ Int32.toInt dQ ∧ Int32.toInt dQ ≤ -1) (hx0 : Int32.toInt aLe ≤ Int32.toInt rP) (hx1 : Int32.toInt rP ≤ Int32.toInt aLe ∨ Int32.toInt rP ≤ Int32.toInt oF) (hx2 : Int32.toInt x1 = Int32.toInt p00) (hx3 : (Int32.toInt x3 = 0 ∧ (Int32.toInt rP - Int32.toInt x2) = 0) ∨ (Int32.toInt x3 ≤ 9 ∧ (Int32.toInt rP - Int32.toInt x2) = 1) ∨ (Int32.toInt x3 ≤ 99 ∧ (Int32.toInt rP - Int32.toInt x2) = 2) ∨ (Int32.toInt x3 ≤ 999 ∧ (Int32.toInt rP - Int32.toInt x2) = 3)) (hx4 : (Int32.toInt rP - Int32.toInt x2) ≤ Int32.toInt x1) (hn16 : 80 - Int32.toInt rP ≤ n16) : ws_X10_number_16 post next jD m_length oF qO qQ x1 x2 x3 rP dQ := by
  have l0 := aEc
  have l1 := li_10
  have l2 := li_48
  have l3 := li_57
  have f4 : Int32.toInt (x2 + x1) = Int32.toInt x2 + Int32.toInt x1 := aAD _ _ (by omega)
  refine And.intro (fun c3 => ?_) (fun c3 => ?_)
  · skip
    have c3 := (aAO _ _).mp c3
    exact ts_X10_number_66 jD m_length oF qO qQ yM zE aAR zG zI hc0 hpost x2 x3 rP dQ aBN aCH aA1 aAA hx0 hx1 (by omega) (by omega)
  · skip
    have c3 := mt (aAO _ _).mpr c3
    refine aOq yM zE aAR aA1 zG zI (by omega) (fun r5 h_r5 ox6 ox7 => ?_)
    refine And.intro (fun c8 => ?_) (fun c8 => ?_)
    · skip
      have c8 := (aAd _ _).mp c8
      refine And.intro (fun _ => ?_) (fun h9 => absurd h9 (by decide))
      exact ts_X10_number_66 jD m_length oF qO qQ yM zE aAR zG zI hc0 hpost x2 x3 rP dQ aBN aCH aA1 aAA hx0 hx1 (by omega) (by omega)
    · skip
      have c8 := mt (aAd _ _).mpr c8
      refine And.intro (fun c9 => ?_) (fun c9 => ?_)
      · skip
        have c9 := (aAd _ _).mp c9
        refine And.intro (fun _ => ?_) (fun h9 => absurd h9 (by decide))
        exact ts_X10_number_66 jD m_length oF qO qQ yM zE aAR zG zI hc0 hpost x2 x3 rP dQ aBN aCH aA1 aAA hx0 hx1 (by omega) (by omega)
      · skip
        have c9 := mt (aAd _ _).mpr c9
        refine And.intro (fun h9 => absurd h9 (by decide)) (fun _ => ?_)
        intro v10 ev10
        have f11 : Int32.toInt (10 * x3) = Int32.toInt x3 * 10 := ta_cmul _ _ (by decide) (by omega)
        rw [← ev10] at f11
        refine aOq yM zE aAR aA1 zG zI (by omega) (fun r12 h_r12 ox13 ox14 => ?_)
        intro v15 ev15
        have f16 : Int32.toInt (v10 + r12) = Int32.toInt v10 + Int32.toInt r12 := aAD _ _ (by omega)
        rw [← ev15] at f16
        intro v17 ev17
        have f18 : Int32.toInt (v15 - 48) = Int32.toInt v15 - Int32.toInt (48 : Int32) := aCA _ _ (by omega)
        rw [← ev17] at f18
        intro v19 ev19
        have f20 : Int32.toInt (rP + 1) = Int32.toInt rP + Int32.toInt (1 : Int32) := aAD _ _ (by omega)
        rw [← ev19] at f20
        exact hKn x1 x2 v17 v19 dQ aBK aBN (by omega) (by omega) aAA (by omega) (by omega) hx2 (by omega) (by omega) (by omega)
set_option maxHeartbeats 8000000 in
set_option maxRecDepth 200000 in
theorem tb_X10_number_16 {post : Int32 → Int32 → Int32 → Prop} {aLe p00 : Int32} (jD : Nat) (m_length oF : Int32) (qO qQ : Nat → Int32) (yM : jD = 1 ∨ jD = 2) (zE : 0 ≤ Int32.toInt m_length ∧ Int32.toInt m_length ≤ 80) (aAR : 0 ≤ Int32.toInt oF ∧ Int32.toInt oF ≤ 80) (zG : ∀ k : Nat, -128 ≤ Int32.toInt (qO k) ∧ Int32.toInt (qO k) ≤ 127) (zI : ∀ k : Nat, -128 ≤ Int32.toInt (qQ k) ∧ Int32.toInt (qQ k) ≤ 127) (hc0 : jD = 2 → Int32.toInt oF ≤ 40) (hpost : ∀ (r : Int32) (aAm : Int32) (zH : Int32), (0 ≤ Int32.toInt r ∧ Int32.toInt r ≤ 999) → (0 ≤ Int32.toInt aAm ∧ Int32.toInt aAm ≤ 80) → (-1 ≤ Int32.toInt zH ∧ Int32.toInt zH ≤ 80) → (Int32.toInt aLe ≤ Int32.toInt aAm) → (Int32.toInt aAm ≤ Int32.toInt aLe ∨ Int32.toInt aAm ≤ Int32.toInt oF) → (Int32.toInt p00 ≤ 1 → Int32.toInt r ≤ 9) → (Int32.toInt p00 ≤ 2 → Int32.toInt r ≤ 99) → post r aAm zH) : ∀ (n : Nat) (x1 x2 x3 rP dQ : Int32), (1 ≤ Int32.toInt x1 ∧ Int32.toInt x1 ≤ 3) → (0 ≤ Int32.toInt x2 ∧ Int32.toInt x2 ≤ 80) → (0 ≤ Int32.toInt x3 ∧ Int32.toInt x3 ≤ 999) → (0 ≤ Int32.toInt rP ∧ Int32.toInt rP ≤ 80) → (-1 ≤ Int32.toInt dQ ∧ Int32.toInt dQ ≤ -1) → (Int32.toInt aLe ≤ Int32.toInt rP) → (Int32.toInt rP ≤ Int32.toInt aLe ∨ Int32.toInt rP ≤ Int32.toInt oF) → (Int32.toInt x1 = Int32.toInt p00) → ((Int32.toInt x3 = 0 ∧ (Int32.toInt rP - Int32.toInt x2) = 0) ∨ (Int32.toInt x3 ≤ 9 ∧ (Int32.toInt rP - Int32.toInt x2) = 1) ∨ (Int32.toInt x3 ≤ 99 ∧ (Int32.toInt rP - Int32.toInt x2) = 2) ∨ (Int32.toInt x3 ≤ 999 ∧ (Int32.toInt rP - Int32.toInt x2) = 3)) → ((Int32.toInt rP - Int32.toInt x2) ≤ Int32.toInt x1) → (80 - Int32.toInt rP < (n : Int)) → wb_X10_number_16 post jD m_length oF qO qQ n x1 x2 x3 rP dQ := by
  intro n
  induction n with
  | zero =>
    intro x1 x2 x3 rP dQ aBK aBN aCH aA1 aAA hx0 hx1 hx2 hx3 hx4 hm
    exfalso; omega
  | succ n ih =>
    intro x1 x2 x3 rP dQ aBK aBN aCH aA1 aAA hx0 hx1 hx2 hx3 hx4 hm
    exact ts_X10_number_16 jD m_length oF qO qQ yM zE aAR zG zI hc0 hpost ih x1 x2 x3 rP dQ aBK aBN aCH aA1 aAA hx0 hx1 hx2 hx3 hx4 (by omega)
set_option maxHeartbeats 8000000 in
set_option maxRecDepth 200000 in
theorem aXA {post : Int32 → Int32 → Int32 → Prop} {p0 : Int32} {jD : Nat} {m_length oF rP dQ : Int32} {qO qQ : Nat → Int32} (h_p0 : 1 ≤ Int32.toInt p0 ∧ Int32.toInt p0 ≤ 3) (yM : jD = 1 ∨ jD = 2) (zE : 0 ≤ Int32.toInt m_length ∧ Int32.toInt m_length ≤ 80) (aAR : 0 ≤ Int32.toInt oF ∧ Int32.toInt oF ≤ 80) (aA1 : 0 ≤ Int32.toInt rP ∧ Int32.toInt rP ≤ 80) (aAA : -1 ≤ Int32.toInt dQ ∧ Int32.toInt dQ ≤ 80) (zG : ∀ k : Nat, -128 ≤ Int32.toInt (qO k) ∧ Int32.toInt (qO k) ≤ 127) (zI : ∀ k : Nat, -128 ≤ Int32.toInt (qQ k) ∧ Int32.toInt (qQ k) ≤ 127) (hc0 : jD = 2 → Int32.toInt oF ≤ 40) (hpost : ∀ (r : Int32) (aAm : Int32) (zH : Int32), (0 ≤ Int32.toInt r ∧ Int32.toInt r ≤ 999) → (0 ≤ Int32.toInt aAm ∧ Int32.toInt aAm ≤ 80) → (-1 ≤ Int32.toInt zH ∧ Int32.toInt zH ≤ 80) → (Int32.toInt rP ≤ Int32.toInt aAm) → (Int32.toInt aAm ≤ Int32.toInt rP ∨ Int32.toInt aAm ≤ Int32.toInt oF) → (Int32.toInt p0 ≤ 1 → Int32.toInt r ≤ 9) → (Int32.toInt p0 ≤ 2 → Int32.toInt r ≤ 99) → post r aAm zH) : aOj post p0 jD m_length oF rP dQ qO qQ := by
  have l0 := aI2
  have l1 := aE0
  refine And.intro (fun c21 => ?_) (fun c21 => ?_)
  · skip
    have c21 := mt (zJ _ _).mpr c21
    refine And.intro (fun h9 => absurd h9 (by decide)) (fun _ => ?_)
    exact hpost _ _ _ (by omega) aA1 aAA (by omega) (by omega) (by omega) (by omega)
  · skip
    have c21 := (zJ _ _).mp c21
    refine And.intro (fun _ => ?_) (fun h9 => absurd h9 (by decide))
    exact ⟨82, tb_X10_number_16 jD m_length oF qO qQ yM zE aAR zG zI hc0 hpost _ p0 rP 0 rP dQ h_p0 aA1 (by omega) aA1 (by omega) (by omega) (by omega) (by omega) (by omega) (by omega) (by omega)⟩
