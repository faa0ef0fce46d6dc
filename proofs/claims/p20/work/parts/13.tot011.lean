set_option maxHeartbeats 8000000 in
set_option maxRecDepth 200000 in
theorem t_X9_undo {post : Int32 → Int32 → Int32 → Int32 → Int32 → Int32 → Int32 → Int32 → Int32 → Int32 → Int32 → Prop} {jE eW eY dU fY gJ jG nU pR uM : Int32} {tD : Nat → Int32} (aAC : -1 ≤ Int32.toInt fY ∧ Int32.toInt fY ≤ 7) (zK : 0 ≤ Int32.toInt jG ∧ Int32.toInt jG ≤ 9) (aAr : 0 ≤ Int32.toInt pR ∧ Int32.toInt pR ≤ 12) (aBy : 0 ≤ Int32.toInt uM ∧ Int32.toInt uM ≤ 12) (aBF : ∀ k : Nat, k % 8 = 4 → -1 ≤ Int32.toInt (tD k) ∧ Int32.toInt (tD k) ≤ 7) (aBG : ∀ k : Nat, k % 8 = 6 → 0 ≤ Int32.toInt (tD k) ∧ Int32.toInt (tD k) ≤ 9) (hpost : ∀ (r : Int32) (aHN : Int32) (aGq : Int32) (aGr : Int32) (aFB : Int32) (aCx : Int32) (aI5 : Int32) (aDz : Int32) (aFi : Int32) (aBa : Int32) (aEN : Int32), (-1 ≤ Int32.toInt r ∧ Int32.toInt r ≤ 11) → (-1 ≤ Int32.toInt aCx ∧ Int32.toInt aCx ≤ 7) → (0 ≤ Int32.toInt aDz ∧ Int32.toInt aDz ≤ 9) → (0 ≤ Int32.toInt aBa ∧ Int32.toInt aBa ≤ 11) → (0 ≤ Int32.toInt aEN ∧ Int32.toInt aEN ≤ 12) → post r aHN aGq aGr aFB aCx aI5 aDz aFi aBa aEN) : wp_X9_undo post jE eW eY dU fY gJ jG nU pR uM tD := by
  have l0 := aI2
  have l1 := aE0
  have l2 := aEc
  have l3 := li_104
  have l4 := li_13
  have l5 := li_2
  have l6 := li_3
  have l7 := li_4
  have l8 := li_5
  have l9 := li_6
  have l10 := li_7
  have l11 := li_8
  refine And.intro (fun c1 => ?_) (fun c1 => ?_)
  · skip
    have c1 := mt (zJ _ _).mpr c1
    intro v2 ev2
    have f3 : Int32.toInt (uM + 13) = Int32.toInt uM + Int32.toInt (13 : Int32) := aAD _ _ (by omega)
    rw [← ev2] at f3
    intro v4 ev4
    have f5 : Int32.toInt (v2 - 1) = Int32.toInt v2 - Int32.toInt (1 : Int32) := aCA _ _ (by omega)
    rw [← ev4] at f5
    intro v6 ev6
    have f7 : Int32.toInt (v4 - v4 / 13 * 13) = Int32.toInt v4 % 13 := ti_rem _ _ (by decide) (by omega) (by decide)
    rw [← ev6] at f7
    intro v8 ev8
    have f9 : Int32.toInt (pR - 1) = Int32.toInt pR - Int32.toInt (1 : Int32) := aCA _ _ (by omega)
    rw [← ev8] at f9
    intro v10 ev10
    have f11 : Int32.toInt (v6 * 8) = Int32.toInt v6 * 8 := ta_mulc _ _ (by decide) (by omega)
    rw [← ev10] at f11
    refine And.intro (fun c12 => ?_) (fun c12 => ?_)
    · skip
      have c12 := (aAd _ _).mp c12
      exfalso; omega
    · skip
      have c12 := mt (aAd _ _).mpr c12
      have f14 : Int32.toInt (104 - 8) = Int32.toInt (104 : Int32) - Int32.toInt (8 : Int32) := aCA _ _ (by omega)
      refine And.intro (fun c13 => ?_) (fun c13 => ?_)
      · skip
        have c13 := (aAO _ _).mp c13
        refine And.intro (aBZ (by omega)) ?_
        intro v15 ev15
        have hv15 := congrArg Int32.toInt ev15
        intro v17 ev17
        have f18 : Int32.toInt (v10 + 1) = Int32.toInt v10 + Int32.toInt (1 : Int32) := aAD _ _ (by omega)
        rw [← ev17] at f18
        refine And.intro (aBZ (by omega)) ?_
        intro v19 ev19
        have hv19 := congrArg Int32.toInt ev19
        intro v21 ev21
        have f22 : Int32.toInt (v10 + 2) = Int32.toInt v10 + Int32.toInt (2 : Int32) := aAD _ _ (by omega)
        rw [← ev21] at f22
        refine And.intro (aBZ (by omega)) ?_
        intro v23 ev23
        have hv23 := congrArg Int32.toInt ev23
        intro v25 ev25
        have f26 : Int32.toInt (v10 + 3) = Int32.toInt v10 + Int32.toInt (3 : Int32) := aAD _ _ (by omega)
        rw [← ev25] at f26
        refine And.intro (aBZ (by omega)) ?_
        intro v27 ev27
        have hv27 := congrArg Int32.toInt ev27
        intro v29 ev29
        have f30 : Int32.toInt (v10 + 4) = Int32.toInt v10 + Int32.toInt (4 : Int32) := aAD _ _ (by omega)
        rw [← ev29] at f30
        refine And.intro (aBZ (by omega)) ?_
        have q31 := aBF v29.toNatClampNeg (by have e9 : v29.toNatClampNeg = (Int32.toInt v29).toNat := rfl; omega)
        intro v32 ev32
        have hv32 := congrArg Int32.toInt ev32
        intro v34 ev34
        have f35 : Int32.toInt (v10 + 5) = Int32.toInt v10 + Int32.toInt (5 : Int32) := aAD _ _ (by omega)
        rw [← ev34] at f35
        refine And.intro (aBZ (by omega)) ?_
        intro v36 ev36
        have hv36 := congrArg Int32.toInt ev36
        intro v38 ev38
        have f39 : Int32.toInt (v10 + 6) = Int32.toInt v10 + Int32.toInt (6 : Int32) := aAD _ _ (by omega)
        rw [← ev38] at f39
        refine And.intro (aBZ (by omega)) ?_
        have q40 := aBG v38.toNatClampNeg (by have e9 : v38.toNatClampNeg = (Int32.toInt v38).toNat := rfl; omega)
        intro v41 ev41
        have hv41 := congrArg Int32.toInt ev41
        intro v43 ev43
        have f44 : Int32.toInt (v10 + 7) = Int32.toInt v10 + Int32.toInt (7 : Int32) := aAD _ _ (by omega)
        rw [← ev43] at f44
        refine And.intro (aBZ (by omega)) ?_
        intro v45 ev45
        have hv45 := congrArg Int32.toInt ev45
        exact hpost _ _ _ _ _ _ _ _ _ _ _ (by omega) (by omega) (by omega) (by omega) (by omega)
      · skip
        have c13 := mt (aAO _ _).mpr c13
        exfalso; omega
  · skip
    have c1 := (zJ _ _).mp c1
    exact hpost _ _ _ _ _ _ _ _ _ _ _ (by omega) aAC zK (by omega) aBy
set_option maxHeartbeats 8000000 in
set_option maxRecDepth 200000 in
theorem t_X9_reached {post : Int32 → Int32 → (Nat → Int32) → Prop} {p0 dN bD : Int32} {uU gF mX oE dY : Nat → Int32} {qB : Int32} {jK : Nat → Int32} (xL : 0 ≤ Int32.toInt dN ∧ Int32.toInt dN ≤ 16) (wX : 0 ≤ Int32.toInt bD ∧ Int32.toInt bD ≤ 8) (aAK : 0 ≤ Int32.toInt qB ∧ Int32.toInt qB ≤ 16) (hpost : ∀ (r : Int32) (zV : Int32) (aAV : Nat → Int32), (-1 ≤ Int32.toInt r ∧ Int32.toInt r ≤ 65535) → (0 ≤ Int32.toInt zV ∧ Int32.toInt zV ≤ 16) → post r zV aAV) : wp_X9_reached post p0 dN bD uU gF mX oE dY qB jK := by
  have l0 := aI2
  have l1 := aE0
  have l2 := aEc
  have l3 := li_16
  have l4 := li_2
  have f2 := aAT p0
  refine And.intro (fun c1 => ?_) (fun c1 => ?_)
  · skip
    have c1 := (aAd _ _).mp c1
    refine And.intro (fun h9 => absurd h9 (by decide)) (fun _ => ?_)
    exact hpost _ _ _ (by omega) aAK
  · skip
    have c1 := mt (aAd _ _).mpr c1
    refine And.intro (fun c3 => ?_) (fun c3 => ?_)
    · skip
      have c3 := (aAO _ _).mp c3
      refine And.intro (fun h9 => absurd h9 (by decide)) (fun _ => ?_)
      exact hpost _ _ _ (by omega) aAK
    · skip
      have c3 := mt (aAO _ _).mpr c3
      refine And.intro (fun _ => ?_) (fun h9 => absurd h9 (by decide))
      intro v4 ev4
      have hv4 := congrArg Int32.toInt ev4
      intro v6 ev6
      have hv6 := congrArg Int32.toInt ev6
      refine t_X3_within (by omega) xL (fun r8 h_r8 => ?_)
      intro v9 ev9
      have hv9 := congrArg Int32.toInt ev9
      intro v10 ev10
      have hv10 := congrArg Int32.toInt ev10
      refine t_X3_within (by omega) xL (fun r12 h_r12 => ?_)
      refine And.intro (fun h9 => absurd h9 (by decide)) (fun _ => ?_)
      refine And.intro (aBZ (by omega)) ?_
      intro v13 ev13
      have f14 : Int32.toInt (0 + 1) = Int32.toInt (0 : Int32) + Int32.toInt (1 : Int32) := aAD _ _ (by omega)
      rw [← ev13] at f14
      refine And.intro (fun c15 => ?_) (fun c15 => ?_)
      · skip
        have c15 := (aAO _ _).mp c15
        exfalso; omega
      · skip
        have c15 := mt (aAO _ _).mpr c15
        refine And.intro (aBZ (by omega)) ?_
        intro v16 ev16
        have f17 : Int32.toInt (v13 + 1) = Int32.toInt v13 + Int32.toInt (1 : Int32) := aAD _ _ (by omega)
        rw [← ev16] at f17
        intro v18 ev18
        have hv18 := congrArg Int32.toInt ev18
        intro v19 ev19
        have f21 := aAT v18
        have f22 : Int32.toInt (0 * (dY (1 : Int32).toNatClampNeg)) = Int32.toInt (dY (1 : Int32).toNatClampNeg) * 0 := ta_cmul _ _ (by decide) (by omega)
        have f20 : Int32.toInt (v18 + (0 * (dY (1 : Int32).toNatClampNeg))) = Int32.toInt v18 + Int32.toInt (0 * (dY (1 : Int32).toNatClampNeg)) := aAD _ _ (by omega)
        rw [← ev19] at f20
        refine t_X3_within (by omega) xL (fun r24 h_r24 => ?_)
        exact hpost _ _ _ (by omega) (by omega)
set_option maxHeartbeats 8000000 in
set_option maxRecDepth 200000 in
theorem ts_X9_from_77 {post : Int32 → Prop} {K42 : Int32 → Int32 → Int32 → Int32 → Prop} {n42 : Int} (dN bD : Int32) (uU gF mX oE dY : Nat → Int32) (gJ : Int32) (xL : 0 ≤ Int32.toInt dN ∧ Int32.toInt dN ≤ 16) (wX : 0 ≤ Int32.toInt bD ∧ Int32.toInt bD ≤ 8) (hpost : ∀ (r : Int32) , (-1 ≤ Int32.toInt r ∧ Int32.toInt r ≤ 255) → post r) (hK42 : ∀ (x1 : Int32) (x3 : Int32) (x4 : Int32) (x5 : Int32), (0 ≤ Int32.toInt x1 ∧ Int32.toInt x1 ≤ 15) → (0 ≤ Int32.toInt x4 ∧ Int32.toInt x4 ≤ 255) → (0 ≤ Int32.toInt x5 ∧ Int32.toInt x5 ≤ 8) → (8 - Int32.toInt x5 < n42) → K42 x1 x3 x4 x5) (x1 x3 x4 x5 : Int32) (aBK : 0 ≤ Int32.toInt x1 ∧ Int32.toInt x1 ≤ 15) (aDO : 0 ≤ Int32.toInt x4 ∧ Int32.toInt x4 ≤ 255) (aF7 : 0 ≤ Int32.toInt x5 ∧ Int32.toInt x5 ≤ 7) (hn42 : 8 - Int32.toInt x5 ≤ n42) : ws_X9_from_77 post K42 dN bD uU gF mX oE dY gJ x1 x3 x4 x5 := by
  have l0 := aEc
  intro v1 ev1
  have f2 : Int32.toInt (x5 + 1) = Int32.toInt x5 + Int32.toInt (1 : Int32) := aAD _ _ (by omega)
  rw [← ev1] at f2
  have f3 := aAT x3
  exact hK42 x1 x3 x4 v1 aBK aDO (by omega) (by omega)
set_option maxHeartbeats 8000000 in
set_option maxRecDepth 200000 in
theorem ts_X9_from_42 {post : Int32 → Prop} {next : Int32 → Int32 → Int32 → Int32 → Prop} {n42 : Int} (dN bD : Int32) (uU gF mX oE dY : Nat → Int32) (gJ : Int32) (xL : 0 ≤ Int32.toInt dN ∧ Int32.toInt dN ≤ 16) (wX : 0 ≤ Int32.toInt bD ∧ Int32.toInt bD ≤ 8) (hpost : ∀ (r : Int32) , (-1 ≤ Int32.toInt r ∧ Int32.toInt r ≤ 255) → post r) (hKn : ∀ (x1 : Int32) (x3 : Int32) (x4 : Int32) (x5 : Int32), (0 ≤ Int32.toInt x1 ∧ Int32.toInt x1 ≤ 15) → (0 ≤ Int32.toInt x4 ∧ Int32.toInt x4 ≤ 255) → (0 ≤ Int32.toInt x5 ∧ Int32.toInt x5 ≤ 8) → (8 - Int32.toInt x5 < n42) → next x1 x3 x4 x5) (x1 x3 x4 x5 : Int32) (aBK : 0 ≤ Int32.toInt x1 ∧ Int32.toInt x1 ≤ 15) (aDO : 0 ≤ Int32.toInt x4 ∧ Int32.toInt x4 ≤ 255) (aF7 : 0 ≤ Int32.toInt x5 ∧ Int32.toInt x5 ≤ 8) (hn42 : 8 - Int32.toInt x5 ≤ n42) : ws_X9_from_42 post next dN bD uU gF mX oE dY gJ x1 x3 x4 x5 := by
  have l0 := aE0
  refine And.intro (fun c4 => ?_) (fun c4 => ?_)
  · skip
    have c4 := (aAO _ _).mp c4
    exact hpost _ (by omega)
  · skip
    have c4 := mt (aAO _ _).mpr c4
    refine And.intro (aBZ (by omega)) ?_
    intro v5 ev5
    have hv5 := congrArg Int32.toInt ev5
    refine And.intro (aBZ (by omega)) ?_
    have f8 := aAT v5
    refine And.intro (fun c7 => ?_) (fun c7 => ?_)
    · skip
      have c7 := (aAO _ _).mp c7
      refine And.intro (aBZ (by omega)) ?_
      intro v10 ev10
      have hv10 := congrArg Int32.toInt ev10
      refine And.intro (aBZ (by omega)) ?_
      refine And.intro (aBZ (by omega)) ?_
      intro v11 ev11
      have hv11 := congrArg Int32.toInt ev11
      refine And.intro (aBZ (by omega)) ?_
      have f14 := aAT v11
      refine And.intro (fun c13 => ?_) (fun c13 => ?_)
      · skip
        have c13 := (aAO _ _).mp c13
        intro v16 ev16
        have hv16 := congrArg Int32.toInt ev16
        intro v18 ev18
        have f20 := aAT v16
        have f21 : Int32.toInt (0 * 0) = Int32.toInt (0 : Int32) * 0 := ta_mulc _ _ (by decide) (by omega)
        have f19 : Int32.toInt (v16 + (0 * 0)) = Int32.toInt v16 + Int32.toInt (0 * 0) := aAD _ _ (by omega)
        rw [← ev18] at f19
        have f23 := aAT v18
        refine And.intro (fun c22 => ?_) (fun c22 => ?_)
        · skip
          have c22 := (aAd _ _).mp c22
          refine And.intro (fun _ => ?_) (fun h9 => absurd h9 (by decide))
          have f25 := aAT x3
          exact ts_X9_from_77 dN bD uU gF mX oE dY gJ xL wX hpost hKn x1 x3 x4 x5 aBK aDO (by omega) hn42
        · skip
          have c22 := mt (aAd _ _).mpr c22
          refine And.intro (fun h9 => absurd h9 (by decide)) (fun _ => ?_)
          intro v26 ev26
          have f28 := aDv 7 128 x5 (by decide) (by omega)
          have f27 := ti_or 8 256 x4 (1 <<< (x5 &&& 31)) (by decide) (by omega) (by omega)
          have hv26 := congrArg Int32.toInt ev26
          have f29 := aAT x3
          exact ts_X9_from_77 dN bD uU gF mX oE dY gJ xL wX hpost hKn x1 x3 v26 x5 aBK (by omega) (by omega) hn42
      · skip
        have c13 := mt (aAO _ _).mpr c13
        refine And.intro (aBZ (by omega)) ?_
        intro v30 ev30
        have hv30 := congrArg Int32.toInt ev30
        refine And.intro (aBZ (by omega)) ?_
        intro v31 ev31
        have hv31 := congrArg Int32.toInt ev31
        intro v33 ev33
        have hv33 := congrArg Int32.toInt ev33
        intro v35 ev35
        have hv35 := congrArg Int32.toInt ev35
        have f38 := aAT v35
        refine And.intro (fun c37 => ?_) (fun c37 => ?_)
        · skip
          have c37 := (aAd _ _).mp c37
          refine And.intro (fun _ => ?_) (fun h9 => absurd h9 (by decide))
          have f40 := aAT x3
          exact ts_X9_from_77 dN bD uU gF mX oE dY gJ xL wX hpost hKn x1 x3 x4 x5 aBK aDO (by omega) hn42
        · skip
          have c37 := mt (aAd _ _).mpr c37
          refine And.intro (fun h9 => absurd h9 (by decide)) (fun _ => ?_)
          intro v41 ev41
          have f43 := aDv 7 128 x5 (by decide) (by omega)
          have f42 := ti_or 8 256 x4 (1 <<< (x5 &&& 31)) (by decide) (by omega) (by omega)
          have hv41 := congrArg Int32.toInt ev41
          have f44 := aAT x3
          exact ts_X9_from_77 dN bD uU gF mX oE dY gJ xL wX hpost hKn x1 x3 v41 x5 aBK (by omega) (by omega) hn42
    · skip
      have c7 := mt (aAO _ _).mpr c7
      refine And.intro (aBZ (by omega)) ?_
      intro v45 ev45
      have hv45 := congrArg Int32.toInt ev45
      refine And.intro (aBZ (by omega)) ?_
      intro v46 ev46
      have hv46 := congrArg Int32.toInt ev46
      refine And.intro (aBZ (by omega)) ?_
      intro v48 ev48
      have hv48 := congrArg Int32.toInt ev48
      refine And.intro (aBZ (by omega)) ?_
      have f51 := aAT v48
      refine And.intro (fun c50 => ?_) (fun c50 => ?_)
      · skip
        have c50 := (aAO _ _).mp c50
        intro v53 ev53
        have hv53 := congrArg Int32.toInt ev53
        intro v55 ev55
        have f57 := aAT v53
        have f58 : Int32.toInt (0 * 0) = Int32.toInt (0 : Int32) * 0 := ta_mulc _ _ (by decide) (by omega)
        have f56 : Int32.toInt (v53 + (0 * 0)) = Int32.toInt v53 + Int32.toInt (0 * 0) := aAD _ _ (by omega)
        rw [← ev55] at f56
        have f60 := aAT v55
        refine And.intro (fun c59 => ?_) (fun c59 => ?_)
        · skip
          have c59 := (aAd _ _).mp c59
          refine And.intro (fun _ => ?_) (fun h9 => absurd h9 (by decide))
          have f62 := aAT x3
          exact ts_X9_from_77 dN bD uU gF mX oE dY gJ xL wX hpost hKn x1 x3 x4 x5 aBK aDO (by omega) hn42
        · skip
          have c59 := mt (aAd _ _).mpr c59
          refine And.intro (fun h9 => absurd h9 (by decide)) (fun _ => ?_)
          intro v63 ev63
          have f65 := aDv 7 128 x5 (by decide) (by omega)
          have f64 := ti_or 8 256 x4 (1 <<< (x5 &&& 31)) (by decide) (by omega) (by omega)
          have hv63 := congrArg Int32.toInt ev63
          have f66 := aAT x3
          exact ts_X9_from_77 dN bD uU gF mX oE dY gJ xL wX hpost hKn x1 x3 v63 x5 aBK (by omega) (by omega) hn42
      · skip
        have c50 := mt (aAO _ _).mpr c50
        refine And.intro (aBZ (by omega)) ?_
        intro v67 ev67
        have hv67 := congrArg Int32.toInt ev67
        refine And.intro (aBZ (by omega)) ?_
        intro v68 ev68
        have hv68 := congrArg Int32.toInt ev68
        intro v70 ev70
        have hv70 := congrArg Int32.toInt ev70
        intro v72 ev72
        have hv72 := congrArg Int32.toInt ev72
        have f75 := aAT v72
        refine And.intro (fun c74 => ?_) (fun c74 => ?_)
        · skip
          have c74 := (aAd _ _).mp c74
          refine And.intro (fun _ => ?_) (fun h9 => absurd h9 (by decide))
          have f77 := aAT x3
          exact ts_X9_from_77 dN bD uU gF mX oE dY gJ xL wX hpost hKn x1 x3 x4 x5 aBK aDO (by omega) hn42
        · skip
          have c74 := mt (aAd _ _).mpr c74
          refine And.intro (fun h9 => absurd h9 (by decide)) (fun _ => ?_)
          intro v78 ev78
          have f80 := aDv 7 128 x5 (by decide) (by omega)
          have f79 := ti_or 8 256 x4 (1 <<< (x5 &&& 31)) (by decide) (by omega) (by omega)
          have hv78 := congrArg Int32.toInt ev78
          have f81 := aAT x3
          exact ts_X9_from_77 dN bD uU gF mX oE dY gJ xL wX hpost hKn x1 x3 v78 x5 aBK (by omega) (by omega) hn42
set_option maxHeartbeats 8000000 in
set_option maxRecDepth 200000 in
theorem tb_X9_from_42 {post : Int32 → Prop} (dN bD : Int32) (uU gF mX oE dY : Nat → Int32) (gJ : Int32) (xL : 0 ≤ Int32.toInt dN ∧ Int32.toInt dN ≤ 16) (wX : 0 ≤ Int32.toInt bD ∧ Int32.toInt bD ≤ 8) (hpost : ∀ (r : Int32) , (-1 ≤ Int32.toInt r ∧ Int32.toInt r ≤ 255) → post r) : ∀ (n : Nat) (x1 x3 x4 x5 : Int32), (0 ≤ Int32.toInt x1 ∧ Int32.toInt x1 ≤ 15) → (0 ≤ Int32.toInt x4 ∧ Int32.toInt x4 ≤ 255) → (0 ≤ Int32.toInt x5 ∧ Int32.toInt x5 ≤ 8) → (8 - Int32.toInt x5 < (n : Int)) → wb_X9_from_42 post dN bD uU gF mX oE dY gJ n x1 x3 x4 x5 := by
  intro n
  induction n with
  | zero =>
    intro x1 x3 x4 x5 aBK aDO aF7 hm
    exfalso; omega
  | succ n ih =>
    intro x1 x3 x4 x5 aBK aDO aF7 hm
    exact ts_X9_from_42 dN bD uU gF mX oE dY gJ xL wX hpost ih x1 x3 x4 x5 aBK aDO aF7 (by omega)
set_option maxHeartbeats 8000000 in
set_option maxRecDepth 200000 in
theorem t_X9_from {post : Int32 → Prop} {p0 p1 dN bD : Int32} {uU gF mX oE dY : Nat → Int32} {gJ : Int32} (xL : 0 ≤ Int32.toInt dN ∧ Int32.toInt dN ≤ 16) (wX : 0 ≤ Int32.toInt bD ∧ Int32.toInt bD ≤ 8) (hpost : ∀ (r : Int32) , (-1 ≤ Int32.toInt r ∧ Int32.toInt r ≤ 255) → post r) : wp_X9_from post p0 p1 dN bD uU gF mX oE dY gJ := by
  have l0 := aI2
  have l1 := aE0
  have l2 := aEc
  have l3 := li_2
  have f83 := aAT p0
  refine And.intro (fun c82 => ?_) (fun c82 => ?_)
  · skip
    have c82 := (aAd _ _).mp c82
    refine And.intro (fun _ => ?_) (fun h9 => absurd h9 (by decide))
    exact hpost _ (by omega)
  · skip
    have c82 := mt (aAd _ _).mpr c82
    refine And.intro (fun c84 => ?_) (fun c84 => ?_)
    · skip
      have c84 := (aAO _ _).mp c84
      refine And.intro (fun _ => ?_) (fun h9 => absurd h9 (by decide))
      exact hpost _ (by omega)
    · skip
      have c84 := mt (aAO _ _).mpr c84
      refine And.intro (fun h9 => absurd h9 (by decide)) (fun _ => ?_)
      refine t_X9_isYesOrNo  (fun r85 h_r85 => ?_)
      refine And.intro (fun c86 => ?_) (fun c86 => ?_)
      · skip
        have c86 := mt (zJ _ _).mpr c86
        intro v87 ev87
        have hv87 := congrArg Int32.toInt ev87
        intro v89 ev89
        have hv89 := congrArg Int32.toInt ev89
        exact ⟨10, tb_X9_from_42 dN bD uU gF mX oE dY gJ xL wX hpost _ p0 (v89 + (p1 * (dY (2 : Int32).toNatClampNeg))) 0 0 (by omega) (by omega) (by omega) (by omega)⟩
      · skip
        have c86 := (zJ _ _).mp c86
        exact hpost _ (by omega)
set_option maxHeartbeats 8000000 in
set_option maxRecDepth 200000 in
theorem ts_X9_never_10 {post : Int32 → Int32 → (Nat → Int32) → Prop} {next : Int32 → Int32 → Int32 → (Nat → Int32) → Prop} {n10 : Int} (dN bD : Int32) (uU gF pL mX oE dY : Nat → Int32) (jE eW eY dU : Int32) (xL : 0 ≤ Int32.toInt dN ∧ Int32.toInt dN ≤ 16) (wX : 0 ≤ Int32.toInt bD ∧ Int32.toInt bD ≤ 8) (hpost : ∀ (r : Int32) (zV : Int32) (aAV : Nat → Int32), (0 ≤ Int32.toInt r ∧ Int32.toInt r ≤ 65535) → (1 ≤ Int32.toInt zV ∧ Int32.toInt zV ≤ 1) → post r zV aAV) (hKn : ∀ (x1 : Int32) (x2 : Int32) (qB : Int32) (jK : Nat → Int32), (0 ≤ Int32.toInt x1 ∧ Int32.toInt x1 ≤ 65535) → (0 ≤ Int32.toInt x2 ∧ Int32.toInt x2 ≤ 8) → (0 ≤ Int32.toInt qB ∧ Int32.toInt qB ≤ 16) → (8 - Int32.toInt x2 < n10) → next x1 x2 qB jK) (x1 x2 qB : Int32) (jK : Nat → Int32) (aBK : 0 ≤ Int32.toInt x1 ∧ Int32.toInt x1 ≤ 65535) (aBN : 0 ≤ Int32.toInt x2 ∧ Int32.toInt x2 ≤ 8) (aAK : 0 ≤ Int32.toInt qB ∧ Int32.toInt qB ≤ 16) (hn10 : 8 - Int32.toInt x2 ≤ n10) : ws_X9_never_10 post next dN bD uU gF pL mX oE dY jE eW eY dU x1 x2 qB jK := by
  have l0 := aE0
  have l1 := aEc
  have l2 := li_2
  refine And.intro (fun c1 => ?_) (fun c1 => ?_)
  · skip
    have c1 := (aAO _ _).mp c1
    refine aUx xL (fun r2 => ?_)
    refine And.intro (fun h9 => absurd h9 (by decide)) (fun _ => ?_)
    refine And.intro (aBZ (by omega)) ?_
    intro v3 ev3
    have f4 : Int32.toInt (0 + 1) = Int32.toInt (0 : Int32) + Int32.toInt (1 : Int32) := aAD _ _ (by omega)
    rw [← ev3] at f4
    exact hpost _ _ _ aBK (by omega)
  · skip
    have c1 := mt (aAO _ _).mpr c1
    intro v5 ev5
    have hv5 := congrArg Int32.toInt ev5
    intro v7 ev7
    have hv7 := congrArg Int32.toInt ev7
    refine t_X3_within (by omega) xL (fun r9 h_r9 => ?_)
    intro v10 ev10
    have f12 := aBx x1 (r9 ^^^ (-1)) (by omega)
    have hv10 := congrArg Int32.toInt ev10
    intro v13 ev13
    have f14 : Int32.toInt (x2 + 1) = Int32.toInt x2 + Int32.toInt (1 : Int32) := aAD _ _ (by omega)
    rw [← ev13] at f14
    exact hKn v10 v13 qB jK (by omega) (by omega) aAK (by omega)
set_option maxHeartbeats 8000000 in
set_option maxRecDepth 200000 in
theorem tb_X9_never_10 {post : Int32 → Int32 → (Nat → Int32) → Prop} (dN bD : Int32) (uU gF pL mX oE dY : Nat → Int32) (jE eW eY dU : Int32) (xL : 0 ≤ Int32.toInt dN ∧ Int32.toInt dN ≤ 16) (wX : 0 ≤ Int32.toInt bD ∧ Int32.toInt bD ≤ 8) (hpost : ∀ (r : Int32) (zV : Int32) (aAV : Nat → Int32), (0 ≤ Int32.toInt r ∧ Int32.toInt r ≤ 65535) → (1 ≤ Int32.toInt zV ∧ Int32.toInt zV ≤ 1) → post r zV aAV) : ∀ (n : Nat) (x1 x2 qB : Int32) (jK : Nat → Int32), (0 ≤ Int32.toInt x1 ∧ Int32.toInt x1 ≤ 65535) → (0 ≤ Int32.toInt x2 ∧ Int32.toInt x2 ≤ 8) → (0 ≤ Int32.toInt qB ∧ Int32.toInt qB ≤ 16) → (8 - Int32.toInt x2 < (n : Int)) → wb_X9_never_10 post dN bD uU gF pL mX oE dY jE eW eY dU n x1 x2 qB jK := by
  intro n
  induction n with
  | zero =>
    intro x1 x2 qB jK aBK aBN aAK hm
    exfalso; omega
  | succ n ih =>
    intro x1 x2 qB jK aBK aBN aAK hm
    exact ts_X9_never_10 dN bD uU gF pL mX oE dY jE eW eY dU xL wX hpost ih x1 x2 qB jK aBK aBN aAK (by omega)
set_option maxHeartbeats 8000000 in
set_option maxRecDepth 200000 in
theorem t_X9_never {post : Int32 → Int32 → (Nat → Int32) → Prop} {dN bD : Int32} {uU gF pL mX oE dY : Nat → Int32} {jE eW eY dU qB : Int32} {jK : Nat → Int32} (xL : 0 ≤ Int32.toInt dN ∧ Int32.toInt dN ≤ 16) (wX : 0 ≤ Int32.toInt bD ∧ Int32.toInt bD ≤ 8) (aAK : 0 ≤ Int32.toInt qB ∧ Int32.toInt qB ≤ 16) (hpost : ∀ (r : Int32) (zV : Int32) (aAV : Nat → Int32), (0 ≤ Int32.toInt r ∧ Int32.toInt r ≤ 65535) → (1 ≤ Int32.toInt zV ∧ Int32.toInt zV ≤ 1) → post r zV aAV) : wp_X9_never post dN bD uU gF pL mX oE dY jE eW eY dU qB jK := by
  have l0 := aE0
  have l1 := aEc
  intro v15 ev15
  have f16 := aDv 16 65536 dN (by decide) (by omega)
  have hv15 := congrArg Int32.toInt ev15
  intro v17 ev17
  intro v18 ev18
  have f20 : Int32.toInt (v15 - 1) = Int32.toInt v15 - Int32.toInt (1 : Int32) := aCA _ _ (by omega)
  have f21 := aBx (v15 - 1) (v18 ^^^ (-1)) (by omega)
  exact ⟨10, tb_X9_never_10 dN bD uU gF pL mX oE dY jE eW eY dU xL wX hpost _ ((v15 - 1) &&& (v18 ^^^ (-1))) 0 qB jK (by omega) (by omega) aAK (by omega)⟩
set_option maxHeartbeats 8000000 in
set_option maxRecDepth 200000 in
theorem t_X9_seconds {post : Int32 → (Nat → Int32) → (Nat → Int32) → Prop} {p0 p1 p2 dN bD : Int32} {uU gF pL mX oE dY : Nat → Int32} {dU gJ pQ : Int32} {qY qU pN : Nat → Int32} (xL : 0 ≤ Int32.toInt dN ∧ Int32.toInt dN ≤ 16) (wX : 0 ≤ Int32.toInt bD ∧ Int32.toInt bD ≤ 8) (zU : 0 ≤ Int32.toInt pQ ∧ Int32.toInt pQ ≤ 40) (hpost : ∀ (r : Int32) (aCG : Nat → Int32) (aB4 : Nat → Int32), (-2 ≤ Int32.toInt r ∧ Int32.toInt r ≤ 99) → post r aCG aB4) : wp_X9_seconds post p0 p1 p2 dN bD uU gF pL mX oE dY dU gJ pQ qY qU pN := by
  have l0 := aI2
  have l1 := li_m2
  have l2 := aE0
  have l3 := aEc
  have l4 := li_2
  have f2 := aAT p0
  refine And.intro (fun c1 => ?_) (fun c1 => ?_)
  · skip
    have c1 := (aAd _ _).mp c1
    refine And.intro (fun _ => ?_) (fun h9 => absurd h9 (by decide))
    exact hpost _ _ _ (by omega)
  · skip
    have c1 := mt (aAd _ _).mpr c1
    refine And.intro (fun c3 => ?_) (fun c3 => ?_)
    · skip
      have c3 := (aAO _ _).mp c3
      refine And.intro (fun _ => ?_) (fun h9 => absurd h9 (by decide))
      exact hpost _ _ _ (by omega)
    · skip
      have c3 := mt (aAO _ _).mpr c3
      refine And.intro (fun h9 => absurd h9 (by decide)) (fun _ => ?_)
      have f5 := aAT p1
      refine And.intro (fun c4 => ?_) (fun c4 => ?_)
      · skip
        have c4 := (aAd _ _).mp c4
        refine And.intro (fun _ => ?_) (fun h9 => absurd h9 (by decide))
        exact hpost _ _ _ (by omega)
      · skip
        have c4 := mt (aAd _ _).mpr c4
        refine And.intro (fun c6 => ?_) (fun c6 => ?_)
        · skip
          have c6 := (aAO _ _).mp c6
          refine And.intro (fun _ => ?_) (fun h9 => absurd h9 (by decide))
          exact hpost _ _ _ (by omega)
        · skip
          have c6 := mt (aAO _ _).mpr c6
          refine And.intro (fun h9 => absurd h9 (by decide)) (fun _ => ?_)
          refine t_X9_isYesOrNo  (fun r7 h_r7 => ?_)
          refine And.intro (fun c8 => ?_) (fun c8 => ?_)
          · skip
            have c8 := mt (zJ _ _).mpr c8
            intro v9 ev9
            have hv9 := congrArg Int32.toInt ev9
            intro v11 ev11
            have hv11 := congrArg Int32.toInt ev11
            refine And.intro (aBZ (by omega)) ?_
            intro v13 ev13
            have hv13 := congrArg Int32.toInt ev13
            refine And.intro (aBZ (by omega)) ?_
            have f16 := aAT v13
            refine And.intro (fun c15 => ?_) (fun c15 => ?_)
            · skip
              have c15 := (aAO _ _).mp c15
              refine And.intro (aBZ (by omega)) ?_
              intro v18 ev18
              have hv18 := congrArg Int32.toInt ev18
              refine And.intro (aBZ (by omega)) ?_
              refine And.intro (aBZ (by omega)) ?_
              intro v19 ev19
              have hv19 := congrArg Int32.toInt ev19
              refine And.intro (aBZ (by omega)) ?_
              have f22 := aAT v19
              refine And.intro (fun c21 => ?_) (fun c21 => ?_)
              · skip
                have c21 := (aAO _ _).mp c21
                intro v24 ev24
                have hv24 := congrArg Int32.toInt ev24
                intro v26 ev26
                have f28 := aAT v24
                have f29 : Int32.toInt (0 * 0) = Int32.toInt (0 : Int32) * 0 := ta_mulc _ _ (by decide) (by omega)
                have f27 : Int32.toInt (v24 + (0 * 0)) = Int32.toInt v24 + Int32.toInt (0 * 0) := aAD _ _ (by omega)
                rw [← ev26] at f27
                have f31 := aAT v26
                refine And.intro (fun c30 => ?_) (fun c30 => ?_)
                · skip
                  have c30 := (aAd _ _).mp c30
                  refine And.intro (fun h9 => absurd h9 (by decide)) (fun _ => ?_)
                  exact hpost _ _ _ (by omega)
                · skip
                  have c30 := mt (aAd _ _).mpr c30
                  refine And.intro (fun _ => ?_) (fun h9 => absurd h9 (by decide))
                  refine aUV (by omega) (by omega) (by omega) xL zU (fun r35 ru_given_33 ru_stack_34 h_r35 => ?_)
                  exact hpost _ _ _ (by omega)
              · skip
                have c21 := mt (aAO _ _).mpr c21
                refine And.intro (aBZ (by omega)) ?_
                intro v36 ev36
                have hv36 := congrArg Int32.toInt ev36
                refine And.intro (aBZ (by omega)) ?_
                intro v37 ev37
                have hv37 := congrArg Int32.toInt ev37
                intro v39 ev39
                have hv39 := congrArg Int32.toInt ev39
                intro v41 ev41
                have hv41 := congrArg Int32.toInt ev41
                have f44 := aAT v41
                refine And.intro (fun c43 => ?_) (fun c43 => ?_)
                · skip
                  have c43 := (aAd _ _).mp c43
                  refine And.intro (fun h9 => absurd h9 (by decide)) (fun _ => ?_)
                  exact hpost _ _ _ (by omega)
                · skip
                  have c43 := mt (aAd _ _).mpr c43
                  refine And.intro (fun _ => ?_) (fun h9 => absurd h9 (by decide))
                  refine aUV (by omega) (by omega) (by omega) xL zU (fun r48 ru_given_46 ru_stack_47 h_r48 => ?_)
                  exact hpost _ _ _ (by omega)
            · skip
              have c15 := mt (aAO _ _).mpr c15
              refine And.intro (aBZ (by omega)) ?_
              intro v49 ev49
              have hv49 := congrArg Int32.toInt ev49
              refine And.intro (aBZ (by omega)) ?_
              intro v50 ev50
              have hv50 := congrArg Int32.toInt ev50
              refine And.intro (aBZ (by omega)) ?_
              intro v52 ev52
              have hv52 := congrArg Int32.toInt ev52
              refine And.intro (aBZ (by omega)) ?_
              have f55 := aAT v52
              refine And.intro (fun c54 => ?_) (fun c54 => ?_)
              · skip
                have c54 := (aAO _ _).mp c54
                intro v57 ev57
                have hv57 := congrArg Int32.toInt ev57
                intro v59 ev59
                have f61 := aAT v57
                have f62 : Int32.toInt (0 * 0) = Int32.toInt (0 : Int32) * 0 := ta_mulc _ _ (by decide) (by omega)
                have f60 : Int32.toInt (v57 + (0 * 0)) = Int32.toInt v57 + Int32.toInt (0 * 0) := aAD _ _ (by omega)
                rw [← ev59] at f60
                have f64 := aAT v59
                refine And.intro (fun c63 => ?_) (fun c63 => ?_)
                · skip
                  have c63 := (aAd _ _).mp c63
                  refine And.intro (fun h9 => absurd h9 (by decide)) (fun _ => ?_)
                  exact hpost _ _ _ (by omega)
                · skip
                  have c63 := mt (aAd _ _).mpr c63
                  refine And.intro (fun _ => ?_) (fun h9 => absurd h9 (by decide))
                  refine aUV (by omega) (by omega) (by omega) xL zU (fun r68 ru_given_66 ru_stack_67 h_r68 => ?_)
                  exact hpost _ _ _ (by omega)
              · skip
                have c54 := mt (aAO _ _).mpr c54
                refine And.intro (aBZ (by omega)) ?_
                intro v69 ev69
                have hv69 := congrArg Int32.toInt ev69
                refine And.intro (aBZ (by omega)) ?_
                intro v70 ev70
                have hv70 := congrArg Int32.toInt ev70
                intro v72 ev72
                have hv72 := congrArg Int32.toInt ev72
                intro v74 ev74
                have hv74 := congrArg Int32.toInt ev74
                have f77 := aAT v74
                refine And.intro (fun c76 => ?_) (fun c76 => ?_)
                · skip
                  have c76 := (aAd _ _).mp c76
                  refine And.intro (fun h9 => absurd h9 (by decide)) (fun _ => ?_)
                  exact hpost _ _ _ (by omega)
                · skip
                  have c76 := mt (aAd _ _).mpr c76
                  refine And.intro (fun _ => ?_) (fun h9 => absurd h9 (by decide))
                  refine aUV (by omega) (by omega) (by omega) xL zU (fun r81 ru_given_79 ru_stack_80 h_r81 => ?_)
                  exact hpost _ _ _ (by omega)
          · skip
            have c8 := (zJ _ _).mp c8
            exact hpost _ _ _ (by omega)
