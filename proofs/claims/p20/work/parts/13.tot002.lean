set_option maxHeartbeats 8000000 in
set_option maxRecDepth 200000 in
theorem ts_X7_readPlainThing_38 {post : Int32 → Int32 → Int32 → Int32 → (Nat → Int32) → Prop} (rX : Int32) (qM : Nat → Int32) (aA2 : 1 ≤ Int32.toInt rX ∧ Int32.toInt rX ≤ 40) (aAI : ∀ k : Nat, 0 ≤ Int32.toInt (qM k) ∧ Int32.toInt (qM k) ≤ 65535) (hpost : ∀ (r : Int32) (aBS : Int32) (aDA : Int32) (aCy : Int32) (aMl : Nat → Int32), (0 ≤ Int32.toInt r ∧ Int32.toInt r ≤ 1) → (0 ≤ Int32.toInt aBS ∧ Int32.toInt aBS ≤ 80) → (0 ≤ Int32.toInt aDA ∧ Int32.toInt aDA ≤ 40) → (0 ≤ Int32.toInt aCy ∧ Int32.toInt aCy ≤ 1) → post r aBS aDA aCy aMl) (x2 qJ qI nJ : Int32) (uW : Nat → Int32) (aA0 : 0 ≤ Int32.toInt qJ ∧ Int32.toInt qJ ≤ 80) (aA8 : 0 ≤ Int32.toInt qI ∧ Int32.toInt qI ≤ 40) (aAs : 1 ≤ Int32.toInt nJ ∧ Int32.toInt nJ ≤ 1) : ws_X7_readPlainThing_38 post rX qM x2 qJ qI nJ uW := by
  have l0 := aE0
  have l1 := aEc
  have l2 := li_40
  refine And.intro (fun c1 => ?_) (fun c1 => ?_)
  · skip
    have c1 := (aAO _ _).mp c1
    exact hpost _ _ _ _ _ (by omega) aA0 aA8 (by omega)
  · skip
    have c1 := mt (aAO _ _).mpr c1
    refine And.intro (aBZ (by omega)) ?_
    intro v2 ev2
    have f3 : Int32.toInt (qI + 1) = Int32.toInt qI + Int32.toInt (1 : Int32) := aAD _ _ (by omega)
    rw [← ev2] at f3
    exact hpost _ _ _ _ _ (by omega) aA0 (by omega) (by omega)
set_option maxHeartbeats 8000000 in
set_option maxRecDepth 200000 in
theorem t_X7_readPlainThing {post : Int32 → Int32 → Int32 → Int32 → (Nat → Int32) → Prop} {qJ rX : Int32} {qM : Nat → Int32} {qI nJ : Int32} {uW : Nat → Int32} (aA0 : 0 ≤ Int32.toInt qJ ∧ Int32.toInt qJ ≤ 40) (aA2 : 1 ≤ Int32.toInt rX ∧ Int32.toInt rX ≤ 40) (aAI : ∀ k : Nat, 0 ≤ Int32.toInt (qM k) ∧ Int32.toInt (qM k) ≤ 65535) (aA8 : 0 ≤ Int32.toInt qI ∧ Int32.toInt qI ≤ 40) (aAs : 1 ≤ Int32.toInt nJ ∧ Int32.toInt nJ ≤ 1) (hpost : ∀ (r : Int32) (aBS : Int32) (aDA : Int32) (aCy : Int32) (aMl : Nat → Int32), (0 ≤ Int32.toInt r ∧ Int32.toInt r ≤ 1) → (0 ≤ Int32.toInt aBS ∧ Int32.toInt aBS ≤ 80) → (0 ≤ Int32.toInt aDA ∧ Int32.toInt aDA ≤ 40) → (0 ≤ Int32.toInt aCy ∧ Int32.toInt aCy ≤ 1) → post r aBS aDA aCy aMl) : wp_X7_readPlainThing post qJ rX qM qI nJ uW := by
  have l0 := aI2
  have l1 := aE0
  have l2 := aEc
  have l3 := li_1000
  have l4 := li_3
  refine aXN (by omega) (by omega) (by omega) aAI (fun r5 aDB h_tx_place_4 => ?_)
  have f7 := aAT r5
  refine And.intro (fun c6 => ?_) (fun c6 => ?_)
  · skip
    have c6 := mt (zJ _ _).mpr c6
    exact ts_X7_readPlainThing_38 rX qM aA2 aAI hpost r5 aDB qI nJ uW h_tx_place_4 aA8 aAs
  · skip
    have c6 := (zJ _ _).mp c6
    refine And.intro (fun c8 => ?_) (fun c8 => ?_)
    · skip
      have c8 := (aAO _ _).mp c8
      intro v9 ev9
      have hv9 := ti_i2c (-1)
      rw [← ev9] at hv9
      intro v10 ev10
      have f11 := ti_lix v9
      have hv10 := congrArg Int32.toInt ev10
      refine And.intro (fun c12 => ?_) (fun c12 => ?_)
      · skip
        have c12 := (aAO _ _).mp c12
        intro v13 ev13
        have f14 : Int32.toInt (1000 + v10) = Int32.toInt (1000 : Int32) + Int32.toInt v10 := aAD _ _ (by omega)
        rw [← ev13] at f14
        refine And.intro (fun c15 => ?_) (fun c15 => ?_)
        · skip
          have c15 := (aAO _ _).mp c15
          exact ts_X7_readPlainThing_38 rX qM aA2 aAI hpost v13 aDB qI nJ uW h_tx_place_4 aA8 aAs
        · skip
          have c15 := mt (aAO _ _).mpr c15
          intro v16 ev16
          have f17 : Int32.toInt (aDB + 1) = Int32.toInt aDB + Int32.toInt (1 : Int32) := aAD _ _ (by omega)
          rw [← ev16] at f17
          exact ts_X7_readPlainThing_38 rX qM aA2 aAI hpost v13 v16 qI nJ uW (by omega) aA8 aAs
      · skip
        have c12 := mt (aAO _ _).mpr c12
        exact hpost _ _ _ _ _ (by omega) h_tx_place_4 aA8 (by omega)
    · skip
      have c8 := mt (aAO _ _).mpr c8
      refine And.intro (aBZ (by omega)) ?_
      intro v18 ev18
      have f19 := aAI aDB.toNatClampNeg
      have hv18 := congrArg Int32.toInt ev18
      intro v20 ev20
      have hv20 := ti_i2c v18
      rw [← ev20] at hv20
      intro v21 ev21
      have f22 := ti_lix v20
      have hv21 := congrArg Int32.toInt ev21
      refine And.intro (fun c23 => ?_) (fun c23 => ?_)
      · skip
        have c23 := (aAO _ _).mp c23
        intro v24 ev24
        have f25 : Int32.toInt (1000 + v21) = Int32.toInt (1000 : Int32) + Int32.toInt v21 := aAD _ _ (by omega)
        rw [← ev24] at f25
        refine And.intro (fun c26 => ?_) (fun c26 => ?_)
        · skip
          have c26 := (aAO _ _).mp c26
          exact ts_X7_readPlainThing_38 rX qM aA2 aAI hpost v24 aDB qI nJ uW h_tx_place_4 aA8 aAs
        · skip
          have c26 := mt (aAO _ _).mpr c26
          intro v27 ev27
          have f28 : Int32.toInt (aDB + 1) = Int32.toInt aDB + Int32.toInt (1 : Int32) := aAD _ _ (by omega)
          rw [← ev27] at f28
          exact ts_X7_readPlainThing_38 rX qM aA2 aAI hpost v24 v27 qI nJ uW (by omega) aA8 aAs
      · skip
        have c23 := mt (aAO _ _).mpr c23
        exact hpost _ _ _ _ _ (by omega) h_tx_place_4 aA8 (by omega)
set_option maxHeartbeats 8000000 in
set_option maxRecDepth 200000 in
theorem ts_X7_readThing_78 {post : Int32 → Int32 → Int32 → Int32 → Int32 → Int32 → Int32 → (Nat → Int32) → (Nat → Int32) → Prop} (rX : Int32) (qM : Nat → Int32) (aA2 : 1 ≤ Int32.toInt rX ∧ Int32.toInt rX ≤ 40) (aAI : ∀ k : Nat, 0 ≤ Int32.toInt (qM k) ∧ Int32.toInt (qM k) ≤ 65535) (hpost : ∀ (r : Int32) (aBS : Int32) (aDA : Int32) (aFS : Int32) (aI6 : Int32) (aEO : Int32) (aCy : Int32) (aFD : Nat → Int32) (aMl : Nat → Int32), (0 ≤ Int32.toInt r ∧ Int32.toInt r ≤ 1) → (0 ≤ Int32.toInt aBS ∧ Int32.toInt aBS ≤ 80) → (0 ≤ Int32.toInt aDA ∧ Int32.toInt aDA ≤ 40) → (0 ≤ Int32.toInt aFS ∧ Int32.toInt aFS ≤ 40) → (0 ≤ Int32.toInt aI6 ∧ Int32.toInt aI6 ≤ 4) → (0 ≤ Int32.toInt aEO ∧ Int32.toInt aEO ≤ 31) → (0 ≤ Int32.toInt aCy ∧ Int32.toInt aCy ≤ 1) → (∀ k : Nat, 0 ≤ Int32.toInt (aFD k) ∧ Int32.toInt (aFD k) ≤ 256) → post r aBS aDA aFS aI6 aEO aCy aFD aMl) (qJ qI sY uG pY nJ : Int32) (tW uW : Nat → Int32) (aA0 : 0 ≤ Int32.toInt qJ ∧ Int32.toInt qJ ≤ 40) (aA8 : 0 ≤ Int32.toInt qI ∧ Int32.toInt qI ≤ 40) (aBi : 1 ≤ Int32.toInt sY ∧ Int32.toInt sY ≤ 40) (aB6 : 0 ≤ Int32.toInt uG ∧ Int32.toInt uG ≤ 4) (aBB : 0 ≤ Int32.toInt pY ∧ Int32.toInt pY ≤ 31) (aAs : 1 ≤ Int32.toInt nJ ∧ Int32.toInt nJ ≤ 1) (aAj : ∀ k : Nat, 0 ≤ Int32.toInt (tW k) ∧ Int32.toInt (tW k) ≤ 256) : ws_X7_readThing_78 post rX qM qJ qI sY uG pY nJ tW uW := by
  have l0 := aEc
  refine And.intro (fun c1 => ?_) (fun c1 => ?_)
  · skip
    have c1 := (aAO _ _).mp c1
    exact hpost _ _ _ _ _ _ _ _ _ (by omega) (by omega) aA8 (by omega) aB6 aBB (by omega) aAj
  · skip
    have c1 := mt (aAO _ _).mpr c1
    intro v2 ev2
    have f3 : Int32.toInt (qJ + 1) = Int32.toInt qJ + Int32.toInt (1 : Int32) := aAD _ _ (by omega)
    rw [← ev2] at f3
    exact hpost _ _ _ _ _ _ _ _ _ (by omega) (by omega) aA8 (by omega) aB6 aBB (by omega) aAj
set_option maxHeartbeats 8000000 in
set_option maxRecDepth 200000 in
theorem t_X7_readThing {post : Int32 → Int32 → Int32 → Int32 → Int32 → Int32 → Int32 → (Nat → Int32) → (Nat → Int32) → Prop} {qJ rX : Int32} {qM : Nat → Int32} {qI sY uG pY nJ : Int32} {tW uW : Nat → Int32} (aA0 : 0 ≤ Int32.toInt qJ ∧ Int32.toInt qJ ≤ 40) (aA2 : 1 ≤ Int32.toInt rX ∧ Int32.toInt rX ≤ 40) (aAI : ∀ k : Nat, 0 ≤ Int32.toInt (qM k) ∧ Int32.toInt (qM k) ≤ 65535) (aA8 : 0 ≤ Int32.toInt qI ∧ Int32.toInt qI ≤ 40) (aBi : 0 ≤ Int32.toInt sY ∧ Int32.toInt sY ≤ 40) (aB6 : 0 ≤ Int32.toInt uG ∧ Int32.toInt uG ≤ 4) (aBB : 0 ≤ Int32.toInt pY ∧ Int32.toInt pY ≤ 31) (aAs : 1 ≤ Int32.toInt nJ ∧ Int32.toInt nJ ≤ 1) (aAj : ∀ k : Nat, 0 ≤ Int32.toInt (tW k) ∧ Int32.toInt (tW k) ≤ 256) (hpost : ∀ (r : Int32) (aBS : Int32) (aDA : Int32) (aFS : Int32) (aI6 : Int32) (aEO : Int32) (aCy : Int32) (aFD : Nat → Int32) (aMl : Nat → Int32), (0 ≤ Int32.toInt r ∧ Int32.toInt r ≤ 1) → (0 ≤ Int32.toInt aBS ∧ Int32.toInt aBS ≤ 80) → (0 ≤ Int32.toInt aDA ∧ Int32.toInt aDA ≤ 40) → (0 ≤ Int32.toInt aFS ∧ Int32.toInt aFS ≤ 40) → (0 ≤ Int32.toInt aI6 ∧ Int32.toInt aI6 ≤ 4) → (0 ≤ Int32.toInt aEO ∧ Int32.toInt aEO ≤ 31) → (0 ≤ Int32.toInt aCy ∧ Int32.toInt aCy ≤ 1) → (∀ k : Nat, 0 ≤ Int32.toInt (aFD k) ∧ Int32.toInt (aFD k) ≤ 256) → post r aBS aDA aFS aI6 aEO aCy aFD aMl) : wp_X7_readThing post qJ rX qM qI sY uG pY nJ tW uW := by
  have l0 := aE0
  have l1 := aEc
  have l2 := li_256
  have l3 := li_4
  have l4 := li_40
  have l5 := li_45
  refine And.intro (fun c4 => ?_) (fun c4 => ?_)
  · skip
    have c4 := (aAO _ _).mp c4
    refine And.intro (fun _ => ?_) (fun h9 => absurd h9 (by decide))
    refine And.intro (fun _ => ?_) (fun h9 => absurd h9 (by decide))
    refine t_X7_readPlainThing aA0 aA2 aAI aA8 aAs (fun r9 aR5 aW9 ru_wantsThing_7 ru_draft_8 h_r9 h_tx_place_5 h_ru_drafted_6 h_ru_wantsThing_7 => ?_)
    refine And.intro (aHE (by omega)) ?_
    exact hpost _ _ _ _ _ _ _ _ _ h_r9 h_tx_place_5 h_ru_drafted_6 aBi aB6 aBB h_ru_wantsThing_7 aAj
  · skip
    have c4 := mt (aAO _ _).mpr c4
    refine And.intro (aBZ (by omega)) ?_
    intro v10 ev10
    have f11 := aAI qJ.toNatClampNeg
    have hv10 := congrArg Int32.toInt ev10
    refine And.intro (fun c12 => ?_) (fun c12 => ?_)
    · skip
      have c12 := mt (zJ _ _).mpr c12
      refine And.intro (fun c13 => ?_) (fun c13 => ?_)
      · skip
        have c13 := mt (zJ _ _).mpr c13
        refine t_X7_readPlainThing aA0 aA2 aAI aA8 aAs (fun r18 tx_place_14 ru_drafted_15 ru_wantsThing_16 ru_draft_17 h_r18 h_tx_place_14 h_ru_drafted_15 h_ru_wantsThing_16 => ?_)
        refine And.intro (aHE (by omega)) ?_
        exact hpost _ _ _ _ _ _ _ _ _ h_r18 h_tx_place_14 h_ru_drafted_15 aBi aB6 aBB h_ru_wantsThing_16 aAj
      · skip
        have c13 := (zJ _ _).mp c13
        refine And.intro (fun c19 => ?_) (fun c19 => ?_)
        · skip
          have c19 := (aAd _ _).mp c19
          intro v20 ev20
          have f21 : Int32.toInt (uG + 1) = Int32.toInt uG + Int32.toInt (1 : Int32) := aAD _ _ (by omega)
          rw [← ev20] at f21
          intro v22 ev22
          have f23 := aDv 4 16 v20 (by decide) (by omega)
          have hv22 := congrArg Int32.toInt ev22
          intro v24 ev24
          have f26 := aBx pY (v22 ^^^ (-1)) (by omega)
          have hv24 := congrArg Int32.toInt ev24
          refine And.intro (fun c27 => ?_) (fun c27 => ?_)
          · skip
            have c27 := (aAO _ _).mp c27
            exact ts_X7_readThing_78 rX qM aA2 aAI hpost qJ qI sY v20 v24 nJ tW uW aA0 aA8 (by omega) (by omega) (by omega) aAs aAj
          · skip
            have c27 := mt (aAO _ _).mpr c27
            refine And.intro (aBZ (by omega)) ?_
            have a28 : ∀ k : Nat, 0 ≤ Int32.toInt ((upd tW sY.toNatClampNeg v10) k) ∧ Int32.toInt ((upd tW sY.toNatClampNeg v10) k) ≤ 256 := t_upd (fun k => by have q9 := aAj k; omega) (by omega)
            intro v29 ev29
            have f30 : Int32.toInt (sY + 1) = Int32.toInt sY + Int32.toInt (1 : Int32) := aAD _ _ (by omega)
            rw [← ev29] at f30
            exact ts_X7_readThing_78 rX qM aA2 aAI hpost qJ qI v29 v20 v24 nJ (upd tW sY.toNatClampNeg v10) uW aA0 aA8 (by omega) (by omega) (by omega) aAs (fun k => by have q9 := a28 k; omega)
        · skip
          have c19 := mt (aAd _ _).mpr c19
          exact hpost _ _ _ _ _ _ _ _ _ (by omega) (by omega) aA8 aBi aB6 aBB (by omega) aAj
    · skip
      have c12 := (zJ _ _).mp c12
      refine And.intro (fun c31 => ?_) (fun c31 => ?_)
      · skip
        have c31 := (aAO _ _).mp c31
        exact ts_X7_readThing_78 rX qM aA2 aAI hpost qJ qI sY uG pY nJ tW uW aA0 aA8 (by omega) aB6 aBB aAs aAj
      · skip
        have c31 := mt (aAO _ _).mpr c31
        refine And.intro (aBZ (by omega)) ?_
        have a32 : ∀ k : Nat, 0 ≤ Int32.toInt ((upd tW sY.toNatClampNeg 256) k) ∧ Int32.toInt ((upd tW sY.toNatClampNeg 256) k) ≤ 256 := t_upd (fun k => by have q9 := aAj k; omega) (by omega)
        intro v33 ev33
        have f34 : Int32.toInt (sY + 1) = Int32.toInt sY + Int32.toInt (1 : Int32) := aAD _ _ (by omega)
        rw [← ev33] at f34
        exact ts_X7_readThing_78 rX qM aA2 aAI hpost qJ qI v33 uG pY nJ (upd tW sY.toNatClampNeg 256) uW aA0 aA8 (by omega) aB6 aBB aAs (fun k => by have q9 := a32 k; omega)
set_option maxHeartbeats 8000000 in
set_option maxRecDepth 200000 in
theorem ts_X7_settle_0 {post : Int32 → Int32 → (Nat → Int32) → Prop} {next : Int32 → Int32 → Int32 → (Nat → Int32) → Prop} {n0 : Int} (tW : Nat → Int32) (aAj : ∀ k : Nat, 0 ≤ Int32.toInt (tW k) ∧ Int32.toInt (tW k) ≤ 256) (hpost : ∀ (aDA : Int32) (aFS : Int32) (aMl : Nat → Int32), (0 ≤ Int32.toInt aDA ∧ Int32.toInt aDA ≤ 40) → (0 ≤ Int32.toInt aFS ∧ Int32.toInt aFS ≤ 40) → post aDA aFS aMl) (hKn : ∀ (x1 : Int32) (qI : Int32) (sY : Int32) (uW : Nat → Int32), (1 ≤ Int32.toInt x1 ∧ Int32.toInt x1 ≤ 4) → (0 ≤ Int32.toInt qI ∧ Int32.toInt qI ≤ 40) → (0 ≤ Int32.toInt sY ∧ Int32.toInt sY ≤ 40) → (Int32.toInt sY < n0) → next x1 qI sY uW) (x1 qI sY : Int32) (uW : Nat → Int32) (aBK : 1 ≤ Int32.toInt x1 ∧ Int32.toInt x1 ≤ 4) (aA8 : 0 ≤ Int32.toInt qI ∧ Int32.toInt qI ≤ 40) (aBi : 0 ≤ Int32.toInt sY ∧ Int32.toInt sY ≤ 40) (hn0 : Int32.toInt sY ≤ n0) : ws_X7_settle_0 post next tW x1 qI sY uW := by
  have l0 := aE0
  have l1 := aEc
  have l2 := li_2
  have l3 := li_2000
  have l4 := li_256
  have l5 := li_3
  have l6 := li_4
  have l7 := li_40
  have l8 := li_42
  have l9 := li_43
  have l10 := li_45
  have l11 := li_47
  have l12 := li_60
  have l13 := li_61
  have l14 := li_62
  refine And.intro (fun c1 => ?_) (fun c1 => ?_)
  · skip
    have c1 := (aAO _ _).mp c1
    exact hpost _ _ _ aA8 aBi
  · skip
    have c1 := mt (aAO _ _).mpr c1
    intro v2 ev2
    have f3 : Int32.toInt (sY - 1) = Int32.toInt sY - Int32.toInt (1 : Int32) := aCA _ _ (by omega)
    rw [← ev2] at f3
    refine And.intro (aBZ (by omega)) ?_
    intro v4 ev4
    have f5 := aAj v2.toNatClampNeg
    have hv4 := congrArg Int32.toInt ev4
    refine And.intro (fun c6 => ?_) ?_
    · skip
      have c6 := (zJ _ _).mp c6
      refine And.intro (fun c7 => ?_) (fun c7 => ?_)
      · skip
        have c7 := (aAd _ _).mp c7
        exact hpost _ _ _ aA8 aBi
      · skip
        have c7 := mt (aAd _ _).mpr c7
        intro v8 ev8
        have hv8 := congrArg Int32.toInt (ev8.trans ev2.symm)
        refine And.intro (aBZ (by omega)) ?_
        intro v9 ev9
        have f11 := aAj v8.toNatClampNeg
        have f10 : Int32.toInt (2000 + (tW v8.toNatClampNeg)) = Int32.toInt (2000 : Int32) + Int32.toInt (tW v8.toNatClampNeg) := aAD _ _ (by omega)
        rw [← ev9] at f10
        refine And.intro (fun c12 => ?_) (fun c12 => ?_)
        · skip
          have c12 := (aAO _ _).mp c12
          exact hKn x1 qI v8 uW aBK aA8 (by omega) (by omega)
        · skip
          have c12 := mt (aAO _ _).mpr c12
          refine And.intro (aBZ (by omega)) ?_
          intro v13 ev13
          have f14 : Int32.toInt (qI + 1) = Int32.toInt qI + Int32.toInt (1 : Int32) := aAD _ _ (by omega)
          rw [← ev13] at f14
          exact hKn x1 v13 v8 (upd uW qI.toNatClampNeg v9) aBK (by omega) (by omega) (by omega)
    refine And.intro (fun c15 => ?_) ?_
    · skip
      have c15 := (zJ _ _).mp c15
      refine And.intro (fun c16 => ?_) (fun c16 => ?_)
      · skip
        have c16 := (aAd _ _).mp c16
        exact hpost _ _ _ aA8 aBi
      · skip
        have c16 := mt (aAd _ _).mpr c16
        intro v17 ev17
        have hv17 := congrArg Int32.toInt (ev17.trans ev2.symm)
        refine And.intro (aBZ (by omega)) ?_
        intro v18 ev18
        have f20 := aAj v17.toNatClampNeg
        have f19 : Int32.toInt (2000 + (tW v17.toNatClampNeg)) = Int32.toInt (2000 : Int32) + Int32.toInt (tW v17.toNatClampNeg) := aAD _ _ (by omega)
        rw [← ev18] at f19
        refine And.intro (fun c21 => ?_) (fun c21 => ?_)
        · skip
          have c21 := (aAO _ _).mp c21
          exact hKn x1 qI v17 uW aBK aA8 (by omega) (by omega)
        · skip
          have c21 := mt (aAO _ _).mpr c21
          refine And.intro (aBZ (by omega)) ?_
          intro v22 ev22
          have f23 : Int32.toInt (qI + 1) = Int32.toInt qI + Int32.toInt (1 : Int32) := aAD _ _ (by omega)
          rw [← ev22] at f23
          exact hKn x1 v22 v17 (upd uW qI.toNatClampNeg v18) aBK (by omega) (by omega) (by omega)
    refine And.intro (fun c24 => ?_) ?_
    · skip
      have c24 := (zJ _ _).mp c24
      refine And.intro (fun c25 => ?_) (fun c25 => ?_)
      · skip
        have c25 := (aAd _ _).mp c25
        exact hpost _ _ _ aA8 aBi
      · skip
        have c25 := mt (aAd _ _).mpr c25
        intro v26 ev26
        have hv26 := congrArg Int32.toInt (ev26.trans ev2.symm)
        refine And.intro (aBZ (by omega)) ?_
        intro v27 ev27
        have f29 := aAj v26.toNatClampNeg
        have f28 : Int32.toInt (2000 + (tW v26.toNatClampNeg)) = Int32.toInt (2000 : Int32) + Int32.toInt (tW v26.toNatClampNeg) := aAD _ _ (by omega)
        rw [← ev27] at f28
        refine And.intro (fun c30 => ?_) (fun c30 => ?_)
        · skip
          have c30 := (aAO _ _).mp c30
          exact hKn x1 qI v26 uW aBK aA8 (by omega) (by omega)
        · skip
          have c30 := mt (aAO _ _).mpr c30
          refine And.intro (aBZ (by omega)) ?_
          intro v31 ev31
          have f32 : Int32.toInt (qI + 1) = Int32.toInt qI + Int32.toInt (1 : Int32) := aAD _ _ (by omega)
          rw [← ev31] at f32
          exact hKn x1 v31 v26 (upd uW qI.toNatClampNeg v27) aBK (by omega) (by omega) (by omega)
    refine And.intro (fun c33 => ?_) ?_
    · skip
      have c33 := (zJ _ _).mp c33
      refine And.intro (fun c34 => ?_) (fun c34 => ?_)
      · skip
        have c34 := (aAd _ _).mp c34
        exact hpost _ _ _ aA8 aBi
      · skip
        have c34 := mt (aAd _ _).mpr c34
        intro v35 ev35
        have hv35 := congrArg Int32.toInt (ev35.trans ev2.symm)
        refine And.intro (aBZ (by omega)) ?_
        intro v36 ev36
        have f38 := aAj v35.toNatClampNeg
        have f37 : Int32.toInt (2000 + (tW v35.toNatClampNeg)) = Int32.toInt (2000 : Int32) + Int32.toInt (tW v35.toNatClampNeg) := aAD _ _ (by omega)
        rw [← ev36] at f37
        refine And.intro (fun c39 => ?_) (fun c39 => ?_)
        · skip
          have c39 := (aAO _ _).mp c39
          exact hKn x1 qI v35 uW aBK aA8 (by omega) (by omega)
        · skip
          have c39 := mt (aAO _ _).mpr c39
          refine And.intro (aBZ (by omega)) ?_
          intro v40 ev40
          have f41 : Int32.toInt (qI + 1) = Int32.toInt qI + Int32.toInt (1 : Int32) := aAD _ _ (by omega)
          rw [← ev40] at f41
          exact hKn x1 v40 v35 (upd uW qI.toNatClampNeg v36) aBK (by omega) (by omega) (by omega)
    refine And.intro (fun c42 => ?_) ?_
    · skip
      have c42 := (zJ _ _).mp c42
      refine And.intro (fun c43 => ?_) (fun c43 => ?_)
      · skip
        have c43 := (aAd _ _).mp c43
        exact hpost _ _ _ aA8 aBi
      · skip
        have c43 := mt (aAd _ _).mpr c43
        intro v44 ev44
        have hv44 := congrArg Int32.toInt (ev44.trans ev2.symm)
        refine And.intro (aBZ (by omega)) ?_
        intro v45 ev45
        have f47 := aAj v44.toNatClampNeg
        have f46 : Int32.toInt (2000 + (tW v44.toNatClampNeg)) = Int32.toInt (2000 : Int32) + Int32.toInt (tW v44.toNatClampNeg) := aAD _ _ (by omega)
        rw [← ev45] at f46
        refine And.intro (fun c48 => ?_) (fun c48 => ?_)
        · skip
          have c48 := (aAO _ _).mp c48
          exact hKn x1 qI v44 uW aBK aA8 (by omega) (by omega)
        · skip
          have c48 := mt (aAO _ _).mpr c48
          refine And.intro (aBZ (by omega)) ?_
          intro v49 ev49
          have f50 : Int32.toInt (qI + 1) = Int32.toInt qI + Int32.toInt (1 : Int32) := aAD _ _ (by omega)
          rw [← ev49] at f50
          exact hKn x1 v49 v44 (upd uW qI.toNatClampNeg v45) aBK (by omega) (by omega) (by omega)
    refine And.intro (fun c51 => ?_) ?_
    · skip
      have c51 := (zJ _ _).mp c51
      refine And.intro (fun c52 => ?_) (fun c52 => ?_)
      · skip
        have c52 := (aAd _ _).mp c52
        exact hpost _ _ _ aA8 aBi
      · skip
        have c52 := mt (aAd _ _).mpr c52
        intro v53 ev53
        have hv53 := congrArg Int32.toInt (ev53.trans ev2.symm)
        refine And.intro (aBZ (by omega)) ?_
        intro v54 ev54
        have f56 := aAj v53.toNatClampNeg
        have f55 : Int32.toInt (2000 + (tW v53.toNatClampNeg)) = Int32.toInt (2000 : Int32) + Int32.toInt (tW v53.toNatClampNeg) := aAD _ _ (by omega)
        rw [← ev54] at f55
        refine And.intro (fun c57 => ?_) (fun c57 => ?_)
        · skip
          have c57 := (aAO _ _).mp c57
          exact hKn x1 qI v53 uW aBK aA8 (by omega) (by omega)
        · skip
          have c57 := mt (aAO _ _).mpr c57
          refine And.intro (aBZ (by omega)) ?_
          intro v58 ev58
          have f59 : Int32.toInt (qI + 1) = Int32.toInt qI + Int32.toInt (1 : Int32) := aAD _ _ (by omega)
          rw [← ev58] at f59
          exact hKn x1 v58 v53 (upd uW qI.toNatClampNeg v54) aBK (by omega) (by omega) (by omega)
    refine And.intro (fun c60 => ?_) ?_
    · skip
      have c60 := (zJ _ _).mp c60
      refine And.intro (fun c61 => ?_) (fun c61 => ?_)
      · skip
        have c61 := (aAd _ _).mp c61
        exact hpost _ _ _ aA8 aBi
      · skip
        have c61 := mt (aAd _ _).mpr c61
        intro v62 ev62
        have hv62 := congrArg Int32.toInt (ev62.trans ev2.symm)
        refine And.intro (aBZ (by omega)) ?_
        intro v63 ev63
        have f65 := aAj v62.toNatClampNeg
        have f64 : Int32.toInt (2000 + (tW v62.toNatClampNeg)) = Int32.toInt (2000 : Int32) + Int32.toInt (tW v62.toNatClampNeg) := aAD _ _ (by omega)
        rw [← ev63] at f64
        refine And.intro (fun c66 => ?_) (fun c66 => ?_)
        · skip
          have c66 := (aAO _ _).mp c66
          exact hKn x1 qI v62 uW aBK aA8 (by omega) (by omega)
        · skip
          have c66 := mt (aAO _ _).mpr c66
          refine And.intro (aBZ (by omega)) ?_
          intro v67 ev67
          have f68 : Int32.toInt (qI + 1) = Int32.toInt qI + Int32.toInt (1 : Int32) := aAD _ _ (by omega)
          rw [← ev67] at f68
          exact hKn x1 v67 v62 (upd uW qI.toNatClampNeg v63) aBK (by omega) (by omega) (by omega)
    refine And.intro (fun c69 => ?_) ?_
    · skip
      have c69 := (zJ _ _).mp c69
      refine And.intro (fun c70 => ?_) (fun c70 => ?_)
      · skip
        have c70 := (aAd _ _).mp c70
        exfalso; omega
      · skip
        have c70 := mt (aAd _ _).mpr c70
        intro v71 ev71
        have hv71 := congrArg Int32.toInt (ev71.trans ev2.symm)
        refine And.intro (aBZ (by omega)) ?_
        intro v72 ev72
        have f74 := aAj v71.toNatClampNeg
        have f73 : Int32.toInt (2000 + (tW v71.toNatClampNeg)) = Int32.toInt (2000 : Int32) + Int32.toInt (tW v71.toNatClampNeg) := aAD _ _ (by omega)
        rw [← ev72] at f73
        refine And.intro (fun c75 => ?_) (fun c75 => ?_)
        · skip
          have c75 := (aAO _ _).mp c75
          exact hKn x1 qI v71 uW aBK aA8 (by omega) (by omega)
        · skip
          have c75 := mt (aAO _ _).mpr c75
          refine And.intro (aBZ (by omega)) ?_
          intro v76 ev76
          have f77 : Int32.toInt (qI + 1) = Int32.toInt qI + Int32.toInt (1 : Int32) := aAD _ _ (by omega)
          rw [← ev76] at f77
          exact hKn x1 v76 v71 (upd uW qI.toNatClampNeg v72) aBK (by omega) (by omega) (by omega)
    intro c78 c79 c80 c81 c82 c83 c84 c85
    have c78 := mt (zJ _ _).mpr c78
    have c79 := mt (zJ _ _).mpr c79
    have c80 := mt (zJ _ _).mpr c80
    have c81 := mt (zJ _ _).mpr c81
    have c82 := mt (zJ _ _).mpr c82
    have c83 := mt (zJ _ _).mpr c83
    have c84 := mt (zJ _ _).mpr c84
    have c85 := mt (zJ _ _).mpr c85
    refine And.intro (fun c86 => ?_) (fun c86 => ?_)
    · skip
      have c86 := (aAd _ _).mp c86
      exact hpost _ _ _ aA8 aBi
    · skip
      have c86 := mt (aAd _ _).mpr c86
      exfalso; omega
set_option maxHeartbeats 8000000 in
set_option maxRecDepth 200000 in
theorem tb_X7_settle_0 {post : Int32 → Int32 → (Nat → Int32) → Prop} (tW : Nat → Int32) (aAj : ∀ k : Nat, 0 ≤ Int32.toInt (tW k) ∧ Int32.toInt (tW k) ≤ 256) (hpost : ∀ (aDA : Int32) (aFS : Int32) (aMl : Nat → Int32), (0 ≤ Int32.toInt aDA ∧ Int32.toInt aDA ≤ 40) → (0 ≤ Int32.toInt aFS ∧ Int32.toInt aFS ≤ 40) → post aDA aFS aMl) : ∀ (n : Nat) (x1 qI sY : Int32) (uW : Nat → Int32), (1 ≤ Int32.toInt x1 ∧ Int32.toInt x1 ≤ 4) → (0 ≤ Int32.toInt qI ∧ Int32.toInt qI ≤ 40) → (0 ≤ Int32.toInt sY ∧ Int32.toInt sY ≤ 40) → (Int32.toInt sY < (n : Int)) → wb_X7_settle_0 post tW n x1 qI sY uW := by
  intro n
  induction n with
  | zero =>
    intro x1 qI sY uW aBK aA8 aBi hm
    exfalso; omega
  | succ n ih =>
    intro x1 qI sY uW aBK aA8 aBi hm
    exact ts_X7_settle_0 tW aAj hpost ih x1 qI sY uW aBK aA8 aBi (by omega)
set_option maxHeartbeats 8000000 in
set_option maxRecDepth 200000 in
theorem t_X7_settle {post : Int32 → Int32 → (Nat → Int32) → Prop} {p0 qI sY : Int32} {tW uW : Nat → Int32} (h_p0 : 1 ≤ Int32.toInt p0 ∧ Int32.toInt p0 ≤ 4) (aA8 : 0 ≤ Int32.toInt qI ∧ Int32.toInt qI ≤ 40) (aBi : 0 ≤ Int32.toInt sY ∧ Int32.toInt sY ≤ 40) (aAj : ∀ k : Nat, 0 ≤ Int32.toInt (tW k) ∧ Int32.toInt (tW k) ≤ 256) (hpost : ∀ (aDA : Int32) (aFS : Int32) (aMl : Nat → Int32), (0 ≤ Int32.toInt aDA ∧ Int32.toInt aDA ≤ 40) → (0 ≤ Int32.toInt aFS ∧ Int32.toInt aFS ≤ 40) → post aDA aFS aMl) : wp_X7_settle post p0 qI sY tW uW := by
  exact ⟨42, tb_X7_settle_0 tW aAj hpost _ p0 qI sY uW h_p0 aA8 aBi (by omega)⟩
