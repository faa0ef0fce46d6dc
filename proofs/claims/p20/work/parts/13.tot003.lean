set_option maxHeartbeats 8000000 in
set_option maxRecDepth 200000 in
theorem ts_X7_readBehindThing_105 {post : Int32 → Int32 → Int32 → Int32 → Int32 → Int32 → Int32 → (Nat → Int32) → (Nat → Int32) → Prop} (rX : Int32) (qM : Nat → Int32) (aA2 : 1 ≤ Int32.toInt rX ∧ Int32.toInt rX ≤ 40) (aAI : ∀ k : Nat, 0 ≤ Int32.toInt (qM k) ∧ Int32.toInt (qM k) ≤ 65535) (hpost : ∀ (r : Int32) (aBS : Int32) (aDA : Int32) (aFS : Int32) (aI6 : Int32) (aEO : Int32) (aCy : Int32) (aFD : Nat → Int32) (aMl : Nat → Int32), (0 ≤ Int32.toInt r ∧ Int32.toInt r ≤ 1) → (0 ≤ Int32.toInt aBS ∧ Int32.toInt aBS ≤ 40) → (0 ≤ Int32.toInt aDA ∧ Int32.toInt aDA ≤ 40) → (0 ≤ Int32.toInt aFS ∧ Int32.toInt aFS ≤ 40) → (0 ≤ Int32.toInt aI6 ∧ Int32.toInt aI6 ≤ 4) → (0 ≤ Int32.toInt aEO ∧ Int32.toInt aEO ≤ 31) → (0 ≤ Int32.toInt aCy ∧ Int32.toInt aCy ≤ 1) → (∀ k : Nat, 0 ≤ Int32.toInt (aFD k) ∧ Int32.toInt (aFD k) ≤ 256) → post r aBS aDA aFS aI6 aEO aCy aFD aMl) (x2 x3 qJ qI sY uG pY nJ : Int32) (tW uW : Nat → Int32) (aBN : 42 ≤ Int32.toInt x2 ∧ Int32.toInt x2 ≤ 256) (aCH : 1 ≤ Int32.toInt x3 ∧ Int32.toInt x3 ≤ 4) (aA0 : 0 ≤ Int32.toInt qJ ∧ Int32.toInt qJ ≤ 40) (aA8 : 0 ≤ Int32.toInt qI ∧ Int32.toInt qI ≤ 40) (aBi : 0 ≤ Int32.toInt sY ∧ Int32.toInt sY ≤ 40) (aB6 : 0 ≤ Int32.toInt uG ∧ Int32.toInt uG ≤ 4) (aBB : 0 ≤ Int32.toInt pY ∧ Int32.toInt pY ≤ 31) (aAs : 0 ≤ Int32.toInt nJ ∧ Int32.toInt nJ ≤ 0) (aAj : ∀ k : Nat, 0 ≤ Int32.toInt (tW k) ∧ Int32.toInt (tW k) ≤ 256) : bCe post rX qM x2 x3 qJ qI sY uG pY nJ tW uW := by
  have l0 := aEc
  have l1 := li_40
  refine t_X7_settle aCH aA8 aBi aAj (fun ru_drafted_1 ru_waits_2 ru_draft_3 h_ru_drafted_1 h_ru_waits_2 => ?_)
  refine And.intro (fun c4 => ?_) (fun c4 => ?_)
  · skip
    have c4 := (aAO _ _).mp c4
    refine And.intro (fun c5 => ?_) (fun c5 => ?_)
    · skip
      have c5 := (aAO _ _).mp c5
      exact hpost _ _ _ _ _ _ _ _ _ (by omega) aA0 h_ru_drafted_1 h_ru_waits_2 aB6 aBB (by omega) aAj
    · skip
      have c5 := mt (aAO _ _).mpr c5
      intro v6 ev6
      have f7 : Int32.toInt (qJ + 1) = Int32.toInt qJ + Int32.toInt (1 : Int32) := aAD _ _ (by omega)
      rw [← ev6] at f7
      exact hpost _ _ _ _ _ _ _ _ _ (by omega) (by omega) h_ru_drafted_1 h_ru_waits_2 aB6 aBB (by omega) aAj
  · skip
    have c4 := mt (aAO _ _).mpr c4
    refine And.intro (aBZ (by omega)) ?_
    have a8 : ∀ k : Nat, 0 ≤ Int32.toInt ((upd tW ru_waits_2.toNatClampNeg x2) k) ∧ Int32.toInt ((upd tW ru_waits_2.toNatClampNeg x2) k) ≤ 256 := t_upd (fun k => by have q9 := aAj k; omega) (by omega)
    intro v9 ev9
    have f10 : Int32.toInt (ru_waits_2 + 1) = Int32.toInt ru_waits_2 + Int32.toInt (1 : Int32) := aAD _ _ (by omega)
    rw [← ev9] at f10
    refine And.intro (fun c11 => ?_) (fun c11 => ?_)
    · skip
      have c11 := (aAO _ _).mp c11
      exact hpost _ _ _ _ _ _ _ _ _ (by omega) aA0 h_ru_drafted_1 (by omega) aB6 aBB (by omega) (fun k => by have q9 := a8 k; omega)
    · skip
      have c11 := mt (aAO _ _).mpr c11
      intro v12 ev12
      have f13 : Int32.toInt (qJ + 1) = Int32.toInt qJ + Int32.toInt (1 : Int32) := aAD _ _ (by omega)
      rw [← ev12] at f13
      exact hpost _ _ _ _ _ _ _ _ _ (by omega) (by omega) h_ru_drafted_1 (by omega) aB6 aBB (by omega) (fun k => by have q9 := a8 k; omega)
set_option maxHeartbeats 8000000 in
set_option maxRecDepth 200000 in
theorem aRS {post : Int32 → Int32 → Int32 → Int32 → Int32 → Int32 → Int32 → (Nat → Int32) → (Nat → Int32) → Prop} (rX : Int32) (qM : Nat → Int32) (aA2 : 1 ≤ Int32.toInt rX ∧ Int32.toInt rX ≤ 40) (aAI : ∀ k : Nat, 0 ≤ Int32.toInt (qM k) ∧ Int32.toInt (qM k) ≤ 65535) (hpost : ∀ (r : Int32) (aBS : Int32) (aDA : Int32) (aFS : Int32) (aI6 : Int32) (aEO : Int32) (aCy : Int32) (aFD : Nat → Int32) (aMl : Nat → Int32), (0 ≤ Int32.toInt r ∧ Int32.toInt r ≤ 1) → (0 ≤ Int32.toInt aBS ∧ Int32.toInt aBS ≤ 40) → (0 ≤ Int32.toInt aDA ∧ Int32.toInt aDA ≤ 40) → (0 ≤ Int32.toInt aFS ∧ Int32.toInt aFS ≤ 40) → (0 ≤ Int32.toInt aI6 ∧ Int32.toInt aI6 ≤ 4) → (0 ≤ Int32.toInt aEO ∧ Int32.toInt aEO ≤ 31) → (0 ≤ Int32.toInt aCy ∧ Int32.toInt aCy ≤ 1) → (∀ k : Nat, 0 ≤ Int32.toInt (aFD k) ∧ Int32.toInt (aFD k) ≤ 256) → post r aBS aDA aFS aI6 aEO aCy aFD aMl) (x2 x3 qJ qI sY uG pY nJ : Int32) (tW uW : Nat → Int32) (aBN : 42 ≤ Int32.toInt x2 ∧ Int32.toInt x2 ≤ 256) (aCH : 1 ≤ Int32.toInt x3 ∧ Int32.toInt x3 ≤ 4) (aA0 : 0 ≤ Int32.toInt qJ ∧ Int32.toInt qJ ≤ 40) (aA8 : 0 ≤ Int32.toInt qI ∧ Int32.toInt qI ≤ 40) (aBi : 0 ≤ Int32.toInt sY ∧ Int32.toInt sY ≤ 40) (aB6 : 0 ≤ Int32.toInt uG ∧ Int32.toInt uG ≤ 4) (aBB : 0 ≤ Int32.toInt pY ∧ Int32.toInt pY ≤ 31) (aAs : 0 ≤ Int32.toInt nJ ∧ Int32.toInt nJ ≤ 0) (aAj : ∀ k : Nat, 0 ≤ Int32.toInt (tW k) ∧ Int32.toInt (tW k) ≤ 256) : ws_X7_readBehindThing_85 post rX qM x2 x3 qJ qI sY uG pY nJ tW uW := by
  have l0 := aEc
  refine And.intro (fun c14 => ?_) (fun c14 => ?_)
  · skip
    have c14 := mt (zJ _ _).mpr c14
    exact ts_X7_readBehindThing_105 rX qM aA2 aAI hpost x2 x3 qJ qI sY uG pY nJ tW uW aBN aCH aA0 aA8 aBi aB6 aBB aAs aAj
  · skip
    have c14 := (zJ _ _).mp c14
    intro v15 ev15
    have f17 := aDv 4 16 uG (by decide) (by omega)
    have f16 := ti_or 5 32 pY (1 <<< (uG &&& 31)) (by decide) (by omega) (by omega)
    have hv15 := congrArg Int32.toInt ev15
    exact ts_X7_readBehindThing_105 rX qM aA2 aAI hpost x2 x3 qJ qI sY uG v15 nJ tW uW aBN aCH aA0 aA8 aBi aB6 (by omega) aAs aAj
set_option maxHeartbeats 8000000 in
set_option maxRecDepth 200000 in
theorem t_X7_readBehindThing {post : Int32 → Int32 → Int32 → Int32 → Int32 → Int32 → Int32 → (Nat → Int32) → (Nat → Int32) → Prop} {qJ rX : Int32} {qM : Nat → Int32} {qI sY uG pY nJ : Int32} {tW uW : Nat → Int32} (aA0 : 0 ≤ Int32.toInt qJ ∧ Int32.toInt qJ ≤ 40) (aA2 : 1 ≤ Int32.toInt rX ∧ Int32.toInt rX ≤ 40) (aAI : ∀ k : Nat, 0 ≤ Int32.toInt (qM k) ∧ Int32.toInt (qM k) ≤ 65535) (aA8 : 0 ≤ Int32.toInt qI ∧ Int32.toInt qI ≤ 40) (aBi : 0 ≤ Int32.toInt sY ∧ Int32.toInt sY ≤ 40) (aB6 : 0 ≤ Int32.toInt uG ∧ Int32.toInt uG ≤ 4) (aBB : 0 ≤ Int32.toInt pY ∧ Int32.toInt pY ≤ 31) (aAs : 0 ≤ Int32.toInt nJ ∧ Int32.toInt nJ ≤ 0) (aAj : ∀ k : Nat, 0 ≤ Int32.toInt (tW k) ∧ Int32.toInt (tW k) ≤ 256) (hpost : ∀ (r : Int32) (aBS : Int32) (aDA : Int32) (aFS : Int32) (aI6 : Int32) (aEO : Int32) (aCy : Int32) (aFD : Nat → Int32) (aMl : Nat → Int32), (0 ≤ Int32.toInt r ∧ Int32.toInt r ≤ 1) → (0 ≤ Int32.toInt aBS ∧ Int32.toInt aBS ≤ 40) → (0 ≤ Int32.toInt aDA ∧ Int32.toInt aDA ≤ 40) → (0 ≤ Int32.toInt aFS ∧ Int32.toInt aFS ≤ 40) → (0 ≤ Int32.toInt aI6 ∧ Int32.toInt aI6 ≤ 4) → (0 ≤ Int32.toInt aEO ∧ Int32.toInt aEO ≤ 31) → (0 ≤ Int32.toInt aCy ∧ Int32.toInt aCy ≤ 1) → (∀ k : Nat, 0 ≤ Int32.toInt (aFD k) ∧ Int32.toInt (aFD k) ≤ 256) → post r aBS aDA aFS aI6 aEO aCy aFD aMl) : wp_X7_readBehindThing post qJ rX qM qI sY uG pY nJ tW uW := by
  have l0 := aI2
  have l1 := aE0
  have l2 := aEc
  have l3 := li_2
  have l4 := li_256
  have l5 := li_3
  have l6 := li_4
  have l7 := li_41
  have l8 := li_42
  have l9 := li_43
  have l10 := li_45
  have l11 := li_47
  have l12 := li_60
  have l13 := li_61
  have l14 := li_62
  refine And.intro (fun c18 => ?_) (fun c18 => ?_)
  · skip
    have c18 := (aAO _ _).mp c18
    refine And.intro (fun _ => ?_) (fun h9 => absurd h9 (by decide))
    refine And.intro (fun c19 => ?_) ?_
    · skip
      have c19 := (zJ _ _).mp c19
      exfalso; omega
    refine And.intro (fun c20 => ?_) ?_
    · skip
      have c20 := (zJ _ _).mp c20
      exfalso; omega
    refine And.intro (fun c21 => ?_) ?_
    · skip
      have c21 := (zJ _ _).mp c21
      exfalso; omega
    refine And.intro (fun c22 => ?_) ?_
    · skip
      have c22 := (zJ _ _).mp c22
      exfalso; omega
    refine And.intro (fun c23 => ?_) ?_
    · skip
      have c23 := (zJ _ _).mp c23
      exfalso; omega
    refine And.intro (fun c24 => ?_) ?_
    · skip
      have c24 := (zJ _ _).mp c24
      exfalso; omega
    refine And.intro (fun c25 => ?_) ?_
    · skip
      have c25 := (zJ _ _).mp c25
      exfalso; omega
    refine And.intro (fun c26 => ?_) ?_
    · skip
      have c26 := (zJ _ _).mp c26
      exfalso; omega
    intro c27 c28 c29 c30 c31 c32 c33 c34
    have c27 := mt (zJ _ _).mpr c27
    have c28 := mt (zJ _ _).mpr c28
    have c29 := mt (zJ _ _).mpr c29
    have c30 := mt (zJ _ _).mpr c30
    have c31 := mt (zJ _ _).mpr c31
    have c32 := mt (zJ _ _).mpr c32
    have c33 := mt (zJ _ _).mpr c33
    have c34 := mt (zJ _ _).mpr c34
    refine And.intro (fun _ => ?_) (fun h9 => absurd h9 (by decide))
    exact hpost _ _ _ _ _ _ _ _ _ (by omega) aA0 aA8 aBi aB6 aBB (by omega) aAj
  · skip
    have c18 := mt (aAO _ _).mpr c18
    refine And.intro (aBZ (by omega)) ?_
    intro v35 ev35
    have f36 := aAI qJ.toNatClampNeg
    have hv35 := congrArg Int32.toInt ev35
    refine And.intro (fun c37 => ?_) (fun c37 => ?_)
    · skip
      have c37 := mt (zJ _ _).mpr c37
      refine And.intro (fun c38 => ?_) ?_
      · skip
        have c38 := (zJ _ _).mp c38
        refine And.intro (fun h9 => absurd h9 (by decide)) (fun _ => ?_)
        refine And.intro (fun _ => ?_) (fun h9 => absurd h9 (by decide))
        exact aRS rX qM aA2 aAI hpost v35 3 qJ qI sY uG pY nJ tW uW (by omega) (by omega) aA0 aA8 aBi aB6 aBB aAs aAj
      refine And.intro (fun c39 => ?_) ?_
      · skip
        have c39 := (zJ _ _).mp c39
        refine And.intro (fun h9 => absurd h9 (by decide)) (fun _ => ?_)
        refine And.intro (fun _ => ?_) (fun h9 => absurd h9 (by decide))
        exact aRS rX qM aA2 aAI hpost v35 2 qJ qI sY uG pY nJ tW uW (by omega) (by omega) aA0 aA8 aBi aB6 aBB aAs aAj
      refine And.intro (fun c40 => ?_) ?_
      · skip
        have c40 := (zJ _ _).mp c40
        refine And.intro (fun h9 => absurd h9 (by decide)) (fun _ => ?_)
        refine And.intro (fun _ => ?_) (fun h9 => absurd h9 (by decide))
        exact aRS rX qM aA2 aAI hpost v35 2 qJ qI sY uG pY nJ tW uW (by omega) (by omega) aA0 aA8 aBi aB6 aBB aAs aAj
      refine And.intro (fun c41 => ?_) ?_
      · skip
        have c41 := (zJ _ _).mp c41
        refine And.intro (fun h9 => absurd h9 (by decide)) (fun _ => ?_)
        refine And.intro (fun _ => ?_) (fun h9 => absurd h9 (by decide))
        exact aRS rX qM aA2 aAI hpost v35 3 qJ qI sY uG pY nJ tW uW (by omega) (by omega) aA0 aA8 aBi aB6 aBB aAs aAj
      refine And.intro (fun c42 => ?_) ?_
      · skip
        have c42 := (zJ _ _).mp c42
        refine And.intro (fun h9 => absurd h9 (by decide)) (fun _ => ?_)
        refine And.intro (fun h9 => absurd h9 (by decide)) (fun _ => ?_)
        intro v43 ev43
        have f44 := aRJ pY uG (by omega)
        have hv43 := congrArg Int32.toInt ev43
        have f46 := aAQ v43 1 (by omega)
        have f47 := aBx v43 1 (by omega)
        refine And.intro (fun c45 => ?_) (fun c45 => ?_)
        · skip
          have c45 := (zJ _ _).mp c45
          exact aRS rX qM aA2 aAI hpost v35 1 qJ qI sY uG pY nJ tW uW (by omega) (by omega) aA0 aA8 aBi aB6 aBB aAs aAj
        · skip
          have c45 := mt (zJ _ _).mpr c45
          exact hpost _ _ _ _ _ _ _ _ _ (by omega) aA0 aA8 aBi aB6 aBB (by omega) aAj
      refine And.intro (fun c48 => ?_) ?_
      · skip
        have c48 := (zJ _ _).mp c48
        refine And.intro (fun h9 => absurd h9 (by decide)) (fun _ => ?_)
        refine And.intro (fun h9 => absurd h9 (by decide)) (fun _ => ?_)
        intro v49 ev49
        have f50 := aRJ pY uG (by omega)
        have hv49 := congrArg Int32.toInt ev49
        have f52 := aAQ v49 1 (by omega)
        have f53 := aBx v49 1 (by omega)
        refine And.intro (fun c51 => ?_) (fun c51 => ?_)
        · skip
          have c51 := (zJ _ _).mp c51
          exact aRS rX qM aA2 aAI hpost v35 1 qJ qI sY uG pY nJ tW uW (by omega) (by omega) aA0 aA8 aBi aB6 aBB aAs aAj
        · skip
          have c51 := mt (zJ _ _).mpr c51
          exact hpost _ _ _ _ _ _ _ _ _ (by omega) aA0 aA8 aBi aB6 aBB (by omega) aAj
      refine And.intro (fun c54 => ?_) ?_
      · skip
        have c54 := (zJ _ _).mp c54
        refine And.intro (fun h9 => absurd h9 (by decide)) (fun _ => ?_)
        refine And.intro (fun h9 => absurd h9 (by decide)) (fun _ => ?_)
        intro v55 ev55
        have f56 := aRJ pY uG (by omega)
        have hv55 := congrArg Int32.toInt ev55
        have f58 := aAQ v55 1 (by omega)
        have f59 := aBx v55 1 (by omega)
        refine And.intro (fun c57 => ?_) (fun c57 => ?_)
        · skip
          have c57 := (zJ _ _).mp c57
          exact aRS rX qM aA2 aAI hpost v35 1 qJ qI sY uG pY nJ tW uW (by omega) (by omega) aA0 aA8 aBi aB6 aBB aAs aAj
        · skip
          have c57 := mt (zJ _ _).mpr c57
          exact hpost _ _ _ _ _ _ _ _ _ (by omega) aA0 aA8 aBi aB6 aBB (by omega) aAj
      refine And.intro (fun c60 => ?_) ?_
      · skip
        have c60 := (zJ _ _).mp c60
        refine And.intro (fun h9 => absurd h9 (by decide)) (fun _ => ?_)
        refine And.intro (fun _ => ?_) (fun h9 => absurd h9 (by decide))
        exact aRS rX qM aA2 aAI hpost v35 4 qJ qI sY uG pY nJ tW uW (by omega) (by omega) aA0 aA8 aBi aB6 aBB aAs aAj
      intro c61 c62 c63 c64 c65 c66 c67 c68
      have c61 := mt (zJ _ _).mpr c61
      have c62 := mt (zJ _ _).mpr c62
      have c63 := mt (zJ _ _).mpr c63
      have c64 := mt (zJ _ _).mpr c64
      have c65 := mt (zJ _ _).mpr c65
      have c66 := mt (zJ _ _).mpr c66
      have c67 := mt (zJ _ _).mpr c67
      have c68 := mt (zJ _ _).mpr c68
      refine And.intro (fun _ => ?_) (fun h9 => absurd h9 (by decide))
      exact hpost _ _ _ _ _ _ _ _ _ (by omega) aA0 aA8 aBi aB6 aBB (by omega) aAj
    · skip
      have c37 := (zJ _ _).mp c37
      refine And.intro (fun c69 => ?_) (fun c69 => ?_)
      · skip
        have c69 := mt (zJ _ _).mpr c69
        refine t_X7_settle (by omega) aA8 aBi aAj (fun ru_drafted_70 ru_waits_71 ru_draft_72 h_ru_drafted_70 h_ru_waits_71 => ?_)
        intro v73 ev73
        have f74 : Int32.toInt (ru_waits_71 - 1) = Int32.toInt ru_waits_71 - Int32.toInt (1 : Int32) := aCA _ _ (by omega)
        rw [← ev73] at f74
        intro v75 ev75
        have f76 := ti_max (0 : Int32) v73
        have hv75 := congrArg Int32.toInt ev75
        intro v77 ev77
        have f78 : Int32.toInt (uG - 1) = Int32.toInt uG - Int32.toInt (1 : Int32) := aCA _ _ (by omega)
        rw [← ev77] at f78
        refine And.intro (fun c79 => ?_) (fun c79 => ?_)
        · skip
          have c79 := (aAO _ _).mp c79
          exact hpost _ _ _ _ _ _ _ _ _ (by omega) aA0 h_ru_drafted_70 (by omega) (by omega) aBB (by omega) aAj
        · skip
          have c79 := mt (aAO _ _).mpr c79
          intro v80 ev80
          have f81 : Int32.toInt (qJ + 1) = Int32.toInt qJ + Int32.toInt (1 : Int32) := aAD _ _ (by omega)
          rw [← ev80] at f81
          exact hpost _ _ _ _ _ _ _ _ _ (by omega) (by omega) h_ru_drafted_70 (by omega) (by omega) aBB (by omega) aAj
      · skip
        have c69 := (zJ _ _).mp c69
        exact hpost _ _ _ _ _ _ _ _ _ (by omega) aA0 aA8 aBi aB6 aBB (by omega) aAj
set_option maxHeartbeats 8000000 in
set_option maxRecDepth 200000 in
theorem ts_X7_read_75 {post : Int32 → Int32 → Int32 → Int32 → Int32 → Int32 → Int32 → Int32 → (Nat → Int32) → (Nat → Int32) → (Nat → Int32) → Prop} (qL rX : Int32) (qM : Nat → Int32) (aBH : 1 ≤ Int32.toInt qL ∧ Int32.toInt qL ≤ 80) (aA2 : 0 ≤ Int32.toInt rX ∧ Int32.toInt rX ≤ 40) (aAI : ∀ k : Nat, 0 ≤ Int32.toInt (qM k) ∧ Int32.toInt (qM k) ≤ 65535) (hpost : ∀ (r : Int32) (aBS : Int32) (aNT : Int32) (aDA : Int32) (aFS : Int32) (aI6 : Int32) (aEO : Int32) (aCy : Int32) (aFD : Nat → Int32) (ru_program' : Nat → Int32) (aMl : Nat → Int32), (0 ≤ Int32.toInt r ∧ Int32.toInt r ≤ 1) → (0 ≤ Int32.toInt aBS ∧ Int32.toInt aBS ≤ 80) → (0 ≤ Int32.toInt aNT ∧ Int32.toInt aNT ≤ 40) → (0 ≤ Int32.toInt aDA ∧ Int32.toInt aDA ≤ 40) → (0 ≤ Int32.toInt aFS ∧ Int32.toInt aFS ≤ 40) → (0 ≤ Int32.toInt aI6 ∧ Int32.toInt aI6 ≤ 4) → (0 ≤ Int32.toInt aEO ∧ Int32.toInt aEO ≤ 31) → (0 ≤ Int32.toInt aCy ∧ Int32.toInt aCy ≤ 1) → (∀ k : Nat, 0 ≤ Int32.toInt (aFD k) ∧ Int32.toInt (aFD k) ≤ 256) → post r aBS aNT aDA aFS aI6 aEO aCy aFD ru_program' aMl) (qJ pQ qI sY uG pY nJ : Int32) (tW pN uW : Nat → Int32) (aA0 : 0 ≤ Int32.toInt qJ ∧ Int32.toInt qJ ≤ 80) (zU : 0 ≤ Int32.toInt pQ ∧ Int32.toInt pQ ≤ 40) (aA8 : 0 ≤ Int32.toInt qI ∧ Int32.toInt qI ≤ 40) (aBi : 0 ≤ Int32.toInt sY ∧ Int32.toInt sY ≤ 40) (aB6 : 0 ≤ Int32.toInt uG ∧ Int32.toInt uG ≤ 4) (aBB : 0 ≤ Int32.toInt pY ∧ Int32.toInt pY ≤ 31) (aAs : 0 ≤ Int32.toInt nJ ∧ Int32.toInt nJ ≤ 1) (aAj : ∀ k : Nat, 0 ≤ Int32.toInt (tW k) ∧ Int32.toInt (tW k) ≤ 256) : ws_X7_read_75 post qL rX qM qJ pQ qI sY uG pY nJ tW pN uW := by
  have l0 := aE0
  have l1 := aEc
  refine And.intro (fun c1 => ?_) (fun c1 => ?_)
  · skip
    have c1 := mt (zJ _ _).mpr c1
    exact hpost _ _ _ _ _ _ _ _ _ _ _ (by omega) aA0 zU aA8 aBi aB6 aBB aAs aAj
  · skip
    have c1 := (zJ _ _).mp c1
    refine And.intro (fun c2 => ?_) (fun c2 => ?_)
    · skip
      have c2 := (aAd _ _).mp c2
      exact hpost _ _ _ _ _ _ _ _ _ _ _ (by omega) aA0 zU aA8 aBi aB6 aBB aAs aAj
    · skip
      have c2 := mt (aAd _ _).mpr c2
      refine And.intro (fun c3 => ?_) (fun c3 => ?_)
      · skip
        have c3 := mt (zJ _ _).mpr c3
        refine And.intro (fun h9 => absurd h9 (by decide)) (fun _ => ?_)
        exact hpost _ _ _ _ _ _ _ _ _ _ _ (by omega) aA0 zU aA8 aBi aB6 aBB aAs aAj
      · skip
        have c3 := (zJ _ _).mp c3
        refine And.intro (fun _ => ?_) (fun h9 => absurd h9 (by decide))
        refine t_X7_settle (by omega) aA8 aBi aAj (fun ru_drafted_4 ru_waits_5 ru_draft_6 h_ru_drafted_4 h_ru_waits_5 => ?_)
        exact hpost _ _ _ _ _ _ _ _ _ _ _ (by omega) aA0 h_ru_drafted_4 h_ru_drafted_4 h_ru_waits_5 aB6 aBB aAs aAj
set_option maxHeartbeats 8000000 in
set_option maxRecDepth 200000 in
theorem ts_X7_read_69 {post K27 : Int32 → Int32 → Int32 → Int32 → Int32 → Int32 → Int32 → Int32 → (Nat → Int32) → (Nat → Int32) → (Nat → Int32) → Prop} {n27 : Int} (qL rX : Int32) (qM : Nat → Int32) (aBH : 1 ≤ Int32.toInt qL ∧ Int32.toInt qL ≤ 80) (aA2 : 0 ≤ Int32.toInt rX ∧ Int32.toInt rX ≤ 40) (aAI : ∀ k : Nat, 0 ≤ Int32.toInt (qM k) ∧ Int32.toInt (qM k) ≤ 65535) (hpost : ∀ (r : Int32) (aBS : Int32) (aNT : Int32) (aDA : Int32) (aFS : Int32) (aI6 : Int32) (aEO : Int32) (aCy : Int32) (aFD : Nat → Int32) (ru_program' : Nat → Int32) (aMl : Nat → Int32), (0 ≤ Int32.toInt r ∧ Int32.toInt r ≤ 1) → (0 ≤ Int32.toInt aBS ∧ Int32.toInt aBS ≤ 80) → (0 ≤ Int32.toInt aNT ∧ Int32.toInt aNT ≤ 40) → (0 ≤ Int32.toInt aDA ∧ Int32.toInt aDA ≤ 40) → (0 ≤ Int32.toInt aFS ∧ Int32.toInt aFS ≤ 40) → (0 ≤ Int32.toInt aI6 ∧ Int32.toInt aI6 ≤ 4) → (0 ≤ Int32.toInt aEO ∧ Int32.toInt aEO ≤ 31) → (0 ≤ Int32.toInt aCy ∧ Int32.toInt aCy ≤ 1) → (∀ k : Nat, 0 ≤ Int32.toInt (aFD k) ∧ Int32.toInt (aFD k) ≤ 256) → post r aBS aNT aDA aFS aI6 aEO aCy aFD ru_program' aMl) (hK27 : ∀ (x2 : Int32) (qJ : Int32) (pQ : Int32) (qI : Int32) (sY : Int32) (uG : Int32) (pY : Int32) (nJ : Int32) (tW : Nat → Int32) (pN : Nat → Int32) (uW : Nat → Int32), (0 ≤ Int32.toInt x2 ∧ Int32.toInt x2 ≤ 48) → (0 ≤ Int32.toInt qJ ∧ Int32.toInt qJ ≤ 80) → (0 ≤ Int32.toInt pQ ∧ Int32.toInt pQ ≤ 40) → (0 ≤ Int32.toInt qI ∧ Int32.toInt qI ≤ 40) → (0 ≤ Int32.toInt sY ∧ Int32.toInt sY ≤ 40) → (0 ≤ Int32.toInt uG ∧ Int32.toInt uG ≤ 4) → (0 ≤ Int32.toInt pY ∧ Int32.toInt pY ≤ 31) → (0 ≤ Int32.toInt nJ ∧ Int32.toInt nJ ≤ 1) → (∀ k : Nat, 0 ≤ Int32.toInt (tW k) ∧ Int32.toInt (tW k) ≤ 256) → (48 - Int32.toInt x2 < n27) → K27 x2 qJ pQ qI sY uG pY nJ tW pN uW) (x2 qJ pQ qI sY uG pY nJ : Int32) (tW pN uW : Nat → Int32) (aBN : 0 ≤ Int32.toInt x2 ∧ Int32.toInt x2 ≤ 40) (aA0 : 0 ≤ Int32.toInt qJ ∧ Int32.toInt qJ ≤ 80) (zU : 0 ≤ Int32.toInt pQ ∧ Int32.toInt pQ ≤ 40) (aA8 : 0 ≤ Int32.toInt qI ∧ Int32.toInt qI ≤ 40) (aBi : 0 ≤ Int32.toInt sY ∧ Int32.toInt sY ≤ 40) (aB6 : 0 ≤ Int32.toInt uG ∧ Int32.toInt uG ≤ 4) (aBB : 0 ≤ Int32.toInt pY ∧ Int32.toInt pY ≤ 31) (aAs : 0 ≤ Int32.toInt nJ ∧ Int32.toInt nJ ≤ 1) (aAj : ∀ k : Nat, 0 ≤ Int32.toInt (tW k) ∧ Int32.toInt (tW k) ≤ 256) (hn27 : 48 - Int32.toInt x2 ≤ n27) : ws_X7_read_69 post K27 qL rX qM x2 qJ pQ qI sY uG pY nJ tW pN uW := by
  have l0 := aEc
  intro v7 ev7
  have f8 : Int32.toInt (x2 + 1) = Int32.toInt x2 + Int32.toInt (1 : Int32) := aAD _ _ (by omega)
  rw [← ev7] at f8
  exact hK27 v7 qJ pQ qI sY uG pY nJ tW pN uW (by omega) aA0 zU aA8 aBi aB6 aBB aAs aAj (by omega)
set_option maxHeartbeats 8000000 in
set_option maxRecDepth 200000 in
theorem ts_X7_read_27 {post next : Int32 → Int32 → Int32 → Int32 → Int32 → Int32 → Int32 → Int32 → (Nat → Int32) → (Nat → Int32) → (Nat → Int32) → Prop} {n27 : Int} (qL rX : Int32) (qM : Nat → Int32) (aBH : 1 ≤ Int32.toInt qL ∧ Int32.toInt qL ≤ 80) (aA2 : 0 ≤ Int32.toInt rX ∧ Int32.toInt rX ≤ 40) (aAI : ∀ k : Nat, 0 ≤ Int32.toInt (qM k) ∧ Int32.toInt (qM k) ≤ 65535) (hpost : ∀ (r : Int32) (aBS : Int32) (aNT : Int32) (aDA : Int32) (aFS : Int32) (aI6 : Int32) (aEO : Int32) (aCy : Int32) (aFD : Nat → Int32) (ru_program' : Nat → Int32) (aMl : Nat → Int32), (0 ≤ Int32.toInt r ∧ Int32.toInt r ≤ 1) → (0 ≤ Int32.toInt aBS ∧ Int32.toInt aBS ≤ 80) → (0 ≤ Int32.toInt aNT ∧ Int32.toInt aNT ≤ 40) → (0 ≤ Int32.toInt aDA ∧ Int32.toInt aDA ≤ 40) → (0 ≤ Int32.toInt aFS ∧ Int32.toInt aFS ≤ 40) → (0 ≤ Int32.toInt aI6 ∧ Int32.toInt aI6 ≤ 4) → (0 ≤ Int32.toInt aEO ∧ Int32.toInt aEO ≤ 31) → (0 ≤ Int32.toInt aCy ∧ Int32.toInt aCy ≤ 1) → (∀ k : Nat, 0 ≤ Int32.toInt (aFD k) ∧ Int32.toInt (aFD k) ≤ 256) → post r aBS aNT aDA aFS aI6 aEO aCy aFD ru_program' aMl) (hKn : ∀ (x2 : Int32) (qJ : Int32) (pQ : Int32) (qI : Int32) (sY : Int32) (uG : Int32) (pY : Int32) (nJ : Int32) (tW : Nat → Int32) (pN : Nat → Int32) (uW : Nat → Int32), (0 ≤ Int32.toInt x2 ∧ Int32.toInt x2 ≤ 48) → (0 ≤ Int32.toInt qJ ∧ Int32.toInt qJ ≤ 80) → (0 ≤ Int32.toInt pQ ∧ Int32.toInt pQ ≤ 40) → (0 ≤ Int32.toInt qI ∧ Int32.toInt qI ≤ 40) → (0 ≤ Int32.toInt sY ∧ Int32.toInt sY ≤ 40) → (0 ≤ Int32.toInt uG ∧ Int32.toInt uG ≤ 4) → (0 ≤ Int32.toInt pY ∧ Int32.toInt pY ≤ 31) → (0 ≤ Int32.toInt nJ ∧ Int32.toInt nJ ≤ 1) → (∀ k : Nat, 0 ≤ Int32.toInt (tW k) ∧ Int32.toInt (tW k) ≤ 256) → (48 - Int32.toInt x2 < n27) → next x2 qJ pQ qI sY uG pY nJ tW pN uW) (x2 qJ pQ qI sY uG pY nJ : Int32) (tW pN uW : Nat → Int32) (aBN : 0 ≤ Int32.toInt x2 ∧ Int32.toInt x2 ≤ 48) (aA0 : 0 ≤ Int32.toInt qJ ∧ Int32.toInt qJ ≤ 80) (zU : 0 ≤ Int32.toInt pQ ∧ Int32.toInt pQ ≤ 40) (aA8 : 0 ≤ Int32.toInt qI ∧ Int32.toInt qI ≤ 40) (aBi : 0 ≤ Int32.toInt sY ∧ Int32.toInt sY ≤ 40) (aB6 : 0 ≤ Int32.toInt uG ∧ Int32.toInt uG ≤ 4) (aBB : 0 ≤ Int32.toInt pY ∧ Int32.toInt pY ≤ 31) (aAs : 0 ≤ Int32.toInt nJ ∧ Int32.toInt nJ ≤ 1) (aAj : ∀ k : Nat, 0 ≤ Int32.toInt (tW k) ∧ Int32.toInt (tW k) ≤ 256) (hn27 : 48 - Int32.toInt x2 ≤ n27) : ws_X7_read_27 post next qL rX qM x2 qJ pQ qI sY uG pY nJ tW pN uW := by
  have l0 := aI2
  have l1 := aE0
  have l2 := li_40
  refine And.intro (fun c9 => ?_) (fun c9 => ?_)
  · skip
    have c9 := (aAO _ _).mp c9
    exact ts_X7_read_75 qL rX qM aBH aA2 aAI hpost qJ pQ qI sY uG pY nJ tW pN uW aA0 zU aA8 aBi aB6 aBB aAs aAj
  · skip
    have c9 := mt (aAO _ _).mpr c9
    refine And.intro (fun c10 => ?_) (fun c10 => ?_)
    · skip
      have c10 := (aAO _ _).mp c10
      refine And.intro (fun _ => ?_) (fun h9 => absurd h9 (by decide))
      exact ts_X7_read_75 qL rX qM aBH aA2 aAI hpost qJ pQ qI sY uG pY nJ tW pN uW aA0 zU aA8 aBi aB6 aBB aAs aAj
    · skip
      have c10 := mt (aAO _ _).mpr c10
      refine And.intro (aBZ (by omega)) ?_
      intro v11 ev11
      have f12 := aAI qJ.toNatClampNeg
      have hv11 := congrArg Int32.toInt ev11
      refine And.intro (fun c13 => ?_) (fun c13 => ?_)
      · skip
        have c13 := (zJ _ _).mp c13
        exfalso; omega
      · skip
        have c13 := mt (zJ _ _).mpr c13
        refine And.intro (fun c14 => ?_) (fun c14 => ?_)
        · skip
          have c14 := (zJ _ _).mp c14
          refine t_X7_readBehindThing (by omega) (by omega) aAI aA8 aBi aB6 aBB (by omega) aAj (fun r23 tx_place_15 ru_drafted_16 ru_waits_17 ru_open_18 ru_compared_19 ru_wantsThing_20 ru_waiting_21 ru_draft_22 h_r23 h_tx_place_15 h_ru_drafted_16 h_ru_waits_17 h_ru_open_18 h_ru_compared_19 h_ru_wantsThing_20 h_ru_waiting_21 => ?_)
          refine And.intro (fun c24 => ?_) (fun c24 => ?_)
          · skip
            have c24 := mt (zJ _ _).mpr c24
            exact ts_X7_read_69 qL rX qM aBH aA2 aAI hpost hKn x2 tx_place_15 pQ ru_drafted_16 ru_waits_17 ru_open_18 ru_compared_19 ru_wantsThing_20 ru_waiting_21 pN ru_draft_22 (by omega) (by omega) zU h_ru_drafted_16 h_ru_waits_17 h_ru_open_18 h_ru_compared_19 h_ru_wantsThing_20 h_ru_waiting_21 hn27
          · skip
            have c24 := (zJ _ _).mp c24
            exact hpost _ _ _ _ _ _ _ _ _ _ _ (by omega) (by omega) zU h_ru_drafted_16 h_ru_waits_17 h_ru_open_18 h_ru_compared_19 h_ru_wantsThing_20 h_ru_waiting_21
        · skip
          have c14 := mt (zJ _ _).mpr c14
          refine t_X7_readThing (by omega) (by omega) aAI aA8 aBi aB6 aBB (by omega) aAj (fun r33 tx_place_25 ru_drafted_26 ru_waits_27 ru_open_28 ru_compared_29 ru_wantsThing_30 ru_waiting_31 ru_draft_32 h_r33 h_tx_place_25 h_ru_drafted_26 h_ru_waits_27 h_ru_open_28 h_ru_compared_29 h_ru_wantsThing_30 h_ru_waiting_31 => ?_)
          refine And.intro (fun c34 => ?_) (fun c34 => ?_)
          · skip
            have c34 := (zJ _ _).mp c34
            exact hpost _ _ _ _ _ _ _ _ _ _ _ (by omega) h_tx_place_25 zU h_ru_drafted_26 h_ru_waits_27 h_ru_open_28 h_ru_compared_29 h_ru_wantsThing_30 h_ru_waiting_31
          · skip
            have c34 := mt (zJ _ _).mpr c34
            exact ts_X7_read_69 qL rX qM aBH aA2 aAI hpost hKn x2 tx_place_25 pQ ru_drafted_26 ru_waits_27 ru_open_28 ru_compared_29 ru_wantsThing_30 ru_waiting_31 pN ru_draft_32 (by omega) h_tx_place_25 zU h_ru_drafted_26 h_ru_waits_27 h_ru_open_28 h_ru_compared_29 h_ru_wantsThing_30 h_ru_waiting_31 hn27
set_option maxHeartbeats 8000000 in
set_option maxRecDepth 200000 in
theorem tb_X7_read_27 {post : Int32 → Int32 → Int32 → Int32 → Int32 → Int32 → Int32 → Int32 → (Nat → Int32) → (Nat → Int32) → (Nat → Int32) → Prop} (qL rX : Int32) (qM : Nat → Int32) (aBH : 1 ≤ Int32.toInt qL ∧ Int32.toInt qL ≤ 80) (aA2 : 0 ≤ Int32.toInt rX ∧ Int32.toInt rX ≤ 40) (aAI : ∀ k : Nat, 0 ≤ Int32.toInt (qM k) ∧ Int32.toInt (qM k) ≤ 65535) (hpost : ∀ (r : Int32) (aBS : Int32) (aNT : Int32) (aDA : Int32) (aFS : Int32) (aI6 : Int32) (aEO : Int32) (aCy : Int32) (aFD : Nat → Int32) (ru_program' : Nat → Int32) (aMl : Nat → Int32), (0 ≤ Int32.toInt r ∧ Int32.toInt r ≤ 1) → (0 ≤ Int32.toInt aBS ∧ Int32.toInt aBS ≤ 80) → (0 ≤ Int32.toInt aNT ∧ Int32.toInt aNT ≤ 40) → (0 ≤ Int32.toInt aDA ∧ Int32.toInt aDA ≤ 40) → (0 ≤ Int32.toInt aFS ∧ Int32.toInt aFS ≤ 40) → (0 ≤ Int32.toInt aI6 ∧ Int32.toInt aI6 ≤ 4) → (0 ≤ Int32.toInt aEO ∧ Int32.toInt aEO ≤ 31) → (0 ≤ Int32.toInt aCy ∧ Int32.toInt aCy ≤ 1) → (∀ k : Nat, 0 ≤ Int32.toInt (aFD k) ∧ Int32.toInt (aFD k) ≤ 256) → post r aBS aNT aDA aFS aI6 aEO aCy aFD ru_program' aMl) : ∀ (n : Nat) (x2 qJ pQ qI sY uG pY nJ : Int32) (tW pN uW : Nat → Int32), (0 ≤ Int32.toInt x2 ∧ Int32.toInt x2 ≤ 48) → (0 ≤ Int32.toInt qJ ∧ Int32.toInt qJ ≤ 80) → (0 ≤ Int32.toInt pQ ∧ Int32.toInt pQ ≤ 40) → (0 ≤ Int32.toInt qI ∧ Int32.toInt qI ≤ 40) → (0 ≤ Int32.toInt sY ∧ Int32.toInt sY ≤ 40) → (0 ≤ Int32.toInt uG ∧ Int32.toInt uG ≤ 4) → (0 ≤ Int32.toInt pY ∧ Int32.toInt pY ≤ 31) → (0 ≤ Int32.toInt nJ ∧ Int32.toInt nJ ≤ 1) → (∀ k : Nat, 0 ≤ Int32.toInt (tW k) ∧ Int32.toInt (tW k) ≤ 256) → (48 - Int32.toInt x2 < (n : Int)) → wb_X7_read_27 post qL rX qM n x2 qJ pQ qI sY uG pY nJ tW pN uW := by
  intro n
  induction n with
  | zero =>
    intro x2 qJ pQ qI sY uG pY nJ tW pN uW aBN aA0 zU aA8 aBi aB6 aBB aAs aAj hm
    exfalso; omega
  | succ n ih =>
    intro x2 qJ pQ qI sY uG pY nJ tW pN uW aBN aA0 zU aA8 aBi aB6 aBB aAs aAj hm
    exact ts_X7_read_27 qL rX qM aBH aA2 aAI hpost ih x2 qJ pQ qI sY uG pY nJ tW pN uW aBN aA0 zU aA8 aBi aB6 aBB aAs aAj (by omega)
set_option maxHeartbeats 8000000 in
set_option maxRecDepth 200000 in
theorem t_X7_read {post : Int32 → Int32 → Int32 → Int32 → Int32 → Int32 → Int32 → Int32 → (Nat → Int32) → (Nat → Int32) → (Nat → Int32) → Prop} {qL qJ rX : Int32} {qM : Nat → Int32} {pQ qI sY uG pY nJ : Int32} {tW pN uW : Nat → Int32} (aBH : 1 ≤ Int32.toInt qL ∧ Int32.toInt qL ≤ 80) (aA0 : 0 ≤ Int32.toInt qJ ∧ Int32.toInt qJ ≤ 0) (aA2 : 0 ≤ Int32.toInt rX ∧ Int32.toInt rX ≤ 40) (aAI : ∀ k : Nat, 0 ≤ Int32.toInt (qM k) ∧ Int32.toInt (qM k) ≤ 65535) (zU : 0 ≤ Int32.toInt pQ ∧ Int32.toInt pQ ≤ 40) (aA8 : 0 ≤ Int32.toInt qI ∧ Int32.toInt qI ≤ 40) (aBi : 0 ≤ Int32.toInt sY ∧ Int32.toInt sY ≤ 40) (aB6 : 0 ≤ Int32.toInt uG ∧ Int32.toInt uG ≤ 4) (aBB : 0 ≤ Int32.toInt pY ∧ Int32.toInt pY ≤ 31) (aAs : 0 ≤ Int32.toInt nJ ∧ Int32.toInt nJ ≤ 1) (aAj : ∀ k : Nat, 0 ≤ Int32.toInt (tW k) ∧ Int32.toInt (tW k) ≤ 256) (hpost : ∀ (r : Int32) (aBS : Int32) (aNT : Int32) (aDA : Int32) (aFS : Int32) (aI6 : Int32) (aEO : Int32) (aCy : Int32) (aFD : Nat → Int32) (ru_program' : Nat → Int32) (aMl : Nat → Int32), (0 ≤ Int32.toInt r ∧ Int32.toInt r ≤ 1) → (0 ≤ Int32.toInt aBS ∧ Int32.toInt aBS ≤ 80) → (0 ≤ Int32.toInt aNT ∧ Int32.toInt aNT ≤ 40) → (0 ≤ Int32.toInt aDA ∧ Int32.toInt aDA ≤ 40) → (0 ≤ Int32.toInt aFS ∧ Int32.toInt aFS ≤ 40) → (0 ≤ Int32.toInt aI6 ∧ Int32.toInt aI6 ≤ 4) → (0 ≤ Int32.toInt aEO ∧ Int32.toInt aEO ≤ 31) → (0 ≤ Int32.toInt aCy ∧ Int32.toInt aCy ≤ 1) → (∀ k : Nat, 0 ≤ Int32.toInt (aFD k) ∧ Int32.toInt (aFD k) ≤ 256) → post r aBS aNT aDA aFS aI6 aEO aCy aFD ru_program' aMl) : wp_X7_read post qL qJ rX qM pQ qI sY uG pY nJ tW pN uW := by
  have l0 := aE0
  have l1 := aEc
  exact ⟨50, tb_X7_read_27 qL rX qM aBH aA2 aAI hpost _ 0 qJ pQ 0 0 0 0 1 tW pN uW (by omega) (by omega) zU (by omega) (by omega) (by omega) (by omega) (by omega) aAj (by omega)⟩
