set_option maxHeartbeats 8000000 in
set_option maxRecDepth 200000 in
theorem ts_X9_rule_59 {post : Int32 → Int32 → Int32 → Int32 → Int32 → Int32 → Int32 → Int32 → Int32 → Int32 → (Nat → Int32) → (Nat → Int32) → (Nat → Int32) → Prop} (qM : Nat → Int32) (aAI : ∀ k : Nat, 0 ≤ Int32.toInt (qM k) ∧ Int32.toInt (qM k) ≤ 65535) (hpost : ∀ (r : Int32) (aCZ : Int32) (aBS : Int32) (aGd : Int32) (aNT : Int32) (aDA : Int32) (aFS : Int32) (aI6 : Int32) (aEO : Int32) (aCy : Int32) (aFD : Nat → Int32) (ru_program' : Nat → Int32) (aMl : Nat → Int32), (-100 ≤ Int32.toInt r ∧ Int32.toInt r ≤ 0) → (0 ≤ Int32.toInt aCZ ∧ Int32.toInt aCZ ≤ 0) → (0 ≤ Int32.toInt aBS ∧ Int32.toInt aBS ≤ 80) → (0 ≤ Int32.toInt aGd ∧ Int32.toInt aGd ≤ 40) → (0 ≤ Int32.toInt aNT ∧ Int32.toInt aNT ≤ 40) → (0 ≤ Int32.toInt aDA ∧ Int32.toInt aDA ≤ 40) → (0 ≤ Int32.toInt aFS ∧ Int32.toInt aFS ≤ 40) → (0 ≤ Int32.toInt aI6 ∧ Int32.toInt aI6 ≤ 4) → (0 ≤ Int32.toInt aEO ∧ Int32.toInt aEO ≤ 31) → (0 ≤ Int32.toInt aCy ∧ Int32.toInt aCy ≤ 1) → (∀ k : Nat, 0 ≤ Int32.toInt (aFD k) ∧ Int32.toInt (aFD k) ≤ 256) → post r aCZ aBS aGd aNT aDA aFS aI6 aEO aCy aFD ru_program' aMl) (x1 qL qJ rX pQ qI sY uG pY nJ : Int32) (tW pN uW : Nat → Int32) (aBK : -100 ≤ Int32.toInt x1 ∧ Int32.toInt x1 ≤ 0) (aBH : 0 ≤ Int32.toInt qL ∧ Int32.toInt qL ≤ 80) (aA0 : 0 ≤ Int32.toInt qJ ∧ Int32.toInt qJ ≤ 80) (aA2 : 0 ≤ Int32.toInt rX ∧ Int32.toInt rX ≤ 40) (zU : 0 ≤ Int32.toInt pQ ∧ Int32.toInt pQ ≤ 40) (aA8 : 0 ≤ Int32.toInt qI ∧ Int32.toInt qI ≤ 40) (aBi : 0 ≤ Int32.toInt sY ∧ Int32.toInt sY ≤ 40) (aB6 : 0 ≤ Int32.toInt uG ∧ Int32.toInt uG ≤ 4) (aBB : 0 ≤ Int32.toInt pY ∧ Int32.toInt pY ≤ 31) (aAs : 0 ≤ Int32.toInt nJ ∧ Int32.toInt nJ ≤ 1) (aAj : ∀ k : Nat, 0 ≤ Int32.toInt (tW k) ∧ Int32.toInt (tW k) ≤ 256) : ws_X9_rule_59 post qM x1 qL qJ rX pQ qI sY uG pY nJ tW pN uW := by
  have l0 := aE0
  exact hpost _ _ _ _ _ _ _ _ _ _ _ _ _ aBK (by omega) aA0 aA2 zU aA8 aBi aB6 aBB aAs aAj
set_option maxHeartbeats 8000000 in
set_option maxRecDepth 200000 in
theorem t_X9_rule {post : Int32 → Int32 → Int32 → Int32 → Int32 → Int32 → Int32 → Int32 → Int32 → Int32 → (Nat → Int32) → (Nat → Int32) → (Nat → Int32) → Prop} {qL qJ rX : Int32} {qM : Nat → Int32} {pQ qI sY uG pY nJ : Int32} {tW pN uW : Nat → Int32} (aBH : 0 ≤ Int32.toInt qL ∧ Int32.toInt qL ≤ 80) (aA0 : 0 ≤ Int32.toInt qJ ∧ Int32.toInt qJ ≤ 80) (aA2 : 0 ≤ Int32.toInt rX ∧ Int32.toInt rX ≤ 80) (aAI : ∀ k : Nat, 0 ≤ Int32.toInt (qM k) ∧ Int32.toInt (qM k) ≤ 65535) (zU : 0 ≤ Int32.toInt pQ ∧ Int32.toInt pQ ≤ 40) (aA8 : 0 ≤ Int32.toInt qI ∧ Int32.toInt qI ≤ 40) (aBi : 0 ≤ Int32.toInt sY ∧ Int32.toInt sY ≤ 40) (aB6 : 0 ≤ Int32.toInt uG ∧ Int32.toInt uG ≤ 4) (aBB : 0 ≤ Int32.toInt pY ∧ Int32.toInt pY ≤ 31) (aAs : 0 ≤ Int32.toInt nJ ∧ Int32.toInt nJ ≤ 1) (aAj : ∀ k : Nat, 0 ≤ Int32.toInt (tW k) ∧ Int32.toInt (tW k) ≤ 256) (hpost : ∀ (r : Int32) (aCZ : Int32) (aBS : Int32) (aGd : Int32) (aNT : Int32) (aDA : Int32) (aFS : Int32) (aI6 : Int32) (aEO : Int32) (aCy : Int32) (aFD : Nat → Int32) (ru_program' : Nat → Int32) (aMl : Nat → Int32), (-100 ≤ Int32.toInt r ∧ Int32.toInt r ≤ 0) → (0 ≤ Int32.toInt aCZ ∧ Int32.toInt aCZ ≤ 0) → (0 ≤ Int32.toInt aBS ∧ Int32.toInt aBS ≤ 80) → (0 ≤ Int32.toInt aGd ∧ Int32.toInt aGd ≤ 40) → (0 ≤ Int32.toInt aNT ∧ Int32.toInt aNT ≤ 40) → (0 ≤ Int32.toInt aDA ∧ Int32.toInt aDA ≤ 40) → (0 ≤ Int32.toInt aFS ∧ Int32.toInt aFS ≤ 40) → (0 ≤ Int32.toInt aI6 ∧ Int32.toInt aI6 ≤ 4) → (0 ≤ Int32.toInt aEO ∧ Int32.toInt aEO ≤ 31) → (0 ≤ Int32.toInt aCy ∧ Int32.toInt aCy ≤ 1) → (∀ k : Nat, 0 ≤ Int32.toInt (aFD k) ∧ Int32.toInt (aFD k) ≤ 256) → post r aCZ aBS aGd aNT aDA aFS aI6 aEO aCy aFD ru_program' aMl) : wp_X9_rule post qL qJ rX qM pQ qI sY uG pY nJ tW pN uW := by
  have l0 := aI2
  have l1 := aE0
  have l2 := li_40
  intro v1 ev1
  have f2 := ti_min qL (40 : Int32)
  have hv1 := congrArg Int32.toInt ev1
  refine And.intro (fun c3 => ?_) (fun c3 => ?_)
  · skip
    have c3 := mt (zJ _ _).mpr c3
    refine t_X7_read (by omega) (by omega) (by omega) aAI zU aA8 aBi aB6 aBB aAs aAj (fun r14 aDB ru_length_5 aW9 ru_waits_7 ru_open_8 ru_compared_9 aZc aVL ru_program_12 aSa h_r14 h_tx_place_4 h_ru_length_5 h_ru_drafted_6 h_ru_waits_7 h_ru_open_8 h_ru_compared_9 h_ru_wantsThing_10 h_ru_waiting_11 => ?_)
    refine And.intro (fun c15 => ?_) (fun c15 => ?_)
    · skip
      have c15 := mt (zJ _ _).mpr c15
      exact ts_X9_rule_59 qM aAI hpost 0 qL aDB v1 ru_length_5 aW9 ru_waits_7 ru_open_8 ru_compared_9 aZc aVL ru_program_12 aSa (by omega) aBH h_tx_place_4 (by omega) h_ru_length_5 h_ru_drafted_6 h_ru_waits_7 h_ru_open_8 h_ru_compared_9 h_ru_wantsThing_10 h_ru_waiting_11
    · skip
      have c15 := (zJ _ _).mp c15
      have f16 : Int32.toInt ((-1) - aDB) = Int32.toInt ((-1) : Int32) - Int32.toInt aDB := aCA _ _ (by omega)
      obtain ⟨w17, ew17⟩ : ∃ w9 : Int32, w9 = (-1) - aDB := ⟨_, rfl⟩
      rw [← ew17] at f16
      have key9 := ts_X9_rule_59 qM aAI hpost w17 qL aDB v1 ru_length_5 aW9 ru_waits_7 ru_open_8 ru_compared_9 aZc aVL ru_program_12 aSa (by omega) aBH h_tx_place_4 (by omega) h_ru_length_5 h_ru_drafted_6 h_ru_waits_7 h_ru_open_8 h_ru_compared_9 h_ru_wantsThing_10 h_ru_waiting_11
      subst ew17
      exact key9
  · skip
    have c3 := (zJ _ _).mp c3
    exact ts_X9_rule_59 qM aAI hpost 0 qL 0 v1 0 qI sY uG pY nJ tW pN uW (by omega) aBH (by omega) (by omega) (by omega) aA8 aBi aB6 aBB aAs aAj
set_option maxHeartbeats 8000000 in
set_option maxRecDepth 200000 in
theorem ts_X3_lowerThan_89 {post : Int32 → Prop} {K15 : Int32 → Int32 → Int32 → Int32 → Prop} {n15 : Int} (dN : Int32) (uU gF : Nat → Int32) (xL : 1 ≤ Int32.toInt dN ∧ Int32.toInt dN ≤ 16) (hpost : ∀ (r : Int32) , (0 ≤ Int32.toInt r ∧ Int32.toInt r ≤ 65535) → post r) (hK15 : ∀ (x1 : Int32) (x2 : Int32) (x3 : Int32) (x4 : Int32), (0 ≤ Int32.toInt x1 ∧ Int32.toInt x1 ≤ 15) → (0 ≤ Int32.toInt x2 ∧ Int32.toInt x2 ≤ 65535) → (0 ≤ Int32.toInt x3 ∧ Int32.toInt x3 ≤ 65535) → (0 ≤ Int32.toInt x4 ∧ Int32.toInt x4 ≤ 16) → (16 - Int32.toInt x4 < n15) → K15 x1 x2 x3 x4) (x1 x2 x3 x4 : Int32) (aBK : 0 ≤ Int32.toInt x1 ∧ Int32.toInt x1 ≤ 15) (aBN : 0 ≤ Int32.toInt x2 ∧ Int32.toInt x2 ≤ 65535) (aCH : 0 ≤ Int32.toInt x3 ∧ Int32.toInt x3 ≤ 65535) (aDO : 0 ≤ Int32.toInt x4 ∧ Int32.toInt x4 ≤ 15) (hn15 : 16 - Int32.toInt x4 ≤ n15) : aPW post K15 dN uU gF x1 x2 x3 x4 := by
  have l0 := aEc
  intro v1 ev1
  have f2 : Int32.toInt (x4 + 1) = Int32.toInt x4 + Int32.toInt (1 : Int32) := aAD _ _ (by omega)
  rw [← ev1] at f2
  exact hK15 x1 x2 x3 v1 aBK aBN aCH (by omega) (by omega)
set_option maxHeartbeats 8000000 in
set_option maxRecDepth 200000 in
theorem ts_X3_lowerThan_66 {post : Int32 → Prop} {K15 : Int32 → Int32 → Int32 → Int32 → Prop} {n15 : Int} (dN : Int32) (uU gF : Nat → Int32) (xL : 1 ≤ Int32.toInt dN ∧ Int32.toInt dN ≤ 16) (hpost : ∀ (r : Int32) , (0 ≤ Int32.toInt r ∧ Int32.toInt r ≤ 65535) → post r) (hK15 : ∀ (x1 : Int32) (x2 : Int32) (x3 : Int32) (x4 : Int32), (0 ≤ Int32.toInt x1 ∧ Int32.toInt x1 ≤ 15) → (0 ≤ Int32.toInt x2 ∧ Int32.toInt x2 ≤ 65535) → (0 ≤ Int32.toInt x3 ∧ Int32.toInt x3 ≤ 65535) → (0 ≤ Int32.toInt x4 ∧ Int32.toInt x4 ≤ 16) → (16 - Int32.toInt x4 < n15) → K15 x1 x2 x3 x4) (x1 x2 x3 x4 k0 : Int32) (aBK : 0 ≤ Int32.toInt x1 ∧ Int32.toInt x1 ≤ 15) (aBN : 0 ≤ Int32.toInt x2 ∧ Int32.toInt x2 ≤ 65535) (aCH : 0 ≤ Int32.toInt x3 ∧ Int32.toInt x3 ≤ 65535) (aDO : 0 ≤ Int32.toInt x4 ∧ Int32.toInt x4 ≤ 15) (h_k0 : 0 ≤ Int32.toInt k0 ∧ Int32.toInt k0 ≤ 1) (hn15 : 16 - Int32.toInt x4 ≤ n15) : ws_X3_lowerThan_66 post K15 dN uU gF x1 x2 x3 x4 k0 := by
  have l0 := aE0
  have l1 := aEc
  refine And.intro (fun c3 => ?_) (fun c3 => ?_)
  · skip
    have c3 := (zJ _ _).mp c3
    exact ts_X3_lowerThan_89 dN uU gF xL hpost hK15 x1 x2 x3 x4 aBK aBN aCH aDO hn15
  · skip
    have c3 := mt (zJ _ _).mpr c3
    intro v4 ev4
    have f5 := aRJ x2 x4 (by omega)
    have hv4 := congrArg Int32.toInt ev4
    have f7 := aAQ v4 1 (by omega)
    have f8 := aBx v4 1 (by omega)
    refine And.intro (fun c6 => ?_) (fun c6 => ?_)
    · skip
      have c6 := (zJ _ _).mp c6
      exact ts_X3_lowerThan_89 dN uU gF xL hpost hK15 x1 x2 x3 x4 aBK aBN aCH aDO hn15
    · skip
      have c6 := mt (zJ _ _).mpr c6
      intro v9 ev9
      have f11 := aDv 15 32768 x4 (by decide) (by omega)
      have f10 := ti_or 16 65536 x3 (1 <<< (x4 &&& 31)) (by decide) (by omega) (by omega)
      have hv9 := congrArg Int32.toInt ev9
      exact ts_X3_lowerThan_89 dN uU gF xL hpost hK15 x1 x2 v9 x4 aBK aBN (by omega) aDO hn15
set_option maxHeartbeats 8000000 in
set_option maxRecDepth 200000 in
theorem ts_X3_lowerThan_65 {post : Int32 → Prop} {K15 : Int32 → Int32 → Int32 → Int32 → Prop} {n15 : Int} (dN : Int32) (uU gF : Nat → Int32) (xL : 1 ≤ Int32.toInt dN ∧ Int32.toInt dN ≤ 16) (hpost : ∀ (r : Int32) , (0 ≤ Int32.toInt r ∧ Int32.toInt r ≤ 65535) → post r) (hK15 : ∀ (x1 : Int32) (x2 : Int32) (x3 : Int32) (x4 : Int32), (0 ≤ Int32.toInt x1 ∧ Int32.toInt x1 ≤ 15) → (0 ≤ Int32.toInt x2 ∧ Int32.toInt x2 ≤ 65535) → (0 ≤ Int32.toInt x3 ∧ Int32.toInt x3 ≤ 65535) → (0 ≤ Int32.toInt x4 ∧ Int32.toInt x4 ≤ 16) → (16 - Int32.toInt x4 < n15) → K15 x1 x2 x3 x4) (x1 x2 x3 x4 : Int32) (aBK : 0 ≤ Int32.toInt x1 ∧ Int32.toInt x1 ≤ 15) (aBN : 0 ≤ Int32.toInt x2 ∧ Int32.toInt x2 ≤ 65535) (aCH : 0 ≤ Int32.toInt x3 ∧ Int32.toInt x3 ≤ 65535) (aDO : 0 ≤ Int32.toInt x4 ∧ Int32.toInt x4 ≤ 15) (hn15 : 16 - Int32.toInt x4 ≤ n15) : ws_X3_lowerThan_65 post K15 dN uU gF x1 x2 x3 x4 := by
  have l0 := aE0
  exact ts_X3_lowerThan_66 dN uU gF xL hpost hK15 x1 x2 x3 x4 0 aBK aBN aCH aDO (by omega) hn15
set_option maxHeartbeats 8000000 in
set_option maxRecDepth 200000 in
theorem ts_X3_lowerThan_15 {post : Int32 → Prop} {next : Int32 → Int32 → Int32 → Int32 → Prop} {n15 : Int} (dN : Int32) (uU gF : Nat → Int32) (xL : 1 ≤ Int32.toInt dN ∧ Int32.toInt dN ≤ 16) (hpost : ∀ (r : Int32) , (0 ≤ Int32.toInt r ∧ Int32.toInt r ≤ 65535) → post r) (hKn : ∀ (x1 : Int32) (x2 : Int32) (x3 : Int32) (x4 : Int32), (0 ≤ Int32.toInt x1 ∧ Int32.toInt x1 ≤ 15) → (0 ≤ Int32.toInt x2 ∧ Int32.toInt x2 ≤ 65535) → (0 ≤ Int32.toInt x3 ∧ Int32.toInt x3 ≤ 65535) → (0 ≤ Int32.toInt x4 ∧ Int32.toInt x4 ≤ 16) → (16 - Int32.toInt x4 < n15) → next x1 x2 x3 x4) (x1 x2 x3 x4 : Int32) (aBK : 0 ≤ Int32.toInt x1 ∧ Int32.toInt x1 ≤ 15) (aBN : 0 ≤ Int32.toInt x2 ∧ Int32.toInt x2 ≤ 65535) (aCH : 0 ≤ Int32.toInt x3 ∧ Int32.toInt x3 ≤ 65535) (aDO : 0 ≤ Int32.toInt x4 ∧ Int32.toInt x4 ≤ 16) (hn15 : 16 - Int32.toInt x4 ≤ n15) : ws_X3_lowerThan_15 post next dN uU gF x1 x2 x3 x4 := by
  have l0 := aEc
  refine And.intro (fun c12 => ?_) (fun c12 => ?_)
  · skip
    have c12 := (aAO _ _).mp c12
    exact hpost _ aCH
  · skip
    have c12 := mt (aAO _ _).mpr c12
    refine And.intro (aBZ (by omega)) ?_
    intro v13 ev13
    have hv13 := congrArg Int32.toInt ev13
    refine And.intro (aBZ (by omega)) ?_
    intro v15 ev15
    have hv15 := congrArg Int32.toInt ev15
    intro v17 ev17
    have hv17 := congrArg Int32.toInt ev17
    have f20 := aAT v17
    refine And.intro (fun c19 => ?_) (fun c19 => ?_)
    · skip
      have c19 := (aAd _ _).mp c19
      exact ts_X3_lowerThan_65 dN uU gF xL hpost hKn x1 x2 x3 x4 aBK aBN aCH (by omega) hn15
    · skip
      have c19 := mt (aAd _ _).mpr c19
      refine And.intro (aBZ (by omega)) ?_
      intro v21 ev21
      have hv21 := congrArg Int32.toInt ev21
      refine And.intro (aBZ (by omega)) ?_
      have f24 := aAT v21
      refine And.intro (fun c23 => ?_) (fun c23 => ?_)
      · skip
        have c23 := (aAO _ _).mp c23
        exact ts_X3_lowerThan_65 dN uU gF xL hpost hKn x1 x2 x3 x4 aBK aBN aCH (by omega) hn15
      · skip
        have c23 := mt (aAO _ _).mpr c23
        exact ts_X3_lowerThan_66 dN uU gF xL hpost hKn x1 x2 x3 x4 1 aBK aBN aCH (by omega) (by omega) hn15
set_option maxHeartbeats 8000000 in
set_option maxRecDepth 200000 in
theorem tb_X3_lowerThan_15 {post : Int32 → Prop} (dN : Int32) (uU gF : Nat → Int32) (xL : 1 ≤ Int32.toInt dN ∧ Int32.toInt dN ≤ 16) (hpost : ∀ (r : Int32) , (0 ≤ Int32.toInt r ∧ Int32.toInt r ≤ 65535) → post r) : ∀ (n : Nat) (x1 x2 x3 x4 : Int32), (0 ≤ Int32.toInt x1 ∧ Int32.toInt x1 ≤ 15) → (0 ≤ Int32.toInt x2 ∧ Int32.toInt x2 ≤ 65535) → (0 ≤ Int32.toInt x3 ∧ Int32.toInt x3 ≤ 65535) → (0 ≤ Int32.toInt x4 ∧ Int32.toInt x4 ≤ 16) → (16 - Int32.toInt x4 < (n : Int)) → wb_X3_lowerThan_15 post dN uU gF n x1 x2 x3 x4 := by
  intro n
  induction n with
  | zero =>
    intro x1 x2 x3 x4 aBK aBN aCH aDO hm
    exfalso; omega
  | succ n ih =>
    intro x1 x2 x3 x4 aBK aBN aCH aDO hm
    exact ts_X3_lowerThan_15 dN uU gF xL hpost ih x1 x2 x3 x4 aBK aBN aCH aDO (by omega)
set_option maxHeartbeats 8000000 in
set_option maxRecDepth 200000 in
theorem t_X3_lowerThan {post : Int32 → Prop} {p0 p1 dN : Int32} {uU gF : Nat → Int32} (h_p0 : 0 ≤ Int32.toInt p0 ∧ Int32.toInt p0 ≤ 15) (h_p1 : 0 ≤ Int32.toInt p1 ∧ Int32.toInt p1 ≤ 65535) (xL : 1 ≤ Int32.toInt dN ∧ Int32.toInt dN ≤ 16) (hpost : ∀ (r : Int32) , (0 ≤ Int32.toInt r ∧ Int32.toInt r ≤ 65535) → post r) : bA6 post p0 p1 dN uU gF := by
  have l0 := aE0
  have l1 := aEc
  intro v26 ev26
  have f27 := aRJ p1 p0 (by omega)
  have hv26 := congrArg Int32.toInt ev26
  have f29 := aAQ v26 1 (by omega)
  have f30 := aBx v26 1 (by omega)
  refine And.intro (fun c28 => ?_) (fun c28 => ?_)
  · skip
    have c28 := mt (zJ _ _).mpr c28
    exact ⟨18, tb_X3_lowerThan_15 dN uU gF xL hpost _ p0 p1 0 0 h_p0 h_p1 (by omega) (by omega) (by omega)⟩
  · skip
    have c28 := (zJ _ _).mp c28
    exact hpost _ (by omega)
set_option maxHeartbeats 8000000 in
set_option maxRecDepth 200000 in
theorem t_X9_fruit {post : Int32 → Prop} {postx : Prop} {p0 p1 dN : Int32} {uU gF pL qF : Nat → Int32} {jE eW eY dU : Int32} (xL : 0 ≤ Int32.toInt dN ∧ Int32.toInt dN ≤ 16) (hpost : ∀ (r : Int32) , post r) (hpx : postx) : wp_X9_fruit post postx p0 p1 dN uU gF pL qF jE eW eY dU := by
  have l0 := aE0
  have l1 := aEc
  have l2 := li_2
  have l3 := li_3
  have l4 := li_4
  have l5 := li_5
  have l6 := li_6
  have f2 := aAT p0
  refine And.intro (fun c1 => ?_) (fun c1 => ?_)
  · skip
    have c1 := (aAd _ _).mp c1
    refine And.intro (fun h9 => absurd h9 (by decide)) (fun _ => ?_)
    exact hpx
  · skip
    have c1 := mt (aAd _ _).mpr c1
    refine And.intro (fun c3 => ?_) (fun c3 => ?_)
    · skip
      have c3 := (aAO _ _).mp c3
      refine And.intro (fun h9 => absurd h9 (by decide)) (fun _ => ?_)
      exact hpx
    · skip
      have c3 := mt (aAO _ _).mpr c3
      refine And.intro (fun _ => ?_) (fun h9 => absurd h9 (by decide))
      have f4 := aAT p1
      refine And.intro (fun c5 => ?_) ?_
      · skip
        have c5 := (zJ _ _).mp c5
        refine And.intro (aBZ (by omega)) ?_
        exact hpost _ 
      refine And.intro (fun c6 => ?_) ?_
      · skip
        have c6 := (zJ _ _).mp c6
        refine And.intro (aBZ (by omega)) ?_
        exact hpost _ 
      refine And.intro (fun c7 => ?_) ?_
      · skip
        have c7 := (zJ _ _).mp c7
        refine And.intro (aBZ (by omega)) ?_
        exact hpost _ 
      refine And.intro (fun c8 => ?_) ?_
      · skip
        have c8 := (zJ _ _).mp c8
        refine And.intro (aBZ (by omega)) ?_
        exact hpost _ 
      refine And.intro (fun c9 => ?_) ?_
      · skip
        have c9 := (zJ _ _).mp c9
        intro v10 ev10
        intro v11 ev11
        have f12 := aAQ v10 1 (by omega)
        have hv11 := congrArg Int32.toInt ev11
        intro v13 ev13
        intro v14 ev14
        have f17 := aAQ v13 1 (by omega)
        have f16 : Int32.toInt (2 * (v13 &&& 1)) = Int32.toInt (v13 &&& 1) * 2 := ta_cmul _ _ (by decide) (by omega)
        have f15 : Int32.toInt (v11 + (2 * (v13 &&& 1))) = Int32.toInt v11 + Int32.toInt (2 * (v13 &&& 1)) := aAD _ _ (by omega)
        rw [← ev14] at f15
        intro v18 ev18
        exact hpost _ 
      refine And.intro (fun c19 => ?_) ?_
      · skip
        have c19 := (zJ _ _).mp c19
        intro v20 ev20
        exact hpost _ 
      refine And.intro (fun c21 => ?_) ?_
      · skip
        have c21 := (zJ _ _).mp c21
        intro v22 ev22
        have f23 := aDv 16 65536 dN (by decide) (by omega)
        have hv22 := congrArg Int32.toInt ev22
        intro v24 ev24
        intro v25 ev25
        have f28 : Int32.toInt (v22 - 1) = Int32.toInt v22 - Int32.toInt (1 : Int32) := aCA _ _ (by omega)
        have f29 := aBx (v22 - 1) (v25 ^^^ (-1)) (by omega)
        refine t_X3_lowerThan (by omega) (by omega) (by omega) (fun r26 h_r26 => ?_)
        exact hpost _ 
      intro c30 c31 c32 c33 c34 c35 c36
      have c30 := mt (zJ _ _).mpr c30
      have c31 := mt (zJ _ _).mpr c31
      have c32 := mt (zJ _ _).mpr c32
      have c33 := mt (zJ _ _).mpr c33
      have c34 := mt (zJ _ _).mpr c34
      have c35 := mt (zJ _ _).mpr c35
      have c36 := mt (zJ _ _).mpr c36
      exact hpx
set_option maxHeartbeats 8000000 in
set_option maxRecDepth 200000 in
theorem t_X9_standing {post : Int32 → Prop} {postx : Prop} {p0 p1 bD : Int32} {mX oE : Nat → Int32} (wX : 0 ≤ Int32.toInt bD ∧ Int32.toInt bD ≤ 8) (hpost : ∀ (r : Int32) , post r) (hpx : postx) : wp_X9_standing post postx p0 p1 bD mX oE := by
  have l0 := aE0
  have l1 := aEc
  have l2 := li_2
  have f2 := aAT p0
  refine And.intro (fun c1 => ?_) (fun c1 => ?_)
  · skip
    have c1 := (aAd _ _).mp c1
    refine And.intro (fun h9 => absurd h9 (by decide)) (fun _ => ?_)
    exact hpx
  · skip
    have c1 := mt (aAd _ _).mpr c1
    refine And.intro (fun c3 => ?_) (fun c3 => ?_)
    · skip
      have c3 := (aAO _ _).mp c3
      refine And.intro (fun h9 => absurd h9 (by decide)) (fun _ => ?_)
      exact hpx
    · skip
      have c3 := mt (aAO _ _).mpr c3
      refine And.intro (fun _ => ?_) (fun h9 => absurd h9 (by decide))
      have f4 := aAT p1
      refine And.intro (fun c5 => ?_) ?_
      · skip
        have c5 := (zJ _ _).mp c5
        refine And.intro (aBZ (by omega)) ?_
        exact hpost _ 
      refine And.intro (fun c6 => ?_) ?_
      · skip
        have c6 := (zJ _ _).mp c6
        refine And.intro (aBZ (by omega)) ?_
        exact hpost _ 
      refine And.intro (fun c7 => ?_) ?_
      · skip
        have c7 := (zJ _ _).mp c7
        refine And.intro (aBZ (by omega)) ?_
        intro v8 ev8
        have hv8 := congrArg Int32.toInt ev8
        intro v10 ev10
        have hv10 := congrArg Int32.toInt ev10
        exact hpost _ 
      intro c12 c13 c14
      have c12 := mt (zJ _ _).mpr c12
      have c13 := mt (zJ _ _).mpr c13
      have c14 := mt (zJ _ _).mpr c14
      exact hpx
set_option maxHeartbeats 8000000 in
set_option maxRecDepth 200000 in
theorem t_X9_set {post : Int32 → (Nat → Int32) → Prop} {p0 p1 : Int32} {dY : Nat → Int32} (hpost : ∀ (r : Int32) (tr_settings' : Nat → Int32), post r tr_settings') : wp_X9_set post p0 p1 dY := by
  have l0 := aE0
  have l1 := li_4
  have f2 := aAT p0
  refine And.intro (fun c1 => ?_) (fun c1 => ?_)
  · skip
    have c1 := (aAd _ _).mp c1
    exact hpost _ _ 
  · skip
    have c1 := mt (aAd _ _).mpr c1
    refine And.intro (fun c3 => ?_) (fun c3 => ?_)
    · skip
      have c3 := (aAd _ _).mp c3
      exact hpost _ _ 
    · skip
      have c3 := mt (aAd _ _).mpr c3
      refine And.intro (aBZ (by omega)) ?_
      have f5 := aAT p1
      refine And.intro (fun c4 => ?_) (fun c4 => ?_)
      · skip
        have c4 := (aAd _ _).mp c4
        exact hpost _ _ 
      · skip
        have c4 := mt (aAd _ _).mpr c4
        refine And.intro (aBZ (by omega)) ?_
        refine And.intro (fun c7 => ?_) (fun c7 => ?_)
        · skip
          have c7 := (aAO _ _).mp c7
          refine And.intro (aBZ (by omega)) ?_
          intro v9 ev9
          have hv9 := congrArg Int32.toInt ev9
          refine And.intro (aBZ (by omega)) ?_
          exact hpost _ _ 
        · skip
          have c7 := mt (aAO _ _).mpr c7
          exact hpost _ _ 
set_option maxHeartbeats 8000000 in
set_option maxRecDepth 200000 in
theorem ts_X3_fillWorths_70 {post : Int32 → (Nat → Int32) → Prop} {K9 : Int32 → Int32 → Int32 → Int32 → Int32 → Int32 → (Nat → Int32) → Prop} {n9 : Int} (dN : Int32) (xL : 0 ≤ Int32.toInt dN ∧ Int32.toInt dN ≤ 16) (hpost : ∀ (r : Int32) (aJW : Nat → Int32), post r aJW) (hK9 : ∀ (x1 : Int32) (x2 : Int32) (x4 : Int32) (x5 : Int32) (x6 : Int32) (x7 : Int32) (pL : Nat → Int32), (0 ≤ Int32.toInt x1 ∧ Int32.toInt x1 ≤ 2) → (0 ≤ Int32.toInt x2 ∧ Int32.toInt x2 ≤ 16) → (0 ≤ Int32.toInt x7 ∧ Int32.toInt x7 ≤ 16) → (16 - Int32.toInt x7 < n9) → K9 x1 x2 x4 x5 x6 x7 pL) (x1 x2 x4 x5 x6 x7 k1 k2 : Int32) (pL : Nat → Int32) (aBK : 0 ≤ Int32.toInt x1 ∧ Int32.toInt x1 ≤ 2) (aBN : 0 ≤ Int32.toInt x2 ∧ Int32.toInt x2 ≤ 16) (h_x7 : 0 ≤ Int32.toInt x7 ∧ Int32.toInt x7 ≤ 15) (h_k1 : 0 ≤ Int32.toInt k1 ∧ Int32.toInt k1 ≤ 15) (h_k2 : 0 ≤ Int32.toInt k2 ∧ Int32.toInt k2 ≤ 9) (hn9 : 16 - Int32.toInt x7 ≤ n9) : aRF post K9 dN x1 x2 x4 x5 x6 x7 k1 k2 pL := by
  have l0 := aEc
  refine And.intro (aBZ (by omega)) ?_
  refine And.intro (aBZ (by omega)) ?_
  intro v1 ev1
  have hv1 := congrArg Int32.toInt ev1
  intro v3 ev3
  have hv3 := congrArg Int32.toInt ev3
  intro v5 ev5
  have f6 : Int32.toInt (x7 + 1) = Int32.toInt x7 + Int32.toInt (1 : Int32) := aAD _ _ (by omega)
  rw [← ev5] at f6
  have f7 := aAT x4
  have f8 := aAT v1
  have f9 := aAT v3
  exact hK9 x1 x2 x4 v1 v3 v5 (upd pL k1.toNatClampNeg k2) aBK aBN (by omega) (by omega)
set_option maxHeartbeats 8000000 in
set_option maxRecDepth 200000 in
theorem ts_X3_fillWorths_41 {post : Int32 → (Nat → Int32) → Prop} {K9 : Int32 → Int32 → Int32 → Int32 → Int32 → Int32 → (Nat → Int32) → Prop} {n9 : Int} (dN : Int32) (xL : 0 ≤ Int32.toInt dN ∧ Int32.toInt dN ≤ 16) (hpost : ∀ (r : Int32) (aJW : Nat → Int32), post r aJW) (hK9 : ∀ (x1 : Int32) (x2 : Int32) (x4 : Int32) (x5 : Int32) (x6 : Int32) (x7 : Int32) (pL : Nat → Int32), (0 ≤ Int32.toInt x1 ∧ Int32.toInt x1 ≤ 2) → (0 ≤ Int32.toInt x2 ∧ Int32.toInt x2 ≤ 16) → (0 ≤ Int32.toInt x7 ∧ Int32.toInt x7 ≤ 16) → (16 - Int32.toInt x7 < n9) → K9 x1 x2 x4 x5 x6 x7 pL) (x1 x2 x4 x5 x6 x7 k0 : Int32) (pL : Nat → Int32) (aBK : 0 ≤ Int32.toInt x1 ∧ Int32.toInt x1 ≤ 2) (aBN : 0 ≤ Int32.toInt x2 ∧ Int32.toInt x2 ≤ 16) (h_x7 : 0 ≤ Int32.toInt x7 ∧ Int32.toInt x7 ≤ 15) (hn9 : 16 - Int32.toInt x7 ≤ n9) : aXE post K9 dN x1 x2 x4 x5 x6 x7 k0 pL := by
  have l0 := aE0
  have l1 := li_9
  refine And.intro (fun c10 => ?_) (fun c10 => ?_)
  · skip
    have c10 := (aAO _ _).mp c10
    have f11 := aAT x4
    have f12 := aAT x5
    have f13 := aAT x6
    exact ts_X3_fillWorths_70 dN xL hpost hK9 x1 x2 x4 x5 x6 x7 x7 0 pL aBK aBN h_x7 h_x7 (by omega) hn9
  · skip
    have c10 := mt (aAO _ _).mpr c10
    intro v14 ev14
    have f15 := aAT (if k0 < 9 then k0 else 9)
    have f17 := aAT k0
    have f16 := ti_min (9 : Int32) k0
    have hv14 := congrArg Int32.toInt ev14
    intro v18 ev18
    have f20 := aAT v14
    have f19 := ti_max (0 : Int32) v14
    have hv18 := congrArg Int32.toInt ev18
    have f21 := aAT x4
    have f22 := aAT x5
    have f23 := aAT x6
    exact ts_X3_fillWorths_70 dN xL hpost hK9 x1 x2 x4 x5 x6 x7 x7 v18 pL aBK aBN h_x7 h_x7 (by omega) hn9
set_option maxHeartbeats 8000000 in
set_option maxRecDepth 200000 in
theorem ts_X3_fillWorths_9 {post : Int32 → (Nat → Int32) → Prop} {next : Int32 → Int32 → Int32 → Int32 → Int32 → Int32 → (Nat → Int32) → Prop} {n9 : Int} (dN : Int32) (xL : 0 ≤ Int32.toInt dN ∧ Int32.toInt dN ≤ 16) (hpost : ∀ (r : Int32) (aJW : Nat → Int32), post r aJW) (hKn : ∀ (x1 : Int32) (x2 : Int32) (x4 : Int32) (x5 : Int32) (x6 : Int32) (x7 : Int32) (pL : Nat → Int32), (0 ≤ Int32.toInt x1 ∧ Int32.toInt x1 ≤ 2) → (0 ≤ Int32.toInt x2 ∧ Int32.toInt x2 ≤ 16) → (0 ≤ Int32.toInt x7 ∧ Int32.toInt x7 ≤ 16) → (16 - Int32.toInt x7 < n9) → next x1 x2 x4 x5 x6 x7 pL) (x1 x2 x4 x5 x6 x7 : Int32) (pL : Nat → Int32) (aBK : 0 ≤ Int32.toInt x1 ∧ Int32.toInt x1 ≤ 2) (aBN : 0 ≤ Int32.toInt x2 ∧ Int32.toInt x2 ≤ 16) (h_x7 : 0 ≤ Int32.toInt x7 ∧ Int32.toInt x7 ≤ 16) (hn9 : 16 - Int32.toInt x7 ≤ n9) : ws_X3_fillWorths_9 post next dN x1 x2 x4 x5 x6 x7 pL := by
  have l0 := aE0
  have l1 := aEc
  refine And.intro (fun c24 => ?_) (fun c24 => ?_)
  · skip
    have c24 := (aAO _ _).mp c24
    exact hpost _ _ 
  · skip
    have c24 := mt (aAO _ _).mpr c24
    refine And.intro (fun c25 => ?_) (fun c25 => ?_)
    · skip
      have c25 := mt (zJ _ _).mpr c25
      refine And.intro (fun c26 => ?_) (fun c26 => ?_)
      · skip
        have c26 := mt (zJ _ _).mpr c26
        have f27 := aAT x4
        have f28 := aAT x5
        have f29 := aAT x6
        exact ts_X3_fillWorths_41 dN xL hpost hKn x1 x2 x4 x5 x6 x7 x6 pL aBK aBN (by omega) hn9
      · skip
        have c26 := (zJ _ _).mp c26
        intro v30 ev30
        have hv30 := ti_i2s x6
        rw [← ev30] at hv30
        have f31 := aAT x4
        have f32 := aAT x5
        have f33 := aAT x6
        exact ts_X3_fillWorths_41 dN xL hpost hKn x1 x2 x4 x5 x6 x7 v30 pL aBK aBN (by omega) hn9
    · skip
      have c25 := (zJ _ _).mp c25
      intro v34 ev34
      have hv34 := ti_i2b x6
      rw [← ev34] at hv34
      have f35 := aAT x4
      have f36 := aAT x5
      have f37 := aAT x6
      exact ts_X3_fillWorths_41 dN xL hpost hKn x1 x2 x4 x5 x6 x7 v34 pL aBK aBN (by omega) hn9
set_option maxHeartbeats 8000000 in
set_option maxRecDepth 200000 in
theorem tb_X3_fillWorths_9 {post : Int32 → (Nat → Int32) → Prop} (dN : Int32) (xL : 0 ≤ Int32.toInt dN ∧ Int32.toInt dN ≤ 16) (hpost : ∀ (r : Int32) (aJW : Nat → Int32), post r aJW) : ∀ (n : Nat) (x1 x2 x4 x5 x6 x7 : Int32) (pL : Nat → Int32), (0 ≤ Int32.toInt x1 ∧ Int32.toInt x1 ≤ 2) → (0 ≤ Int32.toInt x2 ∧ Int32.toInt x2 ≤ 16) → (0 ≤ Int32.toInt x7 ∧ Int32.toInt x7 ≤ 16) → (16 - Int32.toInt x7 < (n : Int)) → wb_X3_fillWorths_9 post dN n x1 x2 x4 x5 x6 x7 pL := by
  intro n
  induction n with
  | zero =>
    intro x1 x2 x4 x5 x6 x7 pL aBK aBN h_x7 hm
    exfalso; omega
  | succ n ih =>
    intro x1 x2 x4 x5 x6 x7 pL aBK aBN h_x7 hm
    exact ts_X3_fillWorths_9 dN xL hpost ih x1 x2 x4 x5 x6 x7 pL aBK aBN h_x7 (by omega)
set_option maxHeartbeats 8000000 in
set_option maxRecDepth 200000 in
theorem t_X3_fillWorths {post : Int32 → (Nat → Int32) → Prop} {p0 p1 p2 p3 dN : Int32} {pL : Nat → Int32} (h_p0 : 0 ≤ Int32.toInt p0 ∧ Int32.toInt p0 ≤ 2) (h_p1 : 0 ≤ Int32.toInt p1 ∧ Int32.toInt p1 ≤ 16) (xL : 0 ≤ Int32.toInt dN ∧ Int32.toInt dN ≤ 16) (hpost : ∀ (r : Int32) (aJW : Nat → Int32), post r aJW) : bCX post p0 p1 p2 p3 dN pL := by
  have l0 := aE0
  have f38 := aAT p3
  have f39 := aAT p2
  exact ⟨18, tb_X3_fillWorths_9 dN xL hpost _ p0 p1 p3 0 p2 0 pL h_p0 h_p1 (by omega) (by omega)⟩
